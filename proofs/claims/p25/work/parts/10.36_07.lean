/-! 36.07 -/
section
def ws_X12_measure_120 : List (Int × Int) := [(120, 106)]
def as_X12_measure_120 : List Int := [180, 181]
def q_X12_measure_120 (M0 M' : Mem) (r : Option PV) : Prop := St Tru ws_X12_measure_120 as_X12_measure_120 M0 M' ∧ ∃ v : Int, r = some (0, v) ∧ (-1) ≤ v ∧ v ≤ 12
set_option maxRecDepth 100000 in
set_option maxHeartbeats 4000000 in
theorem sp_X12_measure_120 {l : Launch} {K : EC} {M0 : Mem} (hI : In Tru M0)  (a1 : Int) (ha1 : (-2147483648) ≤ a1 ∧ a1 ≤ 2147483647)  : Tr l K 1 mX12_measure 0 [(0, (2, 120)), (1, (0, a1))] [] M0 (q_X12_measure_120 M0) := by
  have hS : St Tru ws_X12_measure_120 as_X12_measure_120 M0 M0 := St.rf hI
  refine Tr.iload_n (pc := 0) (i := 1) d_X12_measure_0 rfl rfl ?_
  refine Tr.iconst (pc := 1) d_X12_measure_1 (by decide) ?_
  refine Tr.ldcw (pc := 2) d_X12_measure_2 k_12_688 (by decide) ?_
  refine Tr.callS (pc := 5) (as := [_, _, _]) d_X12_measure_5 s_12_467 ok_X12_is rfl rfl (Nat.le_of_ble_eq_true rfl) (Nat.le_of_ble_eq_true rfl) ?_
  refine Tr.imp (Tr.deep (by decide) (sp_X12_is hS.1 a1 (by omega) 0 (by omega) 10000000 (by omega))) ?_
  rintro M5 _ ⟨h5, r5, rfl, lr5, ur5, wr5⟩
  have hS := St.tr hS h5 (by decide) (by decide)
  refine Tr.sc [(0, r5)] rfl ?_
  refine Tr.if_eq (pc := 8) (tgt := 20) d_X12_measure_8 rfl (fun c8 => ?_) (fun c8 => ?_)
  · refine Tr.iconst (pc := 20) d_X12_measure_20 (by decide) ?_
    exact Tr.iret (pc := 21) d_X12_measure_21 rfl ⟨hS, _, rfl, by omega, by omega⟩
  · refine Tr.aload_n (pc := 11) (i := 0) d_X12_measure_11 rfl rfl ?_
    refine Tr.getf (pc := 12) d_X12_measure_12 f_12_333 (by decide) (by decide) (ty_120 hS.1.1) ?_
    refine Tr.gen (P := fun v => 0 ≤ v ∧ v ≤ 12) (ir_120_106 hS.1.2.1) (fun r12 er12 br12 => ?_)
    refine Tr.bipush (pc := 15) d_X12_measure_15 rfl (by decide) ?_
    refine Tr.icmp_ne (pc := 17) (tgt := 22) d_X12_measure_17 rfl (fun c17 => ?_) (fun c17 => ?_)
    · refine Tr.iconst (pc := 22) d_X12_measure_22 (by decide) ?_
      refine Tr.istore_n (pc := 23) (i := 2) (ls2 := [(2, (0, 0)), (0, (2, 120)), (1, (0, a1))]) d_X12_measure_23 rfl (by decide) rfl ?_
      have J24 : ∀ (n24 : Nat) (M : Mem) (p24_2 : Int), St Tru ws_X12_measure_120 as_X12_measure_120 M0 M → (0 ≤ p24_2 ∧ p24_2 ≤ 3) → rd M 120 106 = r12 → (3 - p24_2).toNat < n24 → Tr l K 1 mX12_measure 24 [(0, (2, 120)), (1, (0, a1)), (2, (0, p24_2))] [] M (q_X12_measure_120 M0) := by
        intro n24
        induction n24 with
        | zero => intro M p24_2 hS bp24_2 k24_120_106 hm24; exact absurd hm24 (Nat.not_lt_zero _)
        | succ n24 J24 =>
          intro M p24_2 hS bp24_2 k24_120_106 hm24
          refine Tr.iload_n (pc := 24) (i := 2) d_X12_measure_24 rfl rfl ?_
          refine Tr.iconst (pc := 25) d_X12_measure_25 (by decide) ?_
          refine Tr.icmp_ge (pc := 26) (tgt := 54) d_X12_measure_26 rfl (fun c26 => ?_) (fun c26 => ?_)
          · refine Tr.aload_n (pc := 54) (i := 0) d_X12_measure_54 rfl rfl ?_
            refine Tr.getf (pc := 55) d_X12_measure_55 f_12_339 (by decide) (by decide) (ty_120 hS.1.1) ?_
            refine Tr.tp 181 (fx_120_108 hS.1.1) ?_
            refine Tr.aload_n (pc := 58) (i := 0) d_X12_measure_58 rfl rfl ?_
            refine Tr.getf (pc := 59) d_X12_measure_59 f_12_333 (by decide) (by decide) (ty_120 hS.1.1) ?_
            refine Tr.tp r12 k24_120_106 ?_
            refine Tr.iload_n (pc := 62) (i := 1) d_X12_measure_62 rfl rfl ?_
            refine Tr.iastS (pc := 63) (P := St Tru ws_X12_measure_120 as_X12_measure_120 M0) d_X12_measure_63 (ty_181 hS.1.1) (by omega) (by omega) (sa_181 hS (by decide) (by omega) trivial) (fun M63 hS w63 => ?_)
            refine Tr.aload_n (pc := 64) (i := 0) d_X12_measure_64 rfl rfl ?_
            refine Tr.dup (pc := 65) d_X12_measure_65 ne21 ?_
            refine Tr.getf (pc := 66) d_X12_measure_66 f_12_333 (by decide) (by decide) (ty_120 hS.1.1) ?_
            refine Tr.tp r12 ((Wr.b w63 rfl).trans k24_120_106) ?_
            refine Tr.iconst (pc := 69) d_X12_measure_69 (by decide) ?_
            refine Tr.iadd (pc := 70) d_X12_measure_70 ?_
            refine Tr.tp (r12 + 1) ((w32_id (by omega)).trans (by omega)) ?_
            refine Tr.putfS (pc := 71) (P := St Tru ws_X12_measure_120 as_X12_measure_120 M0) d_X12_measure_71 f_12_333 (by decide) (by decide) (ty_120 hS.1.1) (st_120_106 hS (by decide) (by omega) trivial) (fun M71 hS w71 => ?_)
            refine Tr.aload_n (pc := 74) (i := 0) d_X12_measure_74 rfl rfl ?_
            refine Tr.getf (pc := 75) d_X12_measure_75 f_12_333 (by decide) (by decide) (ty_120 hS.1.1) ?_
            refine Tr.tp (r12 + 1) w71.1 ?_
            exact Tr.iret (pc := 78) d_X12_measure_78 rfl ⟨hS, _, rfl, by omega, by omega⟩
          · refine Tr.aload_n (pc := 29) (i := 0) d_X12_measure_29 rfl rfl ?_
            refine Tr.getf (pc := 30) d_X12_measure_30 f_12_336 (by decide) (by decide) (ty_120 hS.1.1) ?_
            refine Tr.tp 180 (fx_120_107 hS.1.1) ?_
            refine Tr.iconst (pc := 33) d_X12_measure_33 (by decide) ?_
            refine Tr.aload_n (pc := 34) (i := 0) d_X12_measure_34 rfl rfl ?_
            refine Tr.getf (pc := 35) d_X12_measure_35 f_12_333 (by decide) (by decide) (ty_120 hS.1.1) ?_
            refine Tr.tp r12 k24_120_106 ?_
            refine Tr.imul (pc := 38) d_X12_measure_38 ?_
            refine Tr.tp (3 * r12) ((w32_id (by omega)).trans (by omega)) ?_
            refine Tr.iload_n (pc := 39) (i := 2) d_X12_measure_39 rfl rfl ?_
            refine Tr.iadd (pc := 40) d_X12_measure_40 ?_
            refine Tr.tp (p24_2 + 3 * r12) ((w32_id (by omega)).trans (by omega)) ?_
            refine Tr.aload_n (pc := 41) (i := 0) d_X12_measure_41 rfl rfl ?_
            refine Tr.getf (pc := 42) d_X12_measure_42 f_12_168 (by decide) (by decide) (ty_120 hS.1.1) ?_
            refine Tr.tp 153 (fx_120_51 hS.1.1) ?_
            refine Tr.iload_n (pc := 45) (i := 2) d_X12_measure_45 rfl rfl ?_
            refine Tr.iald (pc := 46) d_X12_measure_46 (ty_153 hS.1.1) (by omega) (by omega) ?_
            refine Tr.gen (P := fun v => (-2147483648) ≤ v ∧ v ≤ 2147483647) (ar_153 hS.1.2.1 _) (fun r46 er46 br46 => ?_)
            refine Tr.iastS (pc := 47) (P := St Tru ws_X12_measure_120 as_X12_measure_120 M0) d_X12_measure_47 (ty_180 hS.1.1) (by omega) (by omega) (sa_180 hS (by decide) (by omega) trivial) (fun M47 hS w47 => ?_)
            refine Tr.iincV (pc := 48) (n2 := (p24_2 + 1)) (ls2 := [(2, (0, (p24_2 + 1))), (0, (2, 120)), (1, (0, a1))]) d_X12_measure_48 rfl (by decide) ((w32_id (by omega)).trans (by omega)) rfl ?_
            refine Tr.goto (pc := 51) (tgt := 24) d_X12_measure_51 rfl ?_
            refine Tr.pick [1, 2, 0] (ls2 := [(0, (2, 120)), (1, (0, a1)), (2, (0, (p24_2 + 1)))]) rfl ?_
            exact J24 _ _ hS (by omega) ((Wr.b w47 rfl).trans k24_120_106) (by omega)
      refine Tr.pick [1, 2, 0] (ls2 := [(0, (2, 120)), (1, (0, a1)), (2, (0, 0))]) rfl ?_
      exact J24 _ _ _ hS (by omega) er12 (Nat.lt_succ_self _)
    · refine Tr.iconst (pc := 20) d_X12_measure_20 (by decide) ?_
      exact Tr.iret (pc := 21) d_X12_measure_21 rfl ⟨hS, _, rfl, by omega, by omega⟩

def ws_X12_span_120 : List (Int × Int) := []
def as_X12_span_120 : List Int := []
def q_X12_span_120 (M0 M' : Mem) (r : Option PV) : Prop := St Tru ws_X12_span_120 as_X12_span_120 M0 M' ∧ ∃ v : Int, r = some (0, v) ∧ (-2147483648) ≤ v ∧ v ≤ 2147483647
set_option maxRecDepth 100000 in
set_option maxHeartbeats 4000000 in
theorem sp_X12_span_120 {l : Launch} {K : EC} {M0 : Mem} (hI : In Tru M0) (en_120_12 : rd M0 120 12 = 0) (a1 : Int) (ha1 : 0 ≤ a1 ∧ a1 ≤ 2)  : Tr l K 0 mX12_span 0 [(0, (2, 120)), (1, (0, a1))] [] M0 (q_X12_span_120 M0) := by
  have hS : St Tru ws_X12_span_120 as_X12_span_120 M0 M0 := St.rf hI
  refine Tr.iload_n (pc := 0) (i := 1) d_X12_span_0 rfl rfl ?_
  refine Tr.aload_n (pc := 1) (i := 0) d_X12_span_1 rfl rfl ?_
  refine Tr.getf (pc := 2) d_X12_span_2 f_12_66 (by decide) (by decide) (ty_120 hS.1.1) ?_
  refine Tr.tp 127 (fx_120_18 hS.1.1) ?_
  refine Tr.aload_n (pc := 5) (i := 0) d_X12_span_5 rfl rfl ?_
  refine Tr.getf (pc := 6) d_X12_span_6 f_12_48 (by decide) (by decide) (ty_120 hS.1.1) ?_
  refine Tr.tp 0 ((St.kp hS (by decide) (by decide) (by decide)).trans en_120_12) ?_
  refine Tr.iald (pc := 9) d_X12_span_9 (ty_127 hS.1.1) (by omega) (by omega) ?_
  refine Tr.gen (P := fun v => 0 ≤ v ∧ v ≤ 3) (ir_127_0 hS.1.2.1) (fun r9 er9 br9 => ?_)
  refine Tr.icmp_ge (pc := 10) (tgt := 45) d_X12_span_10 rfl (fun c10 => ?_) (fun c10 => ?_)
  · refine Tr.iconst (pc := 45) d_X12_span_45 (by decide) ?_
    exact Tr.iret (pc := 46) d_X12_span_46 rfl ⟨hS, _, rfl, by omega, by omega⟩
  · refine Tr.aload_n (pc := 13) (i := 0) d_X12_span_13 rfl rfl ?_
    refine Tr.getf (pc := 14) d_X12_span_14 f_12_88 (by decide) (by decide) (ty_120 hS.1.1) ?_
    refine Tr.tp 134 (fx_120_25 hS.1.1) ?_
    refine Tr.iconst (pc := 17) d_X12_span_17 (by decide) ?_
    refine Tr.aload_n (pc := 18) (i := 0) d_X12_span_18 rfl rfl ?_
    refine Tr.getf (pc := 19) d_X12_span_19 f_12_48 (by decide) (by decide) (ty_120 hS.1.1) ?_
    refine Tr.tp 0 ((St.kp hS (by decide) (by decide) (by decide)).trans en_120_12) ?_
    refine Tr.imul (pc := 22) d_X12_span_22 ?_
    refine Tr.tp 0 (by decide) ?_
    refine Tr.iload_n (pc := 23) (i := 1) d_X12_span_23 rfl rfl ?_
    refine Tr.iadd (pc := 24) d_X12_span_24 ?_
    refine Tr.tp a1 ((w32_id (by omega)).trans (by omega)) ?_
    refine Tr.iald (pc := 25) d_X12_span_25 (ty_134 hS.1.1) (by omega) (by omega) ?_
    refine Tr.gen (P := fun v => (-2147483648) ≤ v ∧ v ≤ 2147483647) (ar_134 hS.1.2.1 _) (fun r25 er25 br25 => ?_)
    refine Tr.aload_n (pc := 26) (i := 0) d_X12_span_26 rfl rfl ?_
    refine Tr.getf (pc := 27) d_X12_span_27 f_12_85 (by decide) (by decide) (ty_120 hS.1.1) ?_
    refine Tr.tp 133 (fx_120_24 hS.1.1) ?_
    refine Tr.iconst (pc := 30) d_X12_span_30 (by decide) ?_
    refine Tr.aload_n (pc := 31) (i := 0) d_X12_span_31 rfl rfl ?_
    refine Tr.getf (pc := 32) d_X12_span_32 f_12_48 (by decide) (by decide) (ty_120 hS.1.1) ?_
    refine Tr.tp 0 ((St.kp hS (by decide) (by decide) (by decide)).trans en_120_12) ?_
    refine Tr.imul (pc := 35) d_X12_span_35 ?_
    refine Tr.tp 0 (by decide) ?_
    refine Tr.iload_n (pc := 36) (i := 1) d_X12_span_36 rfl rfl ?_
    refine Tr.iadd (pc := 37) d_X12_span_37 ?_
    refine Tr.tp a1 ((w32_id (by omega)).trans (by omega)) ?_
    refine Tr.iald (pc := 38) d_X12_span_38 (ty_133 hS.1.1) (by omega) (by omega) ?_
    refine Tr.gen (P := fun v => (-2147483648) ≤ v ∧ v ≤ 2147483647) (ar_133 hS.1.2.1 _) (fun r38 er38 br38 => ?_)
    refine Tr.isub (pc := 39) d_X12_span_39 ?_
    refine Tr.gen (P := fun v => (-2147483648) ≤ v ∧ v ≤ 2147483647) (w32_b _) (fun r39 er39 br39 => ?_)
    refine Tr.iconst (pc := 40) d_X12_span_40 (by decide) ?_
    refine Tr.iadd (pc := 41) d_X12_span_41 ?_
    refine Tr.gen (P := fun v => (-2147483648) ≤ v ∧ v ≤ 2147483647) (w32_b _) (fun r41 er41 br41 => ?_)
    refine Tr.goto (pc := 42) (tgt := 46) d_X12_span_42 rfl ?_
    exact Tr.iret (pc := 46) d_X12_span_46 rfl ⟨hS, _, rfl, by omega, by omega⟩

def ws_X12_lowOf_120 : List (Int × Int) := []
def as_X12_lowOf_120 : List Int := []
def q_X12_lowOf_120 (M0 M' : Mem) (r : Option PV) : Prop := St Tru ws_X12_lowOf_120 as_X12_lowOf_120 M0 M' ∧ ∃ v : Int, r = some (0, v) ∧ (-2147483648) ≤ v ∧ v ≤ 2147483647
set_option maxRecDepth 100000 in
set_option maxHeartbeats 4000000 in
theorem sp_X12_lowOf_120 {l : Launch} {K : EC} {M0 : Mem} (hI : In Tru M0) (en_120_12 : rd M0 120 12 = 0) (a1 : Int) (ha1 : 0 ≤ a1 ∧ a1 ≤ 2)  : Tr l K 0 mX12_lowOf 0 [(0, (2, 120)), (1, (0, a1))] [] M0 (q_X12_lowOf_120 M0) := by
  have hS : St Tru ws_X12_lowOf_120 as_X12_lowOf_120 M0 M0 := St.rf hI
  refine Tr.iload_n (pc := 0) (i := 1) d_X12_lowOf_0 rfl rfl ?_
  refine Tr.aload_n (pc := 1) (i := 0) d_X12_lowOf_1 rfl rfl ?_
  refine Tr.getf (pc := 2) d_X12_lowOf_2 f_12_66 (by decide) (by decide) (ty_120 hS.1.1) ?_
  refine Tr.tp 127 (fx_120_18 hS.1.1) ?_
  refine Tr.aload_n (pc := 5) (i := 0) d_X12_lowOf_5 rfl rfl ?_
  refine Tr.getf (pc := 6) d_X12_lowOf_6 f_12_48 (by decide) (by decide) (ty_120 hS.1.1) ?_
  refine Tr.tp 0 ((St.kp hS (by decide) (by decide) (by decide)).trans en_120_12) ?_
  refine Tr.iald (pc := 9) d_X12_lowOf_9 (ty_127 hS.1.1) (by omega) (by omega) ?_
  refine Tr.gen (P := fun v => 0 ≤ v ∧ v ≤ 3) (ir_127_0 hS.1.2.1) (fun r9 er9 br9 => ?_)
  refine Tr.icmp_ge (pc := 10) (tgt := 29) d_X12_lowOf_10 rfl (fun c10 => ?_) (fun c10 => ?_)
  · refine Tr.iconst (pc := 29) d_X12_lowOf_29 (by decide) ?_
    exact Tr.iret (pc := 30) d_X12_lowOf_30 rfl ⟨hS, _, rfl, by omega, by omega⟩
  · refine Tr.aload_n (pc := 13) (i := 0) d_X12_lowOf_13 rfl rfl ?_
    refine Tr.getf (pc := 14) d_X12_lowOf_14 f_12_85 (by decide) (by decide) (ty_120 hS.1.1) ?_
    refine Tr.tp 133 (fx_120_24 hS.1.1) ?_
    refine Tr.iconst (pc := 17) d_X12_lowOf_17 (by decide) ?_
    refine Tr.aload_n (pc := 18) (i := 0) d_X12_lowOf_18 rfl rfl ?_
    refine Tr.getf (pc := 19) d_X12_lowOf_19 f_12_48 (by decide) (by decide) (ty_120 hS.1.1) ?_
    refine Tr.tp 0 ((St.kp hS (by decide) (by decide) (by decide)).trans en_120_12) ?_
    refine Tr.imul (pc := 22) d_X12_lowOf_22 ?_
    refine Tr.tp 0 (by decide) ?_
    refine Tr.iload_n (pc := 23) (i := 1) d_X12_lowOf_23 rfl rfl ?_
    refine Tr.iadd (pc := 24) d_X12_lowOf_24 ?_
    refine Tr.tp a1 ((w32_id (by omega)).trans (by omega)) ?_
    refine Tr.iald (pc := 25) d_X12_lowOf_25 (ty_133 hS.1.1) (by omega) (by omega) ?_
    refine Tr.gen (P := fun v => (-2147483648) ≤ v ∧ v ≤ 2147483647) (ar_133 hS.1.2.1 _) (fun r25 er25 br25 => ?_)
    refine Tr.goto (pc := 26) (tgt := 30) d_X12_lowOf_26 rfl ?_
    exact Tr.iret (pc := 30) d_X12_lowOf_30 rfl ⟨hS, _, rfl, by omega, by omega⟩

def ws_X12_over_120 : List (Int × Int) := [(120, 59), (120, 60), (120, 61), (120, 62), (120, 63), (120, 64), (120, 65), (120, 66), (120, 67), (120, 68), (120, 75), (120, 79), (120, 84), (120, 104)]
def as_X12_over_120 : List Int := [154, 155, 156, 157, 158, 159, 160, 161, 162, 163, 164, 165, 166, 167, 168, 169, 170, 171, 172, 179]
def q_X12_over_120 (a1 : Int) (M0 M' : Mem) (r : Option PV) : Prop := St Tru ws_X12_over_120 as_X12_over_120 M0 M' ∧ ∃ v : Int, r = some (0, v) ∧ (-2147483648) ≤ v ∧ v ≤ 2147483647 ∧ (rd M' 120 59 = -1)
set_option maxRecDepth 100000 in
set_option maxHeartbeats 4000000 in
theorem sp_X12_over_120 {l : Launch} {K : EC} {M0 : Mem} (hI : In Tru M0) (en_120_12 : rd M0 120 12 = 0) (a1 : Int) (ha1 : 0 ≤ a1 ∧ a1 ≤ 1)  (hq0 : rd M0 120 59 = -1) (hF_Bk0 : Bk0 M0) : Tr l K 8 mX12_over 0 [(0, (2, 120)), (1, (0, a1))] [] M0 (q_X12_over_120 a1 M0) := by
  have hS : St Tru ws_X12_over_120 as_X12_over_120 M0 M0 := St.rf hI
  obtain ⟨g120_59, eg120_59⟩ : ∃ v, rd M0 120 59 = v := ⟨_, rfl⟩
  have bg120_59 : (-1) ≤ g120_59 ∧ g120_59 ≤ 5 := by rw [← eg120_59]; exact ir_120_59 hI.2.1
  refine Tr.aload_n (pc := 0) (i := 0) d_X12_over_0 rfl rfl ?_
  refine Tr.iconst (pc := 1) d_X12_over_1 (by decide) ?_
  refine Tr.callV (pc := 2) (as := [_]) d_X12_over_2 s_12_680 ok_X12_span rfl rfl (Nat.le_of_ble_eq_true rfl) (Nat.le_of_ble_eq_true rfl) (by decide) (ty_120 hS.1.1) ?_
  refine Tr.imp (Tr.deep (by decide) (sp_X12_span_120 hS.1 ((St.kp hS (by decide) (by decide) (by decide)).trans en_120_12) 0 (by omega))) ?_
  rintro M2 _ ⟨h2, r2, rfl, lr2, ur2⟩
  have hS := St.tr hS h2 (by decide) (by decide)
  refine Tr.sc [(0, r2)] rfl ?_
  refine Tr.aload_n (pc := 5) (i := 0) d_X12_over_5 rfl rfl ?_
  refine Tr.iconst (pc := 6) d_X12_over_6 (by decide) ?_
  refine Tr.callV (pc := 7) (as := [_]) d_X12_over_7 s_12_680 ok_X12_span rfl rfl (Nat.le_of_ble_eq_true rfl) (Nat.le_of_ble_eq_true rfl) (by decide) (ty_120 hS.1.1) ?_
  refine Tr.imp (Tr.deep (by decide) (sp_X12_span_120 hS.1 ((St.kp hS (by decide) (by decide) (by decide)).trans en_120_12) 1 (by omega))) ?_
  rintro M7 _ ⟨h7, r7, rfl, lr7, ur7⟩
  have hS := St.tr hS h7 (by decide) (by decide)
  refine Tr.sc [(0, r7), (0, r2)] rfl ?_
  refine Tr.imul (pc := 10) d_X12_over_10 ?_
  refine Tr.gen (P := fun v => (-2147483648) ≤ v ∧ v ≤ 2147483647) (w32_b _) (fun r10 er10 br10 => ?_)
  refine Tr.aload_n (pc := 11) (i := 0) d_X12_over_11 rfl rfl ?_
  refine Tr.iconst (pc := 12) d_X12_over_12 (by decide) ?_
  refine Tr.callV (pc := 13) (as := [_]) d_X12_over_13 s_12_680 ok_X12_span rfl rfl (Nat.le_of_ble_eq_true rfl) (Nat.le_of_ble_eq_true rfl) (by decide) (ty_120 hS.1.1) ?_
  refine Tr.imp (Tr.deep (by decide) (sp_X12_span_120 hS.1 ((St.kp hS (by decide) (by decide) (by decide)).trans en_120_12) 2 (by omega))) ?_
  rintro M13 _ ⟨h13, r13, rfl, lr13, ur13⟩
  have hS := St.tr hS h13 (by decide) (by decide)
  refine Tr.sc [(0, r13), (0, r10)] rfl ?_
  refine Tr.imul (pc := 16) d_X12_over_16 ?_
  refine Tr.gen (P := fun v => (-2147483648) ≤ v ∧ v ≤ 2147483647) (w32_b _) (fun r16 er16 br16 => ?_)
  refine Tr.sipush (pc := 17) d_X12_over_17 rfl (by decide) ?_
  refine Tr.icmp_le (pc := 20) (tgt := 25) d_X12_over_20 rfl (fun c20 => ?_) (fun c20 => ?_)
  · refine Tr.lconst (pc := 25) (v := 0) d_X12_over_25 rfl (by decide) ?_
    refine Tr.lstore_n (pc := 26) (i := 2) (ls2 := [(2, (1, 0)), (0, (2, 120)), (1, (0, a1))]) d_X12_over_26 rfl (by decide) rfl ?_
    refine Tr.iconst (pc := 27) d_X12_over_27 (by decide) ?_
    refine Tr.istore (pc := 28) (i := 4) (ls2 := [(4, (0, 0)), (2, (1, 0)), (0, (2, 120)), (1, (0, a1))]) d_X12_over_28 (by decide) rfl ?_
    refine Tr.iconst (pc := 30) d_X12_over_30 (by decide) ?_
    refine Tr.istore (pc := 31) (i := 5) (ls2 := [(5, (0, 0)), (4, (0, 0)), (2, (1, 0)), (0, (2, 120)), (1, (0, a1))]) d_X12_over_31 (by decide) rfl ?_
    have J33 : ∀ (n33 : Nat) (M : Mem) (p33_2 p33_4 p33_5 u33_120_59 : Int), St Tru ws_X12_over_120 as_X12_over_120 M0 M → ((-9223372036854775808) ≤ p33_2 ∧ p33_2 ≤ 9223372036854775807) → (0 ≤ p33_4 ∧ p33_4 ≤ 1) → (0 ≤ p33_5 ∧ p33_5 ≤ 2147483647) → ((-1) ≤ u33_120_59 ∧ u33_120_59 ≤ 5) → rd M 120 59 = u33_120_59 → (u33_120_59 = -1) → (2147483647 - p33_5).toNat < n33 → Tr l K 8 mX12_over 33 [(0, (2, 120)), (1, (0, a1)), (2, (1, p33_2)), (4, (0, p33_4)), (5, (0, p33_5))] [] M (q_X12_over_120 a1 M0) := by
      intro n33
      induction n33 with
      | zero => intro M p33_2 p33_4 p33_5 u33_120_59 hS bp33_2 bp33_4 bp33_5 bu33_120_59 k33_120_59 t33_0 hm33; exact absurd hm33 (Nat.not_lt_zero _)
      | succ n33 J33 =>
        intro M p33_2 p33_4 p33_5 u33_120_59 hS bp33_2 bp33_4 bp33_5 bu33_120_59 k33_120_59 t33_0 hm33
        refine Tr.iload (pc := 33) (i := 5) d_X12_over_33 rfl ?_
        refine Tr.aload_n (pc := 35) (i := 0) d_X12_over_35 rfl rfl ?_
        refine Tr.iconst (pc := 36) d_X12_over_36 (by decide) ?_
        refine Tr.callV (pc := 37) (as := [_]) d_X12_over_37 s_12_680 ok_X12_span rfl rfl (Nat.le_of_ble_eq_true rfl) (Nat.le_of_ble_eq_true rfl) (by decide) (ty_120 hS.1.1) ?_
        refine Tr.imp (Tr.deep (by decide) (sp_X12_span_120 hS.1 ((St.kp hS (by decide) (by decide) (by decide)).trans en_120_12) 0 (by omega))) ?_
        rintro M37 _ ⟨h37, r37, rfl, lr37, ur37⟩
        have hS := St.tr hS h37 (by decide) (by decide)
        refine Tr.sc [(0, r37), (0, p33_5)] rfl ?_
        refine Tr.icmp_ge (pc := 40) (tgt := 208) d_X12_over_40 rfl (fun c40 => ?_) (fun c40 => ?_)
        · refine Tr.aload_n (pc := 208) (i := 0) d_X12_over_208 rfl rfl ?_
          refine Tr.iconst (pc := 209) d_X12_over_209 (by decide) ?_
          refine Tr.putzS (pc := 210) (P := St Tru ws_X12_over_120 as_X12_over_120 M0) d_X12_over_210 f_12_327 (by decide) (ty_120 hS.1.1) (by omega) (st_120_104 hS (by decide) (by omega) trivial) (fun M210 hS w210 => ?_)
          refine Tr.lload_n (pc := 213) (i := 2) d_X12_over_213 rfl rfl ?_
          refine Tr.l2i (pc := 214) d_X12_over_214 ?_
          refine Tr.gen (P := fun v => (-2147483648) ≤ v ∧ v ≤ 2147483647) (w32_b _) (fun r214 er214 br214 => ?_)
          have kr_120_59 : rd M210 120 59 = u33_120_59 := ((Wr.b w210 rfl).trans ((St.kp h37 (by decide) (by decide) (by decide)).trans k33_120_59))
          exact Tr.iret (pc := 215) d_X12_over_215 rfl ⟨hS, _, rfl, by omega, by omega, by omega⟩
        · refine Tr.iconst (pc := 43) d_X12_over_43 (by decide) ?_
          refine Tr.istore (pc := 44) (i := 6) (ls2 := [(6, (0, 0)), (0, (2, 120)), (1, (0, a1)), (2, (1, p33_2)), (4, (0, p33_4)), (5, (0, p33_5))]) d_X12_over_44 (by decide) rfl ?_
          have J46 : ∀ (n46 : Nat) (M : Mem) (p46_2 p46_4 p46_6 u46_120_59 : Int), St Tru ws_X12_over_120 as_X12_over_120 M0 M → ((-9223372036854775808) ≤ p46_2 ∧ p46_2 ≤ 9223372036854775807) → (0 ≤ p46_4 ∧ p46_4 ≤ 1) → (0 ≤ p46_6 ∧ p46_6 ≤ 2147483647) → ((-1) ≤ u46_120_59 ∧ u46_120_59 ≤ 5) → rd M 120 59 = u46_120_59 → (u46_120_59 = -1) → (2147483647 - p46_6).toNat < n46 → Tr l K 8 mX12_over 46 [(0, (2, 120)), (1, (0, a1)), (2, (1, p46_2)), (4, (0, p46_4)), (5, (0, p33_5)), (6, (0, p46_6))] [] M (q_X12_over_120 a1 M0) := by
            intro n46
            induction n46 with
            | zero => intro M p46_2 p46_4 p46_6 u46_120_59 hS bp46_2 bp46_4 bp46_6 bu46_120_59 k46_120_59 t46_0 hm46; exact absurd hm46 (Nat.not_lt_zero _)
            | succ n46 J46 =>
              intro M p46_2 p46_4 p46_6 u46_120_59 hS bp46_2 bp46_4 bp46_6 bu46_120_59 k46_120_59 t46_0 hm46
              refine Tr.iload (pc := 46) (i := 6) d_X12_over_46 rfl ?_
              refine Tr.aload_n (pc := 48) (i := 0) d_X12_over_48 rfl rfl ?_
              refine Tr.iconst (pc := 49) d_X12_over_49 (by decide) ?_
              refine Tr.callV (pc := 50) (as := [_]) d_X12_over_50 s_12_680 ok_X12_span rfl rfl (Nat.le_of_ble_eq_true rfl) (Nat.le_of_ble_eq_true rfl) (by decide) (ty_120 hS.1.1) ?_
              refine Tr.imp (Tr.deep (by decide) (sp_X12_span_120 hS.1 ((St.kp hS (by decide) (by decide) (by decide)).trans en_120_12) 1 (by omega))) ?_
              rintro M50 _ ⟨h50, r50, rfl, lr50, ur50⟩
              have hS := St.tr hS h50 (by decide) (by decide)
              refine Tr.sc [(0, r50), (0, p46_6)] rfl ?_
              refine Tr.icmp_ge (pc := 53) (tgt := 202) d_X12_over_53 rfl (fun c53 => ?_) (fun c53 => ?_)
              · refine Tr.iincV (pc := 202) (n2 := (p33_5 + 1)) (ls2 := [(5, (0, (p33_5 + 1))), (0, (2, 120)), (1, (0, a1)), (2, (1, p46_2)), (4, (0, p46_4)), (6, (0, p46_6))]) d_X12_over_202 rfl (by decide) ((w32_id (by omega)).trans (by omega)) rfl ?_
                refine Tr.goto (pc := 205) (tgt := 33) d_X12_over_205 rfl ?_
                refine Tr.pick [1, 2, 3, 4, 0] (ls2 := [(0, (2, 120)), (1, (0, a1)), (2, (1, p46_2)), (4, (0, p46_4)), (5, (0, (p33_5 + 1)))]) rfl ?_
                exact J33 _ _ _ _ _ hS (by omega) (by omega) (by omega) (by omega) ((St.kp h50 (by decide) (by decide) (by decide)).trans k46_120_59) (by omega) (by omega)
              · refine Tr.iconst (pc := 56) d_X12_over_56 (by decide) ?_
                refine Tr.istore (pc := 57) (i := 7) (ls2 := [(7, (0, 0)), (0, (2, 120)), (1, (0, a1)), (2, (1, p46_2)), (4, (0, p46_4)), (5, (0, p33_5)), (6, (0, p46_6))]) d_X12_over_57 (by decide) rfl ?_
                have J59 : ∀ (n59 : Nat) (M : Mem) (p59_2 p59_4 p59_7 u59_120_59 : Int), St Tru ws_X12_over_120 as_X12_over_120 M0 M → ((-9223372036854775808) ≤ p59_2 ∧ p59_2 ≤ 9223372036854775807) → (0 ≤ p59_4 ∧ p59_4 ≤ 1) → (0 ≤ p59_7 ∧ p59_7 ≤ 2147483647) → ((-1) ≤ u59_120_59 ∧ u59_120_59 ≤ 5) → rd M 120 59 = u59_120_59 → (u59_120_59 = -1) → (2147483647 - p59_7).toNat < n59 → Tr l K 8 mX12_over 59 [(0, (2, 120)), (1, (0, a1)), (2, (1, p59_2)), (4, (0, p59_4)), (5, (0, p33_5)), (6, (0, p46_6)), (7, (0, p59_7))] [] M (q_X12_over_120 a1 M0) := by
                  intro n59
                  induction n59 with
                  | zero => intro M p59_2 p59_4 p59_7 u59_120_59 hS bp59_2 bp59_4 bp59_7 bu59_120_59 k59_120_59 t59_0 hm59; exact absurd hm59 (Nat.not_lt_zero _)
                  | succ n59 J59 =>
                    intro M p59_2 p59_4 p59_7 u59_120_59 hS bp59_2 bp59_4 bp59_7 bu59_120_59 k59_120_59 t59_0 hm59
                    refine Tr.iload (pc := 59) (i := 7) d_X12_over_59 rfl ?_
                    refine Tr.aload_n (pc := 61) (i := 0) d_X12_over_61 rfl rfl ?_
                    refine Tr.iconst (pc := 62) d_X12_over_62 (by decide) ?_
                    refine Tr.callV (pc := 63) (as := [_]) d_X12_over_63 s_12_680 ok_X12_span rfl rfl (Nat.le_of_ble_eq_true rfl) (Nat.le_of_ble_eq_true rfl) (by decide) (ty_120 hS.1.1) ?_
                    refine Tr.imp (Tr.deep (by decide) (sp_X12_span_120 hS.1 ((St.kp hS (by decide) (by decide) (by decide)).trans en_120_12) 2 (by omega))) ?_
                    rintro M63 _ ⟨h63, r63, rfl, lr63, ur63⟩
                    have hS := St.tr hS h63 (by decide) (by decide)
                    refine Tr.sc [(0, r63), (0, p59_7)] rfl ?_
                    refine Tr.icmp_ge (pc := 66) (tgt := 196) d_X12_over_66 rfl (fun c66 => ?_) (fun c66 => ?_)
                    · refine Tr.iincV (pc := 196) (n2 := (p46_6 + 1)) (ls2 := [(6, (0, (p46_6 + 1))), (0, (2, 120)), (1, (0, a1)), (2, (1, p59_2)), (4, (0, p59_4)), (5, (0, p33_5)), (7, (0, p59_7))]) d_X12_over_196 rfl (by decide) ((w32_id (by omega)).trans (by omega)) rfl ?_
                      refine Tr.goto (pc := 199) (tgt := 46) d_X12_over_199 rfl ?_
                      refine Tr.pick [1, 2, 3, 4, 5, 0] (ls2 := [(0, (2, 120)), (1, (0, a1)), (2, (1, p59_2)), (4, (0, p59_4)), (5, (0, p33_5)), (6, (0, (p46_6 + 1)))]) rfl ?_
                      exact J46 _ _ _ _ _ hS (by omega) (by omega) (by omega) (by omega) ((St.kp h63 (by decide) (by decide) (by decide)).trans k59_120_59) (by omega) (by omega)
                    · refine Tr.aload_n (pc := 69) (i := 0) d_X12_over_69 rfl rfl ?_
                      refine Tr.getf (pc := 70) d_X12_over_70 f_12_171 (by decide) (by decide) (ty_120 hS.1.1) ?_
                      refine Tr.tp 154 (fx_120_52 hS.1.1) ?_
                      refine Tr.iconst (pc := 73) d_X12_over_73 (by decide) ?_
                      refine Tr.aload_n (pc := 74) (i := 0) d_X12_over_74 rfl rfl ?_
                      refine Tr.iconst (pc := 75) d_X12_over_75 (by decide) ?_
                      refine Tr.callV (pc := 76) (as := [_]) d_X12_over_76 s_12_683 ok_X12_lowOf rfl rfl (Nat.le_of_ble_eq_true rfl) (Nat.le_of_ble_eq_true rfl) (by decide) (ty_120 hS.1.1) ?_
                      refine Tr.imp (Tr.deep (by decide) (sp_X12_lowOf_120 hS.1 ((St.kp hS (by decide) (by decide) (by decide)).trans en_120_12) 0 (by omega))) ?_
                      rintro M76 _ ⟨h76, r76, rfl, lr76, ur76⟩
                      have hS := St.tr hS h76 (by decide) (by decide)
                      refine Tr.sc [(0, r76), (0, 0), (2, 154)] rfl ?_
                      refine Tr.iload (pc := 79) (i := 5) d_X12_over_79 rfl ?_
                      refine Tr.iadd (pc := 81) d_X12_over_81 ?_
                      refine Tr.gen (P := fun v => (-2147483648) ≤ v ∧ v ≤ 2147483647) (w32_b _) (fun r81 er81 br81 => ?_)
                      refine Tr.iastS (pc := 82) (P := St Tru ws_X12_over_120 as_X12_over_120 M0) d_X12_over_82 (ty_154 hS.1.1) (by omega) (by omega) (sa_154 hS (by decide) (by omega) trivial) (fun M82 hS w82 => ?_)
                      refine Tr.aload_n (pc := 83) (i := 0) d_X12_over_83 rfl rfl ?_
                      refine Tr.getf (pc := 84) d_X12_over_84 f_12_171 (by decide) (by decide) (ty_120 hS.1.1) ?_
                      refine Tr.tp 154 (fx_120_52 hS.1.1) ?_
                      refine Tr.iconst (pc := 87) d_X12_over_87 (by decide) ?_
                      refine Tr.aload_n (pc := 88) (i := 0) d_X12_over_88 rfl rfl ?_
                      refine Tr.iconst (pc := 89) d_X12_over_89 (by decide) ?_
                      refine Tr.callV (pc := 90) (as := [_]) d_X12_over_90 s_12_683 ok_X12_lowOf rfl rfl (Nat.le_of_ble_eq_true rfl) (Nat.le_of_ble_eq_true rfl) (by decide) (ty_120 hS.1.1) ?_
                      refine Tr.imp (Tr.deep (by decide) (sp_X12_lowOf_120 hS.1 ((St.kp hS (by decide) (by decide) (by decide)).trans en_120_12) 1 (by omega))) ?_
                      rintro M90 _ ⟨h90, r90, rfl, lr90, ur90⟩
                      have hS := St.tr hS h90 (by decide) (by decide)
                      refine Tr.sc [(0, r90), (0, 1), (2, 154)] rfl ?_
                      refine Tr.iload (pc := 93) (i := 6) d_X12_over_93 rfl ?_
                      refine Tr.iadd (pc := 95) d_X12_over_95 ?_
                      refine Tr.gen (P := fun v => (-2147483648) ≤ v ∧ v ≤ 2147483647) (w32_b _) (fun r95 er95 br95 => ?_)
                      refine Tr.iastS (pc := 96) (P := St Tru ws_X12_over_120 as_X12_over_120 M0) d_X12_over_96 (ty_154 hS.1.1) (by omega) (by omega) (sa_154 hS (by decide) (by omega) trivial) (fun M96 hS w96 => ?_)
                      refine Tr.aload_n (pc := 97) (i := 0) d_X12_over_97 rfl rfl ?_
                      refine Tr.getf (pc := 98) d_X12_over_98 f_12_171 (by decide) (by decide) (ty_120 hS.1.1) ?_
                      refine Tr.tp 154 (fx_120_52 hS.1.1) ?_
                      refine Tr.iconst (pc := 101) d_X12_over_101 (by decide) ?_
                      refine Tr.aload_n (pc := 102) (i := 0) d_X12_over_102 rfl rfl ?_
                      refine Tr.iconst (pc := 103) d_X12_over_103 (by decide) ?_
                      refine Tr.callV (pc := 104) (as := [_]) d_X12_over_104 s_12_683 ok_X12_lowOf rfl rfl (Nat.le_of_ble_eq_true rfl) (Nat.le_of_ble_eq_true rfl) (by decide) (ty_120 hS.1.1) ?_
                      refine Tr.imp (Tr.deep (by decide) (sp_X12_lowOf_120 hS.1 ((St.kp hS (by decide) (by decide) (by decide)).trans en_120_12) 2 (by omega))) ?_
                      rintro M104 _ ⟨h104, r104, rfl, lr104, ur104⟩
                      have hS := St.tr hS h104 (by decide) (by decide)
                      refine Tr.sc [(0, r104), (0, 2), (2, 154)] rfl ?_
                      refine Tr.iload (pc := 107) (i := 7) d_X12_over_107 rfl ?_
                      refine Tr.iadd (pc := 109) d_X12_over_109 ?_
                      refine Tr.gen (P := fun v => (-2147483648) ≤ v ∧ v ≤ 2147483647) (w32_b _) (fun r109 er109 br109 => ?_)
                      refine Tr.iastS (pc := 110) (P := St Tru ws_X12_over_120 as_X12_over_120 M0) d_X12_over_110 (ty_154 hS.1.1) (by omega) (by omega) (sa_154 hS (by decide) (by omega) trivial) (fun M110 hS w110 => ?_)
                      refine Tr.aload_n (pc := 111) (i := 0) d_X12_over_111 rfl rfl ?_
                      refine Tr.ldc2 (pc := 112) d_X12_over_112 kl_12_686 (by decide) ?_
                      refine Tr.callV (pc := 115) (as := [_]) d_X12_over_115 s_12_637 ok_X12_runs rfl rfl (Nat.le_of_ble_eq_true rfl) (Nat.le_of_ble_eq_true rfl) (by decide) (ty_120 hS.1.1) ?_
                      have kb115_120_59 : rd M110 120 59 = u59_120_59 := ((Wr.b w110 rfl).trans ((St.kp h104 (by decide) (by decide) (by decide)).trans ((Wr.b w96 rfl).trans ((St.kp h90 (by decide) (by decide) (by decide)).trans ((Wr.b w82 rfl).trans ((St.kp h76 (by decide) (by decide) (by decide)).trans ((St.kp h63 (by decide) (by decide) (by decide)).trans k59_120_59)))))))
                      refine Tr.imp (Tr.deep (by decide) (sp_X12_runs_120 hS.1 ((St.kp hS (by decide) (by decide) (by decide)).trans en_120_12) (-1) (by omega) (by omega) (Bk0.of hF_Bk0 (fun j => (St.ka hS (by decide) (by decide) (by decide))) (fun j => (St.ka hS (by decide) (by decide) (by decide))) (fun j => (St.ka hS (by decide) (by decide) (by decide))) (fun j => (St.ka hS (by decide) (by decide) (by decide))) (fun j => (St.ka hS (by decide) (by decide) (by decide))) (fun j => (St.ka hS (by decide) (by decide) (by decide))) (fun j => (St.ka hS (by decide) (by decide) (by decide))) (fun j => (St.ka hS (by decide) (by decide) (by decide))) (St.kp hS (by decide) (by decide) (by decide)) (St.kp hS (by decide) (by decide) (by decide)) (St.kp hS (by decide) (by decide) (by decide)) (St.kp hS (by decide) (by decide) (by decide))))) ?_
                      rintro M115 _ ⟨h115, r115, rfl, lr115, ur115, z115_0⟩
                      have hS := St.tr hS h115 (by decide) (by decide)
                      obtain ⟨s115_120_59, es115_120_59⟩ : ∃ v, rd M115 120 59 = v := ⟨_, rfl⟩
                      have bs115_120_59 : (-1) ≤ s115_120_59 ∧ s115_120_59 ≤ 5 := by rw [← es115_120_59]; exact ir_120_59 hS.1.2.1
                      refine Tr.sc [(0, r115)] rfl ?_
                      refine Tr.istore (pc := 118) (i := 8) (ls2 := [(8, (0, r115)), (0, (2, 120)), (1, (0, a1)), (2, (1, p59_2)), (4, (0, p59_4)), (5, (0, p33_5)), (6, (0, p46_6)), (7, (0, p59_7))]) d_X12_over_118 (by decide) rfl ?_
                      refine Tr.iload (pc := 120) (i := 4) d_X12_over_120 rfl ?_
                      have J190 : ∀ (M : Mem) (p190_4 p190_2 : Int), St Tru ws_X12_over_120 as_X12_over_120 M0 M → (1 ≤ p190_4 ∧ p190_4 ≤ 1) → ((-9223372036854775808) ≤ p190_2 ∧ p190_2 ≤ 9223372036854775807) → rd M 120 59 = s115_120_59 → rd M 154 0 = r81 → (s115_120_59 = -1) → Tr l K 8 mX12_over 190 [(0, (2, 120)), (1, (0, a1)), (2, (1, p190_2)), (4, (0, p190_4)), (5, (0, p33_5)), (6, (0, p46_6)), (7, (0, p59_7))] [] M (q_X12_over_120 a1 M0) := by
                        intro M p190_4 p190_2 hS bp190_4 bp190_2 k190_120_59 k190_154_0 t190_0
                        refine Tr.iincV (pc := 190) (n2 := (p59_7 + 1)) (ls2 := [(7, (0, (p59_7 + 1))), (0, (2, 120)), (1, (0, a1)), (2, (1, p190_2)), (4, (0, p190_4)), (5, (0, p33_5)), (6, (0, p46_6))]) d_X12_over_190 rfl (by decide) ((w32_id (by omega)).trans (by omega)) rfl ?_
                        refine Tr.goto (pc := 193) (tgt := 59) d_X12_over_193 rfl ?_
                        refine Tr.pick [1, 2, 3, 4, 5, 6, 0] (ls2 := [(0, (2, 120)), (1, (0, a1)), (2, (1, p190_2)), (4, (0, p190_4)), (5, (0, p33_5)), (6, (0, p46_6)), (7, (0, (p59_7 + 1)))]) rfl ?_
                        exact J59 _ _ _ _ _ hS (by omega) (by omega) (by omega) (by omega) k190_120_59 (by omega) (by omega)
                      have J153 : ∀ (M : Mem), St Tru ws_X12_over_120 as_X12_over_120 M0 M → rd M 120 59 = s115_120_59 → rd M 154 0 = r81 → (s115_120_59 = -1) → Tr l K 8 mX12_over 153 [(0, (2, 120)), (1, (0, a1)), (5, (0, p33_5)), (6, (0, p46_6)), (7, (0, p59_7))] [] M (q_X12_over_120 a1 M0) := by
                        intro M  hS  k153_120_59 k153_154_0 t153_0
                        refine Tr.iconst (pc := 153) d_X12_over_153 (by decide) ?_
                        refine Tr.istore (pc := 154) (i := 4) (ls2 := [(4, (0, 1)), (0, (2, 120)), (1, (0, a1)), (5, (0, p33_5)), (6, (0, p46_6)), (7, (0, p59_7))]) d_X12_over_154 (by decide) rfl ?_
                        refine Tr.aload_n (pc := 156) (i := 0) d_X12_over_156 rfl rfl ?_
                        refine Tr.getf (pc := 157) d_X12_over_157 f_12_204 (by decide) (by decide) (ty_120 hS.1.1) ?_
                        refine Tr.gen (P := fun v => (-9223372036854775808) ≤ v ∧ v ≤ 9223372036854775807) (ir_120_63 hS.1.2.1) (fun r157 er157 br157 => ?_)
                        refine Tr.lstore_n (pc := 160) (i := 2) (ls2 := [(2, (1, r157)), (4, (0, 1)), (0, (2, 120)), (1, (0, a1)), (5, (0, p33_5)), (6, (0, p46_6)), (7, (0, p59_7))]) d_X12_over_160 rfl (by decide) rfl ?_
                        refine Tr.iconst (pc := 161) d_X12_over_161 (by decide) ?_
                        refine Tr.istore (pc := 162) (i := 9) (ls2 := [(9, (0, 0)), (2, (1, r157)), (4, (0, 1)), (0, (2, 120)), (1, (0, a1)), (5, (0, p33_5)), (6, (0, p46_6)), (7, (0, p59_7))]) d_X12_over_162 (by decide) rfl ?_
                        have J164 : ∀ (n164 : Nat) (M : Mem) (p164_9 : Int), St Tru ws_X12_over_120 as_X12_over_120 M0 M → (0 ≤ p164_9 ∧ p164_9 ≤ 3) → rd M 120 59 = s115_120_59 → rd M 120 63 = r157 → rd M 154 0 = r81 → (s115_120_59 = -1) → (3 - p164_9).toNat < n164 → Tr l K 8 mX12_over 164 [(0, (2, 120)), (1, (0, a1)), (2, (1, r157)), (4, (0, 1)), (5, (0, p33_5)), (6, (0, p46_6)), (7, (0, p59_7)), (9, (0, p164_9))] [] M (q_X12_over_120 a1 M0) := by
                          intro n164
                          induction n164 with
                          | zero => intro M p164_9 hS bp164_9 k164_120_59 k164_120_63 k164_154_0 t164_0 hm164; exact absurd hm164 (Nat.not_lt_zero _)
                          | succ n164 J164 =>
                            intro M p164_9 hS bp164_9 k164_120_59 k164_120_63 k164_154_0 t164_0 hm164
                            refine Tr.iload (pc := 164) (i := 9) d_X12_over_164 rfl ?_
                            refine Tr.iconst (pc := 166) d_X12_over_166 (by decide) ?_
                            refine Tr.icmp_ge (pc := 167) (tgt := 190) d_X12_over_167 rfl (fun c167 => ?_) (fun c167 => ?_)
                            · refine Tr.pick [0, 1, 2, 3, 4, 5, 6] (ls2 := [(0, (2, 120)), (1, (0, a1)), (2, (1, r157)), (4, (0, 1)), (5, (0, p33_5)), (6, (0, p46_6)), (7, (0, p59_7))]) rfl ?_
                              exact J190 _ _ _ hS (by omega) (by omega) k164_120_59 k164_154_0 (by omega)
                            · refine Tr.aload_n (pc := 170) (i := 0) d_X12_over_170 rfl rfl ?_
                              refine Tr.getf (pc := 171) d_X12_over_171 f_12_330 (by decide) (by decide) (ty_120 hS.1.1) ?_
                              refine Tr.tp 179 (fx_120_105 hS.1.1) ?_
                              refine Tr.iload (pc := 174) (i := 9) d_X12_over_174 rfl ?_
                              refine Tr.aload_n (pc := 176) (i := 0) d_X12_over_176 rfl rfl ?_
                              refine Tr.getf (pc := 177) d_X12_over_177 f_12_171 (by decide) (by decide) (ty_120 hS.1.1) ?_
                              refine Tr.tp 154 (fx_120_52 hS.1.1) ?_
                              refine Tr.iload (pc := 180) (i := 9) d_X12_over_180 rfl ?_
                              refine Tr.iald (pc := 182) d_X12_over_182 (ty_154 hS.1.1) (by omega) (by omega) ?_
                              refine Tr.gen (P := fun v => (-2147483648) ≤ v ∧ v ≤ 2147483647) (ar_154 hS.1.2.1 _) (fun r182 er182 br182 => ?_)
                              refine Tr.iastS (pc := 183) (P := St Tru ws_X12_over_120 as_X12_over_120 M0) d_X12_over_183 (ty_179 hS.1.1) (by omega) (by omega) (sa_179 hS (by decide) (by omega) trivial) (fun M183 hS w183 => ?_)
                              refine Tr.iincV (pc := 184) (n2 := (p164_9 + 1)) (ls2 := [(9, (0, (p164_9 + 1))), (0, (2, 120)), (1, (0, a1)), (2, (1, r157)), (4, (0, 1)), (5, (0, p33_5)), (6, (0, p46_6)), (7, (0, p59_7))]) d_X12_over_184 rfl (by decide) ((w32_id (by omega)).trans (by omega)) rfl ?_
                              refine Tr.goto (pc := 187) (tgt := 164) d_X12_over_187 rfl ?_
                              refine Tr.pick [1, 2, 3, 4, 5, 6, 7, 0] (ls2 := [(0, (2, 120)), (1, (0, a1)), (2, (1, r157)), (4, (0, 1)), (5, (0, p33_5)), (6, (0, p46_6)), (7, (0, p59_7)), (9, (0, (p164_9 + 1)))]) rfl ?_
                              exact J164 _ _ hS (by omega) ((Wr.b w183 rfl).trans k164_120_59) ((Wr.b w183 rfl).trans k164_120_63) ((Wr.b w183 rfl).trans k164_154_0) (by omega) (by omega)
                        refine Tr.pick [3, 4, 1, 2, 5, 6, 7, 0] (ls2 := [(0, (2, 120)), (1, (0, a1)), (2, (1, r157)), (4, (0, 1)), (5, (0, p33_5)), (6, (0, p46_6)), (7, (0, p59_7)), (9, (0, 0))]) rfl ?_
                        exact J164 _ _ _ hS (by omega) k153_120_59 er157 k153_154_0 (by omega) (Nat.lt_succ_self _)
                      refine Tr.if_eq (pc := 122) (tgt := 153) d_X12_over_122 rfl (fun c122 => ?_) (fun c122 => ?_)
                      · refine Tr.pick [1, 2, 5, 6, 7] (ls2 := [(0, (2, 120)), (1, (0, a1)), (5, (0, p33_5)), (6, (0, p46_6)), (7, (0, p59_7))]) rfl ?_
                        exact J153 _ hS es115_120_59 ((St.kp h115 (by decide) (by decide) (by decide)).trans ((Wr.b w110 rfl).trans ((St.kp h104 (by decide) (by decide) (by decide)).trans ((Wr.b w96 rfl).trans ((St.kp h90 (by decide) (by decide) (by decide)).trans w82.1))))) (by omega)
                      · refine Tr.iload_n (pc := 125) (i := 1) d_X12_over_125 rfl rfl ?_
                        refine Tr.if_eq (pc := 126) (tgt := 141) d_X12_over_126 rfl (fun c126 => ?_) (fun c126 => ?_)
                        · refine Tr.aload_n (pc := 141) (i := 0) d_X12_over_141 rfl rfl ?_
                          refine Tr.getf (pc := 142) d_X12_over_142 f_12_204 (by decide) (by decide) (ty_120 hS.1.1) ?_
                          refine Tr.gen (P := fun v => (-9223372036854775808) ≤ v ∧ v ≤ 9223372036854775807) (ir_120_63 hS.1.2.1) (fun r142 er142 br142 => ?_)
                          refine Tr.lload_n (pc := 145) (i := 2) d_X12_over_145 rfl rfl ?_
                          refine Tr.lcmp (pc := 146) d_X12_over_146 ?_
                          refine Tr.gen (P := fun v => (v = 1 ∧ p59_2 < r142) ∨ (v = 0 ∧ r142 = p59_2) ∨ (v = -1 ∧ r142 < p59_2)) (f_lcmp_c _ _) (fun r146 er146 br146 => ?_)
                          refine Tr.if_lt (pc := 147) (tgt := 153) d_X12_over_147 rfl (fun c147 => ?_) (fun c147 => ?_)
                          · refine Tr.pick [1, 2, 5, 6, 7] (ls2 := [(0, (2, 120)), (1, (0, a1)), (5, (0, p33_5)), (6, (0, p46_6)), (7, (0, p59_7))]) rfl ?_
                            exact J153 _ hS es115_120_59 ((St.kp h115 (by decide) (by decide) (by decide)).trans ((Wr.b w110 rfl).trans ((St.kp h104 (by decide) (by decide) (by decide)).trans ((Wr.b w96 rfl).trans ((St.kp h90 (by decide) (by decide) (by decide)).trans w82.1))))) (by omega)
                          · refine Tr.goto (pc := 150) (tgt := 190) d_X12_over_150 rfl ?_
                            refine Tr.pick [1, 2, 3, 4, 5, 6, 7] (ls2 := [(0, (2, 120)), (1, (0, a1)), (2, (1, p59_2)), (4, (0, p59_4)), (5, (0, p33_5)), (6, (0, p46_6)), (7, (0, p59_7))]) rfl ?_
                            exact J190 _ _ _ hS (by omega) (by omega) es115_120_59 ((St.kp h115 (by decide) (by decide) (by decide)).trans ((Wr.b w110 rfl).trans ((St.kp h104 (by decide) (by decide) (by decide)).trans ((Wr.b w96 rfl).trans ((St.kp h90 (by decide) (by decide) (by decide)).trans w82.1))))) (by omega)
                        · refine Tr.aload_n (pc := 129) (i := 0) d_X12_over_129 rfl rfl ?_
                          refine Tr.getf (pc := 130) d_X12_over_130 f_12_204 (by decide) (by decide) (ty_120 hS.1.1) ?_
                          refine Tr.gen (P := fun v => (-9223372036854775808) ≤ v ∧ v ≤ 9223372036854775807) (ir_120_63 hS.1.2.1) (fun r130 er130 br130 => ?_)
                          refine Tr.lload_n (pc := 133) (i := 2) d_X12_over_133 rfl rfl ?_
                          refine Tr.lcmp (pc := 134) d_X12_over_134 ?_
                          refine Tr.gen (P := fun v => (v = 1 ∧ p59_2 < r130) ∨ (v = 0 ∧ r130 = p59_2) ∨ (v = -1 ∧ r130 < p59_2)) (f_lcmp_c _ _) (fun r134 er134 br134 => ?_)
                          refine Tr.if_gt (pc := 135) (tgt := 153) d_X12_over_135 rfl (fun c135 => ?_) (fun c135 => ?_)
                          · refine Tr.pick [1, 2, 5, 6, 7] (ls2 := [(0, (2, 120)), (1, (0, a1)), (5, (0, p33_5)), (6, (0, p46_6)), (7, (0, p59_7))]) rfl ?_
                            exact J153 _ hS es115_120_59 ((St.kp h115 (by decide) (by decide) (by decide)).trans ((Wr.b w110 rfl).trans ((St.kp h104 (by decide) (by decide) (by decide)).trans ((Wr.b w96 rfl).trans ((St.kp h90 (by decide) (by decide) (by decide)).trans w82.1))))) (by omega)
                          · refine Tr.goto (pc := 138) (tgt := 190) d_X12_over_138 rfl ?_
                            refine Tr.pick [1, 2, 3, 4, 5, 6, 7] (ls2 := [(0, (2, 120)), (1, (0, a1)), (2, (1, p59_2)), (4, (0, p59_4)), (5, (0, p33_5)), (6, (0, p46_6)), (7, (0, p59_7))]) rfl ?_
                            exact J190 _ _ _ hS (by omega) (by omega) es115_120_59 ((St.kp h115 (by decide) (by decide) (by decide)).trans ((Wr.b w110 rfl).trans ((St.kp h104 (by decide) (by decide) (by decide)).trans ((Wr.b w96 rfl).trans ((St.kp h90 (by decide) (by decide) (by decide)).trans w82.1))))) (by omega)
                refine Tr.pick [1, 2, 3, 4, 5, 6, 0] (ls2 := [(0, (2, 120)), (1, (0, a1)), (2, (1, p46_2)), (4, (0, p46_4)), (5, (0, p33_5)), (6, (0, p46_6)), (7, (0, 0))]) rfl ?_
                exact J59 _ _ _ _ _ _ hS (by omega) (by omega) (by omega) (by omega) ((St.kp h50 (by decide) (by decide) (by decide)).trans k46_120_59) (by omega) (Nat.lt_succ_self _)
          refine Tr.pick [1, 2, 3, 4, 5, 0] (ls2 := [(0, (2, 120)), (1, (0, a1)), (2, (1, p33_2)), (4, (0, p33_4)), (5, (0, p33_5)), (6, (0, 0))]) rfl ?_
          exact J46 _ _ _ _ _ _ hS (by omega) (by omega) (by omega) (by omega) ((St.kp h37 (by decide) (by decide) (by decide)).trans k33_120_59) (by omega) (Nat.lt_succ_self _)
    refine Tr.pick [3, 4, 2, 1, 0] (ls2 := [(0, (2, 120)), (1, (0, a1)), (2, (1, 0)), (4, (0, 0)), (5, (0, 0))]) rfl ?_
    exact J33 _ _ _ _ _ _ hS (by omega) (by omega) (by omega) (by omega) ((St.kp h13 (by decide) (by decide) (by decide)).trans ((St.kp h7 (by decide) (by decide) (by decide)).trans ((St.kp h2 (by decide) (by decide) (by decide)).trans eg120_59))) (by omega) (Nat.lt_succ_self _)
  · refine Tr.iconst (pc := 23) d_X12_over_23 (by decide) ?_
    have kr_120_59 : rd M13 120 59 = g120_59 := ((St.kp h13 (by decide) (by decide) (by decide)).trans ((St.kp h7 (by decide) (by decide) (by decide)).trans ((St.kp h2 (by decide) (by decide) (by decide)).trans eg120_59)))
    exact Tr.iret (pc := 24) d_X12_over_24 rfl ⟨hS, _, rfl, by omega, by omega, by omega⟩

def ws_X12_runs_120_w1 : List (Int × Int) := [(120, 59), (120, 60), (120, 61), (120, 62), (120, 63), (120, 64), (120, 65), (120, 66), (120, 67), (120, 68), (120, 75), (120, 79), (120, 84)]
def as_X12_runs_120_w1 : List Int := [155, 156, 157, 158, 159, 160, 161, 162, 163, 164, 165, 166, 167, 168, 169, 170, 171, 172]
def q_X12_runs_120_w1 (a1 : Int) (M0 M' : Mem) (r : Option PV) : Prop := St Tru ws_X12_runs_120_w1 as_X12_runs_120_w1 M0 M' ∧ ∃ v : Int, r = some (0, v) ∧ 0 ≤ v ∧ v ≤ 2 ∧ (rd M' 120 59 = -1)
set_option maxRecDepth 100000 in
set_option maxHeartbeats 4000000 in
theorem sp_X12_runs_120_w1 {l : Launch} {K : EC} {M0 : Mem} (hI : In Tru M0) (en_120_12 : rd M0 120 12 = 0) (a1 : Int) (ha1 : (-1) ≤ a1 ∧ a1 ≤ 2147483647)  (hq0 : rd M0 120 59 = -1) (hF_Bk0 : Bk0 M0) : Tr l K 7 mX12_runs 0 [(0, (2, 120)), (1, (1, a1))] [] M0 (q_X12_runs_120_w1 a1 M0) := by
  have hS : St Tru ws_X12_runs_120_w1 as_X12_runs_120_w1 M0 M0 := St.rf hI
  obtain ⟨g120_62, eg120_62⟩ : ∃ v, rd M0 120 62 = v := ⟨_, rfl⟩
  have bg120_62 : 0 ≤ g120_62 ∧ g120_62 ≤ 2060 := by rw [← eg120_62]; exact ir_120_62 hI.2.1
  obtain ⟨g120_68, eg120_68⟩ : ∃ v, rd M0 120 68 = v := ⟨_, rfl⟩
  have bg120_68 : 0 ≤ g120_68 ∧ g120_68 ≤ 2 := by rw [← eg120_68]; exact ir_120_68 hI.2.1
  obtain ⟨g120_75, eg120_75⟩ : ∃ v, rd M0 120 75 = v := ⟨_, rfl⟩
  have bg120_75 : 0 ≤ g120_75 ∧ g120_75 ≤ 2100 := by rw [← eg120_75]; exact ir_120_75 hI.2.1
  obtain ⟨g120_79, eg120_79⟩ : ∃ v, rd M0 120 79 = v := ⟨_, rfl⟩
  have bg120_79 : 0 ≤ g120_79 ∧ g120_79 ≤ 2100 := by rw [← eg120_79]; exact ir_120_79 hI.2.1
  obtain ⟨g120_59, eg120_59⟩ : ∃ v, rd M0 120 59 = v := ⟨_, rfl⟩
  have bg120_59 : (-1) ≤ g120_59 ∧ g120_59 ≤ 5 := by rw [← eg120_59]; exact ir_120_59 hI.2.1
  obtain ⟨g136_0, eg136_0⟩ : ∃ v, rd M0 136 0 = v := ⟨_, rfl⟩
  have bg136_0 : 0 ≤ g136_0 ∧ g136_0 ≤ 200 := by rw [← eg136_0]; exact ir_136_0 hI.2.1
  obtain ⟨g126_0, eg126_0⟩ : ∃ v, rd M0 126 0 = v := ⟨_, rfl⟩
  have bg126_0 : 0 ≤ g126_0 ∧ g126_0 ≤ 6 := by rw [← eg126_0]; exact ir_126_0 hI.2.1
  refine Tr.iconst (pc := 0) d_X12_runs_0 (by decide) ?_
  refine Tr.istore_n (pc := 1) (i := 3) (ls2 := [(3, (0, 0)), (0, (2, 120)), (1, (1, a1))]) d_X12_runs_1 rfl (by decide) rfl ?_
  have J2 : ∀ (n2 : Nat) (M : Mem) (p2_3 : Int), St Tru ws_X12_runs_120_w1 as_X12_runs_120_w1 M0 M → (0 ≤ p2_3 ∧ p2_3 ≤ 6) → rd M 120 59 = g120_59 → rd M 120 62 = g120_62 → rd M 120 68 = g120_68 → rd M 120 75 = g120_75 → rd M 120 79 = g120_79 → rd M 126 0 = g126_0 → rd M 136 0 = g136_0 → (g120_59 = -1) → (6 - p2_3).toNat < n2 → Tr l K 7 mX12_runs 2 [(0, (2, 120)), (1, (1, a1)), (3, (0, p2_3))] [] M (q_X12_runs_120_w1 a1 M0) := by
    intro n2
    induction n2 with
    | zero => intro M p2_3 hS bp2_3 k2_120_59 k2_120_62 k2_120_68 k2_120_75 k2_120_79 k2_126_0 k2_136_0 t2_0 hm2; exact absurd hm2 (Nat.not_lt_zero _)
    | succ n2 J2 =>
      intro M p2_3 hS bp2_3 k2_120_59 k2_120_62 k2_120_68 k2_120_75 k2_120_79 k2_126_0 k2_136_0 t2_0 hm2
      refine Tr.iload_n (pc := 2) (i := 3) d_X12_runs_2 rfl rfl ?_
      refine Tr.bipush (pc := 3) d_X12_runs_3 rfl (by decide) ?_
      refine Tr.icmp_ge (pc := 5) (tgt := 21) d_X12_runs_5 rfl (fun c5 => ?_) (fun c5 => ?_)
      · refine Tr.iconst (pc := 21) d_X12_runs_21 (by decide) ?_
        refine Tr.istore_n (pc := 22) (i := 3) (ls2 := [(3, (0, 0)), (0, (2, 120)), (1, (1, a1))]) d_X12_runs_22 rfl (by decide) rfl ?_
        have J23 : ∀ (n23 : Nat) (M : Mem) (p23_3 : Int), St Tru ws_X12_runs_120_w1 as_X12_runs_120_w1 M0 M → (0 ≤ p23_3 ∧ p23_3 ≤ 6) → rd M 120 59 = g120_59 → rd M 120 62 = g120_62 → rd M 120 68 = g120_68 → rd M 120 75 = g120_75 → rd M 120 79 = g120_79 → rd M 126 0 = g126_0 → rd M 136 0 = g136_0 → (g120_59 = -1) → (∀ p : Int, 0 ≤ p → p < p23_3 → rd M 158 p ≤ 50) → (6 - p23_3).toNat < n23 → Tr l K 7 mX12_runs 23 [(0, (2, 120)), (1, (1, a1)), (3, (0, p23_3))] [] M (q_X12_runs_120_w1 a1 M0) := by
          intro n23
          induction n23 with
          | zero => intro M p23_3 hS bp23_3 k23_120_59 k23_120_62 k23_120_68 k23_120_75 k23_120_79 k23_126_0 k23_136_0 t23_0 tp23_0 hm23; exact absurd hm23 (Nat.not_lt_zero _)
          | succ n23 J23 =>
            intro M p23_3 hS bp23_3 k23_120_59 k23_120_62 k23_120_68 k23_120_75 k23_120_79 k23_126_0 k23_136_0 t23_0 tp23_0 hm23
            refine Tr.iload_n (pc := 23) (i := 3) d_X12_runs_23 rfl rfl ?_
            refine Tr.bipush (pc := 24) d_X12_runs_24 rfl (by decide) ?_
            refine Tr.icmp_ge (pc := 26) (tgt := 63) d_X12_runs_26 rfl (fun c26 => ?_) (fun c26 => ?_)
            · have kp63_126_0 : rd M 126 0 = g126_0 := k23_126_0
              have hS := St.rn (r := Tb0) hS (fun p p0 p1 => tp23_0 p p0 (by omega))
              refine Tr.iconst (pc := 63) d_X12_runs_63 (by decide) ?_
              refine Tr.istore_n (pc := 64) (i := 3) (ls2 := [(3, (0, 0)), (0, (2, 120)), (1, (1, a1))]) d_X12_runs_64 rfl (by decide) rfl ?_
              have J65 : ∀ (n65 : Nat) (M : Mem) (p65_3 : Int), St Tb0 ws_X12_runs_120_w1 as_X12_runs_120_w1 M0 M → (0 ≤ p65_3 ∧ p65_3 ≤ 8) → rd M 120 59 = g120_59 → rd M 120 62 = g120_62 → rd M 120 68 = g120_68 → rd M 120 75 = g120_75 → rd M 120 79 = g120_79 → rd M 126 0 = g126_0 → rd M 136 0 = g136_0 → (g120_59 = -1) → (8 - p65_3).toNat < n65 → Tr l K 7 mX12_runs 65 [(0, (2, 120)), (1, (1, a1)), (3, (0, p65_3))] [] M (q_X12_runs_120_w1 a1 M0) := by
                intro n65
                induction n65 with
                | zero => intro M p65_3 hS bp65_3 k65_120_59 k65_120_62 k65_120_68 k65_120_75 k65_120_79 k65_126_0 k65_136_0 t65_0 hm65; exact absurd hm65 (Nat.not_lt_zero _)
                | succ n65 J65 =>
                  intro M p65_3 hS bp65_3 k65_120_59 k65_120_62 k65_120_68 k65_120_75 k65_120_79 k65_126_0 k65_136_0 t65_0 hm65
                  refine Tr.iload_n (pc := 65) (i := 3) d_X12_runs_65 rfl rfl ?_
                  refine Tr.bipush (pc := 66) d_X12_runs_66 rfl (by decide) ?_
                  refine Tr.icmp_ge (pc := 68) (tgt := 84) d_X12_runs_68 rfl (fun c68 => ?_) (fun c68 => ?_)
                  · refine Tr.iconst (pc := 84) d_X12_runs_84 (by decide) ?_
                    refine Tr.istore_n (pc := 85) (i := 3) (ls2 := [(3, (0, 0)), (0, (2, 120)), (1, (1, a1))]) d_X12_runs_85 rfl (by decide) rfl ?_
                    have J86 : ∀ (n86 : Nat) (M : Mem) (p86_3 : Int), St Tb0 ws_X12_runs_120_w1 as_X12_runs_120_w1 M0 M → (0 ≤ p86_3 ∧ p86_3 ≤ 24) → rd M 120 59 = g120_59 → rd M 120 62 = g120_62 → rd M 120 68 = g120_68 → rd M 120 75 = g120_75 → rd M 120 79 = g120_79 → rd M 126 0 = g126_0 → rd M 136 0 = g136_0 → (g120_59 = -1) → (24 - p86_3).toNat < n86 → Tr l K 7 mX12_runs 86 [(0, (2, 120)), (1, (1, a1)), (3, (0, p86_3))] [] M (q_X12_runs_120_w1 a1 M0) := by
                      intro n86
                      induction n86 with
                      | zero => intro M p86_3 hS bp86_3 k86_120_59 k86_120_62 k86_120_68 k86_120_75 k86_120_79 k86_126_0 k86_136_0 t86_0 hm86; exact absurd hm86 (Nat.not_lt_zero _)
                      | succ n86 J86 =>
                        intro M p86_3 hS bp86_3 k86_120_59 k86_120_62 k86_120_68 k86_120_75 k86_120_79 k86_126_0 k86_136_0 t86_0 hm86
                        refine Tr.iload_n (pc := 86) (i := 3) d_X12_runs_86 rfl rfl ?_
                        refine Tr.bipush (pc := 87) d_X12_runs_87 rfl (by decide) ?_
                        refine Tr.icmp_ge (pc := 89) (tgt := 105) d_X12_runs_89 rfl (fun c89 => ?_) (fun c89 => ?_)
                        · refine Tr.aload_n (pc := 105) (i := 0) d_X12_runs_105 rfl rfl ?_
                          refine Tr.iconst (pc := 106) d_X12_runs_106 (by decide) ?_
                          refine Tr.putfS (pc := 107) (P := St Tb0 ws_X12_runs_120_w1 as_X12_runs_120_w1 M0) d_X12_runs_107 f_12_201 (by decide) (by decide) (ty_120 hS.1.1) (st_120_62 hS (by decide) (by omega) (Tb0.of hS.1.2.2.2.2 (fun _ => rd_wb _ rfl) (rd_wb _ rfl))) (fun M107 hS w107 => ?_)
                          refine Tr.aload_n (pc := 110) (i := 0) d_X12_runs_110 rfl rfl ?_
                          refine Tr.lconst (pc := 111) (v := 0) d_X12_runs_111 rfl (by decide) ?_
                          refine Tr.putfS (pc := 112) (P := St Tb0 ws_X12_runs_120_w1 as_X12_runs_120_w1 M0) d_X12_runs_112 f_12_204 (by decide) (by decide) (ty_120 hS.1.1) (st_120_63 hS (by decide) (by omega) (Tb0.of hS.1.2.2.2.2 (fun _ => rd_wb _ rfl) (rd_wb _ rfl))) (fun M112 hS w112 => ?_)
                          refine Tr.aload_n (pc := 115) (i := 0) d_X12_runs_115 rfl rfl ?_
                          refine Tr.lload_n (pc := 116) (i := 1) d_X12_runs_116 rfl rfl ?_
                          refine Tr.putfS (pc := 117) (P := St Tb0 ws_X12_runs_120_w1 as_X12_runs_120_w1 M0) d_X12_runs_117 f_12_207 (by decide) (by decide) (ty_120 hS.1.1) (st_120_64 hS (by decide) (by omega) (Tb0.of hS.1.2.2.2.2 (fun _ => rd_wb _ rfl) (rd_wb _ rfl))) (fun M117 hS w117 => ?_)
                          refine Tr.aload_n (pc := 120) (i := 0) d_X12_runs_120 rfl rfl ?_
                          refine Tr.iconst (pc := 121) d_X12_runs_121 (by decide) ?_
                          refine Tr.putfS (pc := 122) (P := St Tb0 ws_X12_runs_120_w1 as_X12_runs_120_w1 M0) d_X12_runs_122 f_12_210 (by decide) (by decide) (ty_120 hS.1.1) (st_120_65 hS (by decide) (by omega) (Tb0.of hS.1.2.2.2.2 (fun _ => rd_wb _ rfl) (rd_wb _ rfl))) (fun M122 hS w122 => ?_)
                          refine Tr.aload_n (pc := 125) (i := 0) d_X12_runs_125 rfl rfl ?_
                          refine Tr.iconst (pc := 126) d_X12_runs_126 (by decide) ?_
                          refine Tr.putfS (pc := 127) (P := St Tb0 ws_X12_runs_120_w1 as_X12_runs_120_w1 M0) d_X12_runs_127 f_12_213 (by decide) (by decide) (ty_120 hS.1.1) (st_120_66 hS (by decide) (by omega) (Tb0.of hS.1.2.2.2.2 (fun _ => rd_wb _ rfl) (rd_wb _ rfl))) (fun M127 hS w127 => ?_)
                          refine Tr.aload_n (pc := 130) (i := 0) d_X12_runs_130 rfl rfl ?_
                          refine Tr.iconst (pc := 131) d_X12_runs_131 (by decide) ?_
                          refine Tr.putfS (pc := 132) (P := St Tb0 ws_X12_runs_120_w1 as_X12_runs_120_w1 M0) d_X12_runs_132 f_12_216 (by decide) (by decide) (ty_120 hS.1.1) (st_120_67 hS (by decide) (by omega) (Tb0.of hS.1.2.2.2.2 (fun _ => rd_wb _ rfl) (rd_wb _ rfl))) (fun M132 hS w132 => ?_)
                          refine Tr.aload_n (pc := 135) (i := 0) d_X12_runs_135 rfl rfl ?_
                          refine Tr.iconst (pc := 136) d_X12_runs_136 (by decide) ?_
                          refine Tr.putfS (pc := 137) (P := St Tb0 ws_X12_runs_120_w1 as_X12_runs_120_w1 M0) d_X12_runs_137 f_12_219 (by decide) (by decide) (ty_120 hS.1.1) (st_120_68 hS (by decide) (by omega) (Tb0.of hS.1.2.2.2.2 (fun _ => rd_wb _ rfl) (rd_wb _ rfl))) (fun M137 hS w137 => ?_)
                          refine Tr.aload_n (pc := 140) (i := 0) d_X12_runs_140 rfl rfl ?_
                          refine Tr.iconst (pc := 141) d_X12_runs_141 (by decide) ?_
                          refine Tr.putfS (pc := 142) (P := St Tb0 ws_X12_runs_120_w1 as_X12_runs_120_w1 M0) d_X12_runs_142 f_12_267 (by decide) (by decide) (ty_120 hS.1.1) (st_120_84 hS (by decide) (by omega) (Tb0.of hS.1.2.2.2.2 (fun _ => rd_wb _ rfl) (rd_wb _ rfl))) (fun M142 hS w142 => ?_)
                          refine Tr.aload_n (pc := 145) (i := 0) d_X12_runs_145 rfl rfl ?_
                          refine Tr.iconst (pc := 146) d_X12_runs_146 (by decide) ?_
                          refine Tr.putfS (pc := 147) (P := St Tb0 ws_X12_runs_120_w1 as_X12_runs_120_w1 M0) d_X12_runs_147 f_12_195 (by decide) (by decide) (ty_120 hS.1.1) (st_120_60 hS (by decide) (by omega) (Tb0.of hS.1.2.2.2.2 (fun _ => rd_wb _ rfl) (rd_wb _ rfl))) (fun M147 hS w147 => ?_)
                          refine Tr.aload_n (pc := 150) (i := 0) d_X12_runs_150 rfl rfl ?_
                          refine Tr.iconst (pc := 151) d_X12_runs_151 (by decide) ?_
                          refine Tr.putfS (pc := 152) (P := St Tb0 ws_X12_runs_120_w1 as_X12_runs_120_w1 M0) d_X12_runs_152 f_12_240 (by decide) (by decide) (ty_120 hS.1.1) (st_120_75 hS (by decide) (by omega) (Tb0.of hS.1.2.2.2.2 (fun _ => rd_wb _ rfl) (rd_wb _ rfl))) (fun M152 hS w152 => ?_)
                          refine Tr.aload_n (pc := 155) (i := 0) d_X12_runs_155 rfl rfl ?_
                          refine Tr.iconst (pc := 156) d_X12_runs_156 (by decide) ?_
                          refine Tr.putfS (pc := 157) (P := St Tb0 ws_X12_runs_120_w1 as_X12_runs_120_w1 M0) d_X12_runs_157 f_12_252 (by decide) (by decide) (ty_120 hS.1.1) (st_120_79 hS (by decide) (by omega) (Tb0.of hS.1.2.2.2.2 (fun _ => rd_wb _ rfl) (rd_wb _ rfl))) (fun M157 hS w157 => ?_)
                          refine Tr.iconst (pc := 160) d_X12_runs_160 (by decide) ?_
                          refine Tr.istore_n (pc := 161) (i := 3) (ls2 := [(3, (0, 0)), (0, (2, 120)), (1, (1, a1))]) d_X12_runs_161 rfl (by decide) rfl ?_
                          have J162 : ∀ (n162 : Nat) (M : Mem) (p162_3 u162_120_59 u162_120_62 u162_120_68 u162_120_75 u162_120_79 : Int), St Tb0 ws_X12_runs_120_w1 as_X12_runs_120_w1 M0 M → (0 ≤ p162_3 ∧ p162_3 ≤ 200) → ((-1) ≤ u162_120_59 ∧ u162_120_59 ≤ 5) → (0 ≤ u162_120_62 ∧ u162_120_62 ≤ 2060) → (0 ≤ u162_120_68 ∧ u162_120_68 ≤ 2) → (0 ≤ u162_120_75 ∧ u162_120_75 ≤ 2100) → (0 ≤ u162_120_79 ∧ u162_120_79 ≤ 2100) → rd M 120 59 = u162_120_59 → rd M 120 62 = u162_120_62 → rd M 120 64 = a1 → rd M 120 68 = u162_120_68 → rd M 120 75 = u162_120_75 → rd M 120 79 = u162_120_79 → rd M 126 0 = g126_0 → rd M 136 0 = g136_0 → (u162_120_75 ≤ u162_120_62) → (u162_120_79 ≤ u162_120_62) → (u162_120_62 ≤ 2000) → (u162_120_59 = -1) → (0 ≤ p162_3 ∧ p162_3 ≤ 200) → ((2001 - u162_120_62) * 300 + 1000 * (2 - u162_120_68) + rkf (rd M0 137 (0 + p162_3)) p162_3).toNat < n162 → Tr l K 7 mX12_runs 162 [(0, (2, 120)), (3, (0, p162_3))] [] M (q_X12_runs_120_w1 a1 M0) := by
                            intro n162
                            induction n162 with
                            | zero => intro M p162_3 u162_120_59 u162_120_62 u162_120_68 u162_120_75 u162_120_79 hS bp162_3 bu162_120_59 bu162_120_62 bu162_120_68 bu162_120_75 bu162_120_79 k162_120_59 k162_120_62 k162_120_64 k162_120_68 k162_120_75 k162_120_79 k162_126_0 k162_136_0 t162_0 t162_1 t162_2 t162_3 t162_4 hm162; exact absurd hm162 (Nat.not_lt_zero _)
                            | succ n162 J162 =>
                              intro M p162_3 u162_120_59 u162_120_62 u162_120_68 u162_120_75 u162_120_79 hS bp162_3 bu162_120_59 bu162_120_62 bu162_120_68 bu162_120_75 bu162_120_79 k162_120_59 k162_120_62 k162_120_64 k162_120_68 k162_120_75 k162_120_79 k162_126_0 k162_136_0 t162_0 t162_1 t162_2 t162_3 t162_4 hm162
                              refine Tr.iload_n (pc := 162) (i := 3) d_X12_runs_162 rfl rfl ?_
                              refine Tr.aload_n (pc := 163) (i := 0) d_X12_runs_163 rfl rfl ?_
                              refine Tr.getf (pc := 164) d_X12_runs_164 f_12_94 (by decide) (by decide) (ty_120 hS.1.1) ?_
                              refine Tr.tp 136 (fx_120_27 hS.1.1) ?_
                              refine Tr.aload_n (pc := 167) (i := 0) d_X12_runs_167 rfl rfl ?_
                              refine Tr.getf (pc := 168) d_X12_runs_168 f_12_48 (by decide) (by decide) (ty_120 hS.1.1) ?_
                              refine Tr.tp 0 ((St.kp hS (by decide) (by decide) (by decide)).trans en_120_12) ?_
                              refine Tr.iald (pc := 171) d_X12_runs_171 (ty_136 hS.1.1) (by omega) (by omega) ?_
                              refine Tr.tp g136_0 k162_136_0 ?_
                              have J317 : ∀ (M : Mem), St Tb0 ws_X12_runs_120_w1 as_X12_runs_120_w1 M0 M → rd M 120 59 = u162_120_59 → rd M 120 62 = u162_120_62 → rd M 120 64 = a1 → rd M 120 68 = u162_120_68 → rd M 120 75 = u162_120_75 → rd M 120 79 = u162_120_79 → rd M 126 0 = g126_0 → rd M 136 0 = g136_0 → (u162_120_62 ≤ 2000) → (u162_120_59 = -1) → Tr l K 7 mX12_runs 317 [(0, (2, 120))] [] M (q_X12_runs_120_w1 a1 M0) := by
                                intro M  hS  k317_120_59 k317_120_62 k317_120_64 k317_120_68 k317_120_75 k317_120_79 k317_126_0 k317_136_0 t317_0 t317_1
                                refine Tr.aload_n (pc := 317) (i := 0) d_X12_runs_317 rfl rfl ?_
                                refine Tr.getf (pc := 318) d_X12_runs_318 f_12_219 (by decide) (by decide) (ty_120 hS.1.1) ?_
                                refine Tr.tp u162_120_68 k317_120_68 ?_
                                refine Tr.if_le (pc := 321) (tgt := 329) d_X12_runs_321 rfl (fun c321 => ?_) (fun c321 => ?_)
                                · refine Tr.iconst (pc := 329) d_X12_runs_329 (by decide) ?_
                                  refine Tr.istore (pc := 330) (i := 4) (ls2 := [(4, (0, 1)), (0, (2, 120))]) d_X12_runs_330 (by decide) rfl ?_
                                  have J332 : ∀ (n332 : Nat) (M : Mem) (p332_4 u332_120_62 : Int), St Tb0 ws_X12_runs_120_w1 as_X12_runs_120_w1 M0 M → (0 ≤ p332_4 ∧ p332_4 ≤ 1) → (0 ≤ u332_120_62 ∧ u332_120_62 ≤ 2060) → rd M 120 59 = u162_120_59 → rd M 120 62 = u332_120_62 → rd M 120 64 = a1 → rd M 120 68 = u162_120_68 → rd M 120 75 = u162_120_75 → rd M 120 79 = u162_120_79 → rd M 126 0 = g126_0 → rd M 136 0 = g136_0 → (u162_120_68 = 0) → (u332_120_62 ≤ 2050) → (u162_120_59 = -1) → (∀ p : Int, 0 ≤ p → p < rd M 126 0 → rd M 156 p = 0 → rd M 158 p ≤ 2050 - u332_120_62) → (2 * (2060 - u332_120_62) + p332_4).toNat < n332 → Tr l K 7 mX12_runs 332 [(0, (2, 120)), (4, (0, p332_4))] [] M (q_X12_runs_120_w1 a1 M0) := by
                                    intro n332
                                    induction n332 with
                                    | zero => intro M p332_4 u332_120_62 hS bp332_4 bu332_120_62 k332_120_59 k332_120_62 k332_120_64 k332_120_68 k332_120_75 k332_120_79 k332_126_0 k332_136_0 t332_0 t332_1 t332_2 tp332_0 hm332; exact absurd hm332 (Nat.not_lt_zero _)
                                    | succ n332 J332 =>
                                      intro M p332_4 u332_120_62 hS bp332_4 bu332_120_62 k332_120_59 k332_120_62 k332_120_64 k332_120_68 k332_120_75 k332_120_79 k332_126_0 k332_136_0 t332_0 t332_1 t332_2 tp332_0 hm332
                                      refine Tr.iload (pc := 332) (i := 4) d_X12_runs_332 rfl ?_
                                      refine Tr.if_eq (pc := 334) (tgt := 409) d_X12_runs_334 rfl (fun c334 => ?_) (fun c334 => ?_)
                                      · refine Tr.iconst (pc := 409) d_X12_runs_409 (by decide) ?_
                                        have kr_120_59 : rd M 120 59 = u162_120_59 := k332_120_59
                                        have hS := hS.wk
                                        exact Tr.iret (pc := 410) d_X12_runs_410 rfl ⟨hS, _, rfl, by omega, by omega, by omega⟩
                                      · refine Tr.iconst (pc := 337) d_X12_runs_337 (by decide) ?_
                                        refine Tr.istore (pc := 338) (i := 4) (ls2 := [(4, (0, 0)), (0, (2, 120))]) d_X12_runs_338 (by decide) rfl ?_
                                        refine Tr.iconst (pc := 340) d_X12_runs_340 (by decide) ?_
                                        refine Tr.istore (pc := 341) (i := 5) (ls2 := [(5, (0, 0)), (4, (0, 0)), (0, (2, 120))]) d_X12_runs_341 (by decide) rfl ?_
                                        have J343 : ∀ (n343 : Nat) (M : Mem) (p343_4 p343_5 : Int), St Tb0 ws_X12_runs_120_w1 as_X12_runs_120_w1 M0 M → (0 ≤ p343_4 ∧ p343_4 ≤ 1) → (0 ≤ p343_5 ∧ p343_5 ≤ 6) → rd M 120 59 = u162_120_59 → rd M 120 62 = u332_120_62 → rd M 120 64 = a1 → rd M 120 68 = u162_120_68 → rd M 120 75 = u162_120_75 → rd M 120 79 = u162_120_79 → rd M 126 0 = g126_0 → rd M 136 0 = g136_0 → (u162_120_68 = 0) → (u332_120_62 ≤ 2050) → (u162_120_59 = -1) → (p343_4 = 0 ∨ u332_120_62 ≤ 2049) → (∀ p : Int, 0 ≤ p → p < rd M 126 0 → rd M 156 p = 0 → rd M 158 p ≤ 2050 - u332_120_62) → (6 - p343_5).toNat < n343 → Tr l K 7 mX12_runs 343 [(0, (2, 120)), (4, (0, p343_4)), (5, (0, p343_5))] [] M (q_X12_runs_120_w1 a1 M0) := by
                                          intro n343
                                          induction n343 with
                                          | zero => intro M p343_4 p343_5 hS bp343_4 bp343_5 k343_120_59 k343_120_62 k343_120_64 k343_120_68 k343_120_75 k343_120_79 k343_126_0 k343_136_0 t343_0 t343_1 t343_2 t343_3 tp343_0 hm343; exact absurd hm343 (Nat.not_lt_zero _)
                                          | succ n343 J343 =>
                                            intro M p343_4 p343_5 hS bp343_4 bp343_5 k343_120_59 k343_120_62 k343_120_64 k343_120_68 k343_120_75 k343_120_79 k343_126_0 k343_136_0 t343_0 t343_1 t343_2 t343_3 tp343_0 hm343
                                            refine Tr.iload (pc := 343) (i := 5) d_X12_runs_343 rfl ?_
                                            refine Tr.aload_n (pc := 345) (i := 0) d_X12_runs_345 rfl rfl ?_
                                            refine Tr.getf (pc := 346) d_X12_runs_346 f_12_63 (by decide) (by decide) (ty_120 hS.1.1) ?_
                                            refine Tr.tp 126 (fx_120_17 hS.1.1) ?_
                                            refine Tr.aload_n (pc := 349) (i := 0) d_X12_runs_349 rfl rfl ?_
                                            refine Tr.getf (pc := 350) d_X12_runs_350 f_12_48 (by decide) (by decide) (ty_120 hS.1.1) ?_
                                            refine Tr.tp 0 ((St.kp hS (by decide) (by decide) (by decide)).trans en_120_12) ?_
                                            refine Tr.iald (pc := 353) d_X12_runs_353 (ty_126 hS.1.1) (by omega) (by omega) ?_
                                            refine Tr.tp g126_0 k343_126_0 ?_
                                            refine Tr.icmp_ge (pc := 354) (tgt := 395) d_X12_runs_354 rfl (fun c354 => ?_) (fun c354 => ?_)
                                            · refine Tr.iload (pc := 395) (i := 4) d_X12_runs_395 rfl ?_
                                              refine Tr.if_eq (pc := 397) (tgt := 332) d_X12_runs_397 rfl (fun c397 => ?_) (fun c397 => ?_)
                                              · refine Tr.pick [0, 1] (ls2 := [(0, (2, 120)), (4, (0, p343_4))]) rfl ?_
                                                exact J332 _ _ _ hS (by omega) (by omega) k343_120_59 k343_120_62 k343_120_64 k343_120_68 k343_120_75 k343_120_79 k343_126_0 k343_136_0 (by omega) (by omega) (by omega) tp343_0 (by omega)
                                              · refine Tr.aload_n (pc := 400) (i := 0) d_X12_runs_400 rfl rfl ?_
                                                refine Tr.iconst (pc := 401) d_X12_runs_401 (by decide) ?_
                                                refine Tr.callV (pc := 402) (as := [_]) d_X12_runs_402 s_12_577 ok_X12_tick rfl rfl (Nat.le_of_ble_eq_true rfl) (Nat.le_of_ble_eq_true rfl) (by decide) (ty_120 hS.1.1) ?_
                                                have kb402_120_59 : rd M 120 59 = u162_120_59 := k343_120_59
                                                obtain ⟨w402_120_61, ew402_120_61⟩ : ∃ v, rd M 120 61 = v := ⟨_, rfl⟩
                                                have bw402_120_61 : 0 ≤ w402_120_61 ∧ w402_120_61 ≤ 3 := by rw [← ew402_120_61]; exact ir_120_61 hS.1.2.1
                                                have kb402_120_61 : rd M 120 61 = w402_120_61 := ew402_120_61
                                                have kb402_120_62 : rd M 120 62 = u332_120_62 := k343_120_62
                                                have kb402_120_68 : rd M 120 68 = u162_120_68 := k343_120_68
                                                refine Tr.imp (Tr.deep (by decide) (sp_X12_tick_120_w1 hS.1 ((St.kp hS (by decide) (by decide) (by decide)).trans en_120_12) (-1) (by omega) (by omega) (by omega) (by omega) (Bk0.of hF_Bk0 (fun j => (St.ka hS (by decide) (by decide) (by decide))) (fun j => (St.ka hS (by decide) (by decide) (by decide))) (fun j => (St.ka hS (by decide) (by decide) (by decide))) (fun j => (St.ka hS (by decide) (by decide) (by decide))) (fun j => (St.ka hS (by decide) (by decide) (by decide))) (fun j => (St.ka hS (by decide) (by decide) (by decide))) (fun j => (St.ka hS (by decide) (by decide) (by decide))) (fun j => (St.ka hS (by decide) (by decide) (by decide))) (St.kp hS (by decide) (by decide) (by decide)) (St.kp hS (by decide) (by decide) (by decide)) (St.kp hS (by decide) (by decide) (by decide)) (St.kp hS (by decide) (by decide) (by decide))))) ?_
                                                rintro M402 _ ⟨h402, r402, rfl, lr402, ur402, z402_0, z402_1, z402_2, z402_3⟩
                                                have hS := St.tr hS h402 (by decide) (by decide)
                                                have ka402_120_59 : rd M402 120 59 = u162_120_59 := ((St.kp h402 (by decide) (by decide) (by decide)).trans k343_120_59)
                                                obtain ⟨s402_120_62, es402_120_62⟩ : ∃ v, rd M402 120 62 = v := ⟨_, rfl⟩
                                                have bs402_120_62 : 0 ≤ s402_120_62 ∧ s402_120_62 ≤ 2060 := by rw [← es402_120_62]; exact ir_120_62 hS.1.2.1
                                                have ka402_120_68 : rd M402 120 68 = u162_120_68 := ((St.kp h402 (by decide) (by decide) (by decide)).trans k343_120_68)
                                                refine Tr.sc [(0, r402)] rfl ?_
                                                refine Tr.pop (pc := 405) d_X12_runs_405 ne01 ?_
                                                refine Tr.goto (pc := 406) (tgt := 332) d_X12_runs_406 rfl ?_
                                                refine Tr.pick [0, 1] (ls2 := [(0, (2, 120)), (4, (0, p343_4))]) rfl ?_
                                                exact J332 _ _ _ hS (by omega) (by omega) ((St.kp h402 (by decide) (by decide) (by decide)).trans k343_120_59) es402_120_62 ((St.kp h402 (by decide) (by decide) (by decide)).trans k343_120_64) ((St.kp h402 (by decide) (by decide) (by decide)).trans k343_120_68) ((St.kp h402 (by decide) (by decide) (by decide)).trans k343_120_75) ((St.kp h402 (by decide) (by decide) (by decide)).trans k343_120_79) ((St.kp h402 (by decide) (by decide) (by decide)).trans k343_126_0) ((St.kp h402 (by decide) (by decide) (by decide)).trans k343_136_0) (by omega) (by omega) (by omega) (fun p p0 p1 p2 => by have h8 := z402_3 (by omega) (2050 - u332_120_62) (by omega) tp343_0 p p0 p1 p2; omega) (by omega)
                                            · refine Tr.iload (pc := 357) (i := 4) d_X12_runs_357 rfl ?_
                                              have J387 : ∀ (M : Mem) (q387_0 : Int), St Tb0 ws_X12_runs_120_w1 as_X12_runs_120_w1 M0 M → (0 ≤ q387_0 ∧ q387_0 ≤ 1) → rd M 120 59 = u162_120_59 → rd M 120 62 = u332_120_62 → rd M 120 64 = a1 → rd M 120 68 = u162_120_68 → rd M 120 75 = u162_120_75 → rd M 120 79 = u162_120_79 → rd M 126 0 = g126_0 → rd M 136 0 = g136_0 → (u162_120_68 = 0) → (u332_120_62 ≤ 2050) → (u162_120_59 = -1) → (q387_0 = 0 ∨ u332_120_62 ≤ 2049) → (∀ p : Int, 0 ≤ p → p < rd M 126 0 → rd M 156 p = 0 → rd M 158 p ≤ 2050 - u332_120_62) → Tr l K 7 mX12_runs 387 [(0, (2, 120)), (5, (0, p343_5))] [(0, q387_0)] M (q_X12_runs_120_w1 a1 M0) := by
                                                intro M q387_0 hS bq387_0 k387_120_59 k387_120_62 k387_120_64 k387_120_68 k387_120_75 k387_120_79 k387_126_0 k387_136_0 t387_0 t387_1 t387_2 t387_3 tp387_0
                                                refine Tr.istore (pc := 387) (i := 4) (ls2 := [(4, (0, q387_0)), (0, (2, 120)), (5, (0, p343_5))]) d_X12_runs_387 (by decide) rfl ?_
                                                refine Tr.iincV (pc := 389) (n2 := (p343_5 + 1)) (ls2 := [(5, (0, (p343_5 + 1))), (4, (0, q387_0)), (0, (2, 120))]) d_X12_runs_389 rfl (by decide) ((w32_id (by omega)).trans (by omega)) rfl ?_
                                                refine Tr.goto (pc := 392) (tgt := 343) d_X12_runs_392 rfl ?_
                                                refine Tr.pick [2, 1, 0] (ls2 := [(0, (2, 120)), (4, (0, q387_0)), (5, (0, (p343_5 + 1)))]) rfl ?_
                                                exact J343 _ _ _ hS (by omega) (by omega) k387_120_59 k387_120_62 k387_120_64 k387_120_68 k387_120_75 k387_120_79 k387_126_0 k387_136_0 (by omega) (by omega) (by omega) (by first | assumption | omega) tp387_0 (by omega)
                                              have J382 : ∀ (M : Mem), St Tb0 ws_X12_runs_120_w1 as_X12_runs_120_w1 M0 M → rd M 120 59 = u162_120_59 → rd M 120 62 = u332_120_62 → rd M 120 64 = a1 → rd M 120 68 = u162_120_68 → rd M 120 75 = u162_120_75 → rd M 120 79 = u162_120_79 → rd M 126 0 = g126_0 → rd M 136 0 = g136_0 → (u162_120_68 = 0) → (u332_120_62 ≤ 2050) → (u162_120_59 = -1) → (u332_120_62 ≤ 2049) → (∀ p : Int, 0 ≤ p → p < rd M 126 0 → rd M 156 p = 0 → rd M 158 p ≤ 2050 - u332_120_62) → Tr l K 7 mX12_runs 382 [(0, (2, 120)), (5, (0, p343_5))] [] M (q_X12_runs_120_w1 a1 M0) := by
                                                intro M  hS  k382_120_59 k382_120_62 k382_120_64 k382_120_68 k382_120_75 k382_120_79 k382_126_0 k382_136_0 t382_0 t382_1 t382_2 t382_3 tp382_0
                                                refine Tr.iconst (pc := 382) d_X12_runs_382 (by decide) ?_
                                                refine Tr.goto (pc := 383) (tgt := 387) d_X12_runs_383 rfl ?_
                                                refine Tr.pick [0, 1] (ls2 := [(0, (2, 120)), (5, (0, p343_5))]) rfl ?_
                                                exact J387 _ _ hS (by omega) k382_120_59 k382_120_62 k382_120_64 k382_120_68 k382_120_75 k382_120_79 k382_126_0 k382_136_0 (by omega) (by omega) (by omega) (by first | assumption | omega) tp382_0
                                              refine Tr.if_ne (pc := 359) (tgt := 382) d_X12_runs_359 rfl (fun c359 => ?_) (fun c359 => ?_)
                                              · refine Tr.pick [0, 2] (ls2 := [(0, (2, 120)), (5, (0, p343_5))]) rfl ?_
                                                exact J382 _ hS k343_120_59 k343_120_62 k343_120_64 k343_120_68 k343_120_75 k343_120_79 k343_126_0 k343_136_0 (by omega) (by omega) (by omega) (by omega) tp343_0
                                              · refine Tr.aload_n (pc := 362) (i := 0) d_X12_runs_362 rfl rfl ?_
                                                refine Tr.getf (pc := 363) d_X12_runs_363 f_12_177 (by decide) (by decide) (ty_120 hS.1.1) ?_
                                                refine Tr.tp 156 (fx_120_54 hS.1.1) ?_
                                                refine Tr.iload (pc := 366) (i := 5) d_X12_runs_366 rfl ?_
                                                refine Tr.zald (pc := 368) d_X12_runs_368 (ty_156 hS.1.1) (by omega) (by omega) ?_
                                                refine Tr.gen (P := fun v => 0 ≤ v ∧ v ≤ 1) (ar_156 hS.1.2.1 _) (fun r368 er368 br368 => ?_)
                                                have J386 : ∀ (M : Mem), St Tb0 ws_X12_runs_120_w1 as_X12_runs_120_w1 M0 M → rd M 120 59 = u162_120_59 → rd M 120 62 = u332_120_62 → rd M 120 64 = a1 → rd M 120 68 = u162_120_68 → rd M 120 75 = u162_120_75 → rd M 120 79 = u162_120_79 → rd M 126 0 = g126_0 → rd M 136 0 = g136_0 → rd M 156 p343_5 = r368 → (u162_120_68 = 0) → (u332_120_62 ≤ 2050) → (u162_120_59 = -1) → (∀ p : Int, 0 ≤ p → p < rd M 126 0 → rd M 156 p = 0 → rd M 158 p ≤ 2050 - u332_120_62) → Tr l K 7 mX12_runs 386 [(0, (2, 120)), (5, (0, p343_5))] [] M (q_X12_runs_120_w1 a1 M0) := by
                                                  intro M  hS  k386_120_59 k386_120_62 k386_120_64 k386_120_68 k386_120_75 k386_120_79 k386_126_0 k386_136_0 k386_156_p343_510 t386_0 t386_1 t386_2 tp386_0
                                                  refine Tr.iconst (pc := 386) d_X12_runs_386 (by decide) ?_
                                                  refine Tr.pick [0, 1] (ls2 := [(0, (2, 120)), (5, (0, p343_5))]) rfl ?_
                                                  exact J387 _ _ hS (by omega) k386_120_59 k386_120_62 k386_120_64 k386_120_68 k386_120_75 k386_120_79 k386_126_0 k386_136_0 (by omega) (by omega) (by omega) (by first | assumption | omega) tp386_0
                                                refine Tr.if_ne (pc := 369) (tgt := 386) d_X12_runs_369 rfl (fun c369 => ?_) (fun c369 => ?_)
                                                · refine Tr.pick [0, 2] (ls2 := [(0, (2, 120)), (5, (0, p343_5))]) rfl ?_
                                                  exact J386 _ hS k343_120_59 k343_120_62 k343_120_64 k343_120_68 k343_120_75 k343_120_79 k343_126_0 k343_136_0 er368 (by omega) (by omega) (by omega) tp343_0
                                                · refine Tr.aload_n (pc := 372) (i := 0) d_X12_runs_372 rfl rfl ?_
                                                  refine Tr.getf (pc := 373) d_X12_runs_373 f_12_183 (by decide) (by decide) (ty_120 hS.1.1) ?_
                                                  refine Tr.tp 158 (fx_120_56 hS.1.1) ?_
                                                  refine Tr.iload (pc := 376) (i := 5) d_X12_runs_376 rfl ?_
                                                  refine Tr.iald (pc := 378) d_X12_runs_378 (ty_158 hS.1.1) (by omega) (by omega) ?_
                                                  refine Tr.gen (P := fun v => ((-2147483648) ≤ v ∧ v ≤ 2147483647) ∧ v ≤ 2050 - u332_120_62) (by have h9 := (ar_158 hS.1.2.1 (p343_5)); have e8 := k343_126_0; have h8 := tp343_0 p343_5 (by omega) (by omega) (by omega); omega) (fun r378 er378 br378 => ?_)
                                                  refine Tr.if_le (pc := 379) (tgt := 386) d_X12_runs_379 rfl (fun c379 => ?_) (fun c379 => ?_)
                                                  · refine Tr.pick [0, 2] (ls2 := [(0, (2, 120)), (5, (0, p343_5))]) rfl ?_
                                                    exact J386 _ hS k343_120_59 k343_120_62 k343_120_64 k343_120_68 k343_120_75 k343_120_79 k343_126_0 k343_136_0 er368 (by omega) (by omega) (by omega) tp343_0
                                                  · refine Tr.pick [0, 2] (ls2 := [(0, (2, 120)), (5, (0, p343_5))]) rfl ?_
                                                    exact J382 _ hS k343_120_59 k343_120_62 k343_120_64 k343_120_68 k343_120_75 k343_120_79 k343_126_0 k343_136_0 (by omega) (by omega) (by omega) (by omega) tp343_0
                                        refine Tr.pick [2, 1, 0] (ls2 := [(0, (2, 120)), (4, (0, 0)), (5, (0, 0))]) rfl ?_
                                        exact J343 _ _ _ _ hS (by omega) (by omega) k332_120_59 k332_120_62 k332_120_64 k332_120_68 k332_120_75 k332_120_79 k332_126_0 k332_136_0 (by omega) (by omega) (by omega) (by first | assumption | omega) tp332_0 (Nat.lt_succ_self _)
                                  refine Tr.pick [1, 0] (ls2 := [(0, (2, 120)), (4, (0, 1))]) rfl ?_
                                  exact J332 _ _ _ _ hS (by omega) (by omega) k317_120_59 k317_120_62 k317_120_64 k317_120_68 k317_120_75 k317_120_79 k317_126_0 k317_136_0 (by omega) (by omega) (by omega) (fun p p0 p1 _ => by have h8 := hS.1.2.2.2.2 p p0 p1; omega) (Nat.lt_succ_self _)
                                · refine Tr.aload_n (pc := 324) (i := 0) d_X12_runs_324 rfl rfl ?_
                                  refine Tr.getf (pc := 325) d_X12_runs_325 f_12_219 (by decide) (by decide) (ty_120 hS.1.1) ?_
                                  refine Tr.tp u162_120_68 k317_120_68 ?_
                                  have kr_120_59 : rd M 120 59 = u162_120_59 := k317_120_59
                                  have hS := hS.wk
                                  exact Tr.iret (pc := 328) d_X12_runs_328 rfl ⟨hS, _, rfl, by omega, by omega, by omega⟩
                              refine Tr.icmp_ge (pc := 172) (tgt := 317) d_X12_runs_172 rfl (fun c172 => ?_) (fun c172 => ?_)
                              · refine Tr.pick [0] (ls2 := [(0, (2, 120))]) rfl ?_
                                exact J317 _ hS k162_120_59 k162_120_62 k162_120_64 k162_120_68 k162_120_75 k162_120_79 k162_126_0 k162_136_0 (by omega) (by omega)
                              · refine Tr.aload_n (pc := 175) (i := 0) d_X12_runs_175 rfl rfl ?_
                                refine Tr.getf (pc := 176) d_X12_runs_176 f_12_219 (by decide) (by decide) (ty_120 hS.1.1) ?_
                                refine Tr.tp u162_120_68 k162_120_68 ?_
                                refine Tr.if_ne (pc := 179) (tgt := 317) d_X12_runs_179 rfl (fun c179 => ?_) (fun c179 => ?_)
                                · refine Tr.pick [0] (ls2 := [(0, (2, 120))]) rfl ?_
                                  exact J317 _ hS k162_120_59 k162_120_62 k162_120_64 k162_120_68 k162_120_75 k162_120_79 k162_126_0 k162_136_0 (by omega) (by omega)
                                · refine Tr.sipush (pc := 182) d_X12_runs_182 rfl (by decide) ?_
                                  refine Tr.aload_n (pc := 185) (i := 0) d_X12_runs_185 rfl rfl ?_
                                  refine Tr.getf (pc := 186) d_X12_runs_186 f_12_48 (by decide) (by decide) (ty_120 hS.1.1) ?_
                                  refine Tr.tp 0 ((St.kp hS (by decide) (by decide) (by decide)).trans en_120_12) ?_
                                  refine Tr.imul (pc := 189) d_X12_runs_189 ?_
                                  refine Tr.tp 0 (by decide) ?_
                                  refine Tr.iload_n (pc := 190) (i := 3) d_X12_runs_190 rfl rfl ?_
                                  refine Tr.iadd (pc := 191) d_X12_runs_191 ?_
                                  refine Tr.tp p162_3 ((w32_id (by omega)).trans (by omega)) ?_
                                  refine Tr.istore (pc := 192) (i := 4) (ls2 := [(4, (0, p162_3)), (0, (2, 120)), (3, (0, p162_3))]) d_X12_runs_192 (by decide) rfl ?_
                                  refine Tr.iincV (pc := 194) (n2 := (p162_3 + 1)) (ls2 := [(3, (0, (p162_3 + 1))), (4, (0, p162_3)), (0, (2, 120))]) d_X12_runs_194 rfl (by decide) ((w32_id (by omega)).trans (by omega)) rfl ?_
                                  refine Tr.aload_n (pc := 197) (i := 0) d_X12_runs_197 rfl rfl ?_
                                  refine Tr.getf (pc := 198) d_X12_runs_198 f_12_97 (by decide) (by decide) (ty_120 hS.1.1) ?_
                                  refine Tr.tp 137 (fx_120_28 hS.1.1) ?_
                                  refine Tr.iload (pc := 201) (i := 4) d_X12_runs_201 rfl ?_
                                  refine Tr.iald (pc := 203) d_X12_runs_203 (ty_137 hS.1.1) (by omega) (by omega) ?_
                                  refine Tr.gen (P := fun v => 0 ≤ v ∧ v ≤ 8) (ar_137 hS.1.2.1 _) (fun r203 er203 br203 => ?_)
                                  refine Tr.if_ne (pc := 204) (tgt := 218) d_X12_runs_204 rfl (fun c204 => ?_) (fun c204 => ?_)
                                  · refine Tr.aload_n (pc := 218) (i := 0) d_X12_runs_218 rfl rfl ?_
                                    refine Tr.aload_n (pc := 219) (i := 0) d_X12_runs_219 rfl rfl ?_
                                    refine Tr.getf (pc := 220) d_X12_runs_220 f_12_100 (by decide) (by decide) (ty_120 hS.1.1) ?_
                                    refine Tr.tp 138 (fx_120_29 hS.1.1) ?_
                                    refine Tr.iload (pc := 223) (i := 4) d_X12_runs_223 rfl ?_
                                    refine Tr.iald (pc := 225) d_X12_runs_225 (ty_138 hS.1.1) (by omega) (by omega) ?_
                                    refine Tr.gen (P := fun v => 0 ≤ v ∧ v ≤ 59) (by have h9 := (ar_138 hS.1.2.1 (p162_3)); have e8 := k162_136_0; have e7 := er203; have h8 := Bk0_ln (Bk0.of hF_Bk0 (fun j => (St.ka hS (by decide) (by decide) (by decide))) (fun j => (St.ka hS (by decide) (by decide) (by decide))) (fun j => (St.ka hS (by decide) (by decide) (by decide))) (fun j => (St.ka hS (by decide) (by decide) (by decide))) (fun j => (St.ka hS (by decide) (by decide) (by decide))) (fun j => (St.ka hS (by decide) (by decide) (by decide))) (fun j => (St.ka hS (by decide) (by decide) (by decide))) (fun j => (St.ka hS (by decide) (by decide) (by decide))) (St.kp hS (by decide) (by decide) (by decide)) (St.kp hS (by decide) (by decide) (by decide)) (St.kp hS (by decide) (by decide) (by decide)) (St.kp hS (by decide) (by decide) (by decide))) (i := p162_3) (by omega) (by omega) (by omega); omega) (fun r225 er225 br225 => ?_)
                                    refine Tr.callV (pc := 226) (as := [_]) d_X12_runs_226 s_12_577 ok_X12_tick rfl rfl (Nat.le_of_ble_eq_true rfl) (Nat.le_of_ble_eq_true rfl) (by decide) (ty_120 hS.1.1) ?_
                                    have kb226_120_59 : rd M 120 59 = u162_120_59 := k162_120_59
                                    obtain ⟨w226_120_61, ew226_120_61⟩ : ∃ v, rd M 120 61 = v := ⟨_, rfl⟩
                                    have bw226_120_61 : 0 ≤ w226_120_61 ∧ w226_120_61 ≤ 3 := by rw [← ew226_120_61]; exact ir_120_61 hS.1.2.1
                                    have kb226_120_61 : rd M 120 61 = w226_120_61 := ew226_120_61
                                    have kb226_120_62 : rd M 120 62 = u162_120_62 := k162_120_62
                                    have kb226_120_68 : rd M 120 68 = u162_120_68 := k162_120_68
                                    refine Tr.imp (Tr.deep (by decide) (sp_X12_tick_120 hS.1 ((St.kp hS (by decide) (by decide) (by decide)).trans en_120_12) r225 (by omega) (by omega) (by omega) (Bk0.of hF_Bk0 (fun j => (St.ka hS (by decide) (by decide) (by decide))) (fun j => (St.ka hS (by decide) (by decide) (by decide))) (fun j => (St.ka hS (by decide) (by decide) (by decide))) (fun j => (St.ka hS (by decide) (by decide) (by decide))) (fun j => (St.ka hS (by decide) (by decide) (by decide))) (fun j => (St.ka hS (by decide) (by decide) (by decide))) (fun j => (St.ka hS (by decide) (by decide) (by decide))) (fun j => (St.ka hS (by decide) (by decide) (by decide))) (St.kp hS (by decide) (by decide) (by decide)) (St.kp hS (by decide) (by decide) (by decide)) (St.kp hS (by decide) (by decide) (by decide)) (St.kp hS (by decide) (by decide) (by decide))))) ?_
                                    rintro M226 _ ⟨h226, r226, rfl, lr226, ur226, z226_0, z226_1, z226_2⟩
                                    have hS := St.tr hS h226 (by decide) (by decide)
                                    have ka226_120_59 : rd M226 120 59 = u162_120_59 := ((St.kp h226 (by decide) (by decide) (by decide)).trans k162_120_59)
                                    obtain ⟨s226_120_62, es226_120_62⟩ : ∃ v, rd M226 120 62 = v := ⟨_, rfl⟩
                                    have bs226_120_62 : 0 ≤ s226_120_62 ∧ s226_120_62 ≤ 2060 := by rw [← es226_120_62]; exact ir_120_62 hS.1.2.1
                                    obtain ⟨s226_120_68, es226_120_68⟩ : ∃ v, rd M226 120 68 = v := ⟨_, rfl⟩
                                    have bs226_120_68 : 0 ≤ s226_120_68 ∧ s226_120_68 ≤ 2 := by rw [← es226_120_68]; exact ir_120_68 hS.1.2.1
                                    refine Tr.sc [(0, r226)] rfl ?_
                                    refine Tr.istore (pc := 229) (i := 5) (ls2 := [(5, (0, r226)), (3, (0, (p162_3 + 1))), (4, (0, p162_3)), (0, (2, 120))]) d_X12_runs_229 (by decide) rfl ?_
                                    refine Tr.iload (pc := 231) (i := 5) d_X12_runs_231 rfl ?_
                                    have J246 : ∀ (M : Mem), St Tb0 ws_X12_runs_120_w1 as_X12_runs_120_w1 M0 M → rd M 120 59 = u162_120_59 → rd M 120 61 = w226_120_61 → rd M 120 62 = s226_120_62 → rd M 120 64 = a1 → rd M 120 68 = s226_120_68 → rd M 120 75 = u162_120_75 → rd M 120 79 = u162_120_79 → rd M 126 0 = g126_0 → rd M 136 0 = g136_0 → rd M 137 p162_3 = r203 → rd M 138 p162_3 = r225 → (s226_120_62 ≤ 2000) → (u162_120_59 = -1) → (0 ≤ (p162_3 + 1) ∧ (p162_3 + 1) ≤ 200) → ((r226 = 1 ∧ u162_120_75 + 1 ≤ s226_120_62 ∧ u162_120_79 + 1 ≤ s226_120_62 ∧ s226_120_62 = u162_120_62 + 1) ∨ (r226 = 0 ∧ u162_120_75 ≤ s226_120_62 ∧ u162_120_79 ≤ s226_120_62 ∧ 1 ≤ s226_120_68 ∧ s226_120_62 = u162_120_62)) → Tr l K 7 mX12_runs 246 [(0, (2, 120)), (3, (0, (p162_3 + 1))), (4, (0, p162_3)), (5, (0, r226))] [] M (q_X12_runs_120_w1 a1 M0) := by
                                      intro M  hS  k246_120_59 k246_120_61 k246_120_62 k246_120_64 k246_120_68 k246_120_75 k246_120_79 k246_126_0 k246_136_0 k246_137_p162_310 k246_138_p162_310 t246_0 t246_1 t246_2 t246_3
                                      refine Tr.iload (pc := 246) (i := 5) d_X12_runs_246 rfl ?_
                                      have J298 : ∀ (M : Mem) (p298_3 p298_5 u298_120_59 u298_120_62 u298_120_68 u298_120_75 u298_120_79 : Int), St Tb0 ws_X12_runs_120_w1 as_X12_runs_120_w1 M0 M → (0 ≤ p298_3 ∧ p298_3 ≤ 200) → (0 ≤ p298_5 ∧ p298_5 ≤ 1) → ((-1) ≤ u298_120_59 ∧ u298_120_59 ≤ 5) → (0 ≤ u298_120_62 ∧ u298_120_62 ≤ 2060) → (0 ≤ u298_120_68 ∧ u298_120_68 ≤ 2) → (0 ≤ u298_120_75 ∧ u298_120_75 ≤ 2100) → (0 ≤ u298_120_79 ∧ u298_120_79 ≤ 2100) → rd M 120 59 = u298_120_59 → rd M 120 62 = u298_120_62 → rd M 120 64 = a1 → rd M 120 68 = u298_120_68 → rd M 120 75 = u298_120_75 → rd M 120 79 = u298_120_79 → rd M 126 0 = g126_0 → rd M 136 0 = g136_0 → rd M 137 p162_3 = r203 → rd M 138 p162_3 = r225 → (u298_120_62 ≤ 2000) → (u298_120_59 = -1) → (0 ≤ p298_3 ∧ p298_3 ≤ 200) → (u298_120_75 ≤ u298_120_62 ∧ u298_120_79 ≤ u298_120_62) → ((1 ≤ u298_120_68 ∧ u162_120_62 ≤ u298_120_62) ∨ u162_120_62 + 1 ≤ u298_120_62) → Tr l K 7 mX12_runs 298 [(0, (2, 120)), (3, (0, p298_3)), (4, (0, p162_3)), (5, (0, p298_5))] [] M (q_X12_runs_120_w1 a1 M0) := by
                                        intro M p298_3 p298_5 u298_120_59 u298_120_62 u298_120_68 u298_120_75 u298_120_79 hS bp298_3 bp298_5 bu298_120_59 bu298_120_62 bu298_120_68 bu298_120_75 bu298_120_79 k298_120_59 k298_120_62 k298_120_64 k298_120_68 k298_120_75 k298_120_79 k298_126_0 k298_136_0 k298_137_p162_310 k298_138_p162_310 t298_0 t298_1 t298_2 t298_3 t298_4
                                        refine Tr.iload (pc := 298) (i := 5) d_X12_runs_298 rfl ?_
                                        have J314 : ∀ (M : Mem), St Tb0 ws_X12_runs_120_w1 as_X12_runs_120_w1 M0 M → rd M 120 59 = u298_120_59 → rd M 120 62 = u298_120_62 → rd M 120 64 = a1 → rd M 120 68 = u298_120_68 → rd M 120 75 = u298_120_75 → rd M 120 79 = u298_120_79 → rd M 126 0 = g126_0 → rd M 136 0 = g136_0 → rd M 137 p162_3 = r203 → rd M 138 p162_3 = r225 → Tr l K 7 mX12_runs 314 [(0, (2, 120)), (3, (0, p298_3))] [] M (q_X12_runs_120_w1 a1 M0) := by
                                          intro M  hS  k314_120_59 k314_120_62 k314_120_64 k314_120_68 k314_120_75 k314_120_79 k314_126_0 k314_136_0 k314_137_p162_310 k314_138_p162_310
                                          refine Tr.goto (pc := 314) (tgt := 162) d_X12_runs_314 rfl ?_
                                          refine Tr.pick [0, 1] (ls2 := [(0, (2, 120)), (3, (0, p298_3))]) rfl ?_
                                          have jr := rkf_b (rd M0 137 (0 + p298_3)) (a := p298_3) (by omega) (by omega)
                                          have jo := rkf_b (rd M0 137 (0 + p162_3)) (a := p162_3) (by omega) (by omega)
                                          exact J162 _ _ _ _ _ _ _ hS (by omega) (by omega) (by omega) (by omega) (by omega) (by omega) k314_120_59 k314_120_62 k314_120_64 k314_120_68 k314_120_75 k314_120_79 k314_126_0 k314_136_0 (by omega) (by omega) (by omega) (by omega) (by omega) (by omega)
                                        refine Tr.if_ne (pc := 300) (tgt := 314) d_X12_runs_300 rfl (fun c300 => ?_) (fun c300 => ?_)
                                        · refine Tr.pick [0, 1] (ls2 := [(0, (2, 120)), (3, (0, p298_3))]) rfl ?_
                                          exact J314 _ hS k298_120_59 k298_120_62 k298_120_64 k298_120_68 k298_120_75 k298_120_79 k298_126_0 k298_136_0 k298_137_p162_310 k298_138_p162_310
                                        · refine Tr.aload_n (pc := 303) (i := 0) d_X12_runs_303 rfl rfl ?_
                                          refine Tr.aload_n (pc := 304) (i := 0) d_X12_runs_304 rfl rfl ?_
                                          refine Tr.getf (pc := 305) d_X12_runs_305 f_12_100 (by decide) (by decide) (ty_120 hS.1.1) ?_
                                          refine Tr.tp 138 (fx_120_29 hS.1.1) ?_
                                          refine Tr.iload (pc := 308) (i := 4) d_X12_runs_308 rfl ?_
                                          refine Tr.iald (pc := 310) d_X12_runs_310 (ty_138 hS.1.1) (by omega) (by omega) ?_
                                          refine Tr.tp r225 k298_138_p162_310 ?_
                                          refine Tr.putfS (pc := 311) (P := St Tb0 ws_X12_runs_120_w1 as_X12_runs_120_w1 M0) d_X12_runs_311 f_12_267 (by decide) (by decide) (ty_120 hS.1.1) (st_120_84 hS (by decide) (by omega) (Tb0.of hS.1.2.2.2.2 (fun _ => rd_wb _ rfl) (rd_wb _ rfl))) (fun M311 hS w311 => ?_)
                                          refine Tr.pick [0, 1] (ls2 := [(0, (2, 120)), (3, (0, p298_3))]) rfl ?_
                                          exact J314 _ hS ((Wr.b w311 rfl).trans k298_120_59) ((Wr.b w311 rfl).trans k298_120_62) ((Wr.b w311 rfl).trans k298_120_64) ((Wr.b w311 rfl).trans k298_120_68) ((Wr.b w311 rfl).trans k298_120_75) ((Wr.b w311 rfl).trans k298_120_79) ((Wr.b w311 rfl).trans k298_126_0) ((Wr.b w311 rfl).trans k298_136_0) ((Wr.b w311 rfl).trans k298_137_p162_310) ((Wr.b w311 rfl).trans k298_138_p162_310)
                                      have J285 : ∀ (M : Mem), St Tb0 ws_X12_runs_120_w1 as_X12_runs_120_w1 M0 M → rd M 120 59 = u162_120_59 → rd M 120 61 = w226_120_61 → rd M 120 62 = s226_120_62 → rd M 120 64 = a1 → rd M 120 68 = s226_120_68 → rd M 120 75 = u162_120_75 → rd M 120 79 = u162_120_79 → rd M 126 0 = g126_0 → rd M 136 0 = g136_0 → rd M 137 p162_3 = r203 → rd M 138 p162_3 = r225 → (s226_120_62 ≤ 2000) → (u162_120_59 = -1) → (0 ≤ (p162_3 + 1) ∧ (p162_3 + 1) ≤ 200) → ((r226 = 1 ∧ u162_120_75 + 1 ≤ s226_120_62 ∧ u162_120_79 + 1 ≤ s226_120_62 ∧ s226_120_62 = u162_120_62 + 1) ∨ (r226 = 0 ∧ u162_120_75 ≤ s226_120_62 ∧ u162_120_79 ≤ s226_120_62 ∧ 1 ≤ s226_120_68 ∧ s226_120_62 = u162_120_62)) → Tr l K 7 mX12_runs 285 [(0, (2, 120)), (3, (0, (p162_3 + 1))), (4, (0, p162_3)), (5, (0, r226))] [] M (q_X12_runs_120_w1 a1 M0) := by
                                        intro M  hS  k285_120_59 k285_120_61 k285_120_62 k285_120_64 k285_120_68 k285_120_75 k285_120_79 k285_126_0 k285_136_0 k285_137_p162_310 k285_138_p162_310 t285_0 t285_1 t285_2 t285_3
                                        refine Tr.iload (pc := 285) (i := 5) d_X12_runs_285 rfl ?_
                                        refine Tr.if_eq (pc := 287) (tgt := 298) d_X12_runs_287 rfl (fun c287 => ?_) (fun c287 => ?_)
                                        · refine Tr.pick [0, 1, 2, 3] (ls2 := [(0, (2, 120)), (3, (0, (p162_3 + 1))), (4, (0, p162_3)), (5, (0, r226))]) rfl ?_
                                          exact J298 _ _ _ _ _ _ _ _ hS (by omega) (by omega) (by omega) (by omega) (by omega) (by omega) (by omega) k285_120_59 k285_120_62 k285_120_64 k285_120_68 k285_120_75 k285_120_79 k285_126_0 k285_136_0 k285_137_p162_310 k285_138_p162_310 (by omega) (by omega) (by omega) (by omega) (by first | assumption | omega)
                                        · refine Tr.aload_n (pc := 290) (i := 0) d_X12_runs_290 rfl rfl ?_
                                          refine Tr.iload (pc := 291) (i := 4) d_X12_runs_291 rfl ?_
                                          refine Tr.callV (pc := 293) (as := [_]) d_X12_runs_293 s_12_635 ok_X12_does rfl rfl (Nat.le_of_ble_eq_true rfl) (Nat.le_of_ble_eq_true rfl) (by decide) (ty_120 hS.1.1) ?_
                                          have kb293_120_59 : rd M 120 59 = u162_120_59 := k285_120_59
                                          have kb293_120_62 : rd M 120 62 = s226_120_62 := k285_120_62
                                          have kb293_120_75 : rd M 120 75 = u162_120_75 := k285_120_75
                                          have kb293_120_79 : rd M 120 79 = u162_120_79 := k285_120_79
                                          have kb293_136_0 : rd M 136 0 = g136_0 := k285_136_0
                                          have kp293_138 : rd M 138 p162_3 = r225 := k285_138_p162_310
                                          refine Tr.imp (Tr.deep (by decide) (sp_X12_does_120 hS.1 ((St.kp hS (by decide) (by decide) (by decide)).trans en_120_12) p162_3 (by omega) (by omega) (by omega) (by omega) (by omega) (by omega) (by omega) (Bk0.of hF_Bk0 (fun j => (St.ka hS (by decide) (by decide) (by decide))) (fun j => (St.ka hS (by decide) (by decide) (by decide))) (fun j => (St.ka hS (by decide) (by decide) (by decide))) (fun j => (St.ka hS (by decide) (by decide) (by decide))) (fun j => (St.ka hS (by decide) (by decide) (by decide))) (fun j => (St.ka hS (by decide) (by decide) (by decide))) (fun j => (St.ka hS (by decide) (by decide) (by decide))) (fun j => (St.ka hS (by decide) (by decide) (by decide))) (St.kp hS (by decide) (by decide) (by decide)) (St.kp hS (by decide) (by decide) (by decide)) (St.kp hS (by decide) (by decide) (by decide)) (St.kp hS (by decide) (by decide) (by decide))))) ?_
                                          rintro M293 _ ⟨h293, r293, rfl, lr293, ur293, z293_0, z293_1, z293_2, z293_3, z293_4⟩
                                          have hS := St.tr hS h293 (by decide) (by decide)
                                          obtain ⟨s293_120_59, es293_120_59⟩ : ∃ v, rd M293 120 59 = v := ⟨_, rfl⟩
                                          have bs293_120_59 : (-1) ≤ s293_120_59 ∧ s293_120_59 ≤ 5 := by rw [← es293_120_59]; exact ir_120_59 hS.1.2.1
                                          obtain ⟨s293_120_62, es293_120_62⟩ : ∃ v, rd M293 120 62 = v := ⟨_, rfl⟩
                                          have bs293_120_62 : 0 ≤ s293_120_62 ∧ s293_120_62 ≤ 2060 := by rw [← es293_120_62]; exact ir_120_62 hS.1.2.1
                                          obtain ⟨s293_120_68, es293_120_68⟩ : ∃ v, rd M293 120 68 = v := ⟨_, rfl⟩
                                          have bs293_120_68 : 0 ≤ s293_120_68 ∧ s293_120_68 ≤ 2 := by rw [← es293_120_68]; exact ir_120_68 hS.1.2.1
                                          obtain ⟨s293_120_75, es293_120_75⟩ : ∃ v, rd M293 120 75 = v := ⟨_, rfl⟩
                                          have bs293_120_75 : 0 ≤ s293_120_75 ∧ s293_120_75 ≤ 2100 := by rw [← es293_120_75]; exact ir_120_75 hS.1.2.1
                                          obtain ⟨s293_120_79, es293_120_79⟩ : ∃ v, rd M293 120 79 = v := ⟨_, rfl⟩
                                          have bs293_120_79 : 0 ≤ s293_120_79 ∧ s293_120_79 ≤ 2100 := by rw [← es293_120_79]; exact ir_120_79 hS.1.2.1
                                          refine Tr.sc [(0, r293)] rfl ?_
                                          refine Tr.istore (pc := 296) (i := 5) (ls2 := [(5, (0, r293)), (0, (2, 120)), (3, (0, (p162_3 + 1))), (4, (0, p162_3))]) d_X12_runs_296 (by decide) rfl ?_
                                          refine Tr.pick [1, 2, 3, 0] (ls2 := [(0, (2, 120)), (3, (0, (p162_3 + 1))), (4, (0, p162_3)), (5, (0, r293))]) rfl ?_
                                          exact J298 _ _ _ _ _ _ _ _ hS (by omega) (by omega) (by omega) (by omega) (by omega) (by omega) (by omega) es293_120_59 es293_120_62 ((St.kp h293 (by decide) (by decide) (by decide)).trans k285_120_64) es293_120_68 es293_120_75 es293_120_79 ((St.kp h293 (by decide) (by decide) (by decide)).trans k285_126_0) ((St.kp h293 (by decide) (by decide) (by decide)).trans k285_136_0) ((St.ka h293 (by decide) (by decide) (by decide)).trans k285_137_p162_310) ((St.ka h293 (by decide) (by decide) (by decide)).trans k285_138_p162_310) (by omega) (by omega) (by omega) (by omega) (by first | assumption | omega)
                                      refine Tr.if_eq (pc := 248) (tgt := 285) d_X12_runs_248 rfl (fun c248 => ?_) (fun c248 => ?_)
                                      · refine Tr.pick [0, 1, 2, 3] (ls2 := [(0, (2, 120)), (3, (0, (p162_3 + 1))), (4, (0, p162_3)), (5, (0, r226))]) rfl ?_
                                        exact J285 _ hS k246_120_59 k246_120_61 k246_120_62 k246_120_64 k246_120_68 k246_120_75 k246_120_79 k246_126_0 k246_136_0 k246_137_p162_310 k246_138_p162_310 (by omega) (by omega) (by omega) (by first | assumption | omega)
                                      · refine Tr.aload_n (pc := 251) (i := 0) d_X12_runs_251 rfl rfl ?_
                                        refine Tr.getf (pc := 252) d_X12_runs_252 f_12_97 (by decide) (by decide) (ty_120 hS.1.1) ?_
                                        refine Tr.tp 137 (fx_120_28 hS.1.1) ?_
                                        refine Tr.iload (pc := 255) (i := 4) d_X12_runs_255 rfl ?_
                                        refine Tr.iald (pc := 257) d_X12_runs_257 (ty_137 hS.1.1) (by omega) (by omega) ?_
                                        refine Tr.tp r203 k246_137_p162_310 ?_
                                        refine Tr.bipush (pc := 258) d_X12_runs_258 rfl (by decide) ?_
                                        refine Tr.icmp_lt (pc := 260) (tgt := 285) d_X12_runs_260 rfl (fun c260 => ?_) (fun c260 => ?_)
                                        · refine Tr.pick [0, 1, 2, 3] (ls2 := [(0, (2, 120)), (3, (0, (p162_3 + 1))), (4, (0, p162_3)), (5, (0, r226))]) rfl ?_
                                          exact J285 _ hS k246_120_59 k246_120_61 k246_120_62 k246_120_64 k246_120_68 k246_120_75 k246_120_79 k246_126_0 k246_136_0 k246_137_p162_310 k246_138_p162_310 (by omega) (by omega) (by omega) (by first | assumption | omega)
                                        · refine Tr.aload_n (pc := 263) (i := 0) d_X12_runs_263 rfl rfl ?_
                                          refine Tr.iload (pc := 264) (i := 4) d_X12_runs_264 rfl ?_
                                          refine Tr.callV (pc := 266) (as := [_]) d_X12_runs_266 s_12_614 ok_X12_works rfl rfl (Nat.le_of_ble_eq_true rfl) (Nat.le_of_ble_eq_true rfl) (by decide) (ty_120 hS.1.1) ?_
                                          have kb266_136_0 : rd M 136 0 = g136_0 := k246_136_0
                                          refine Tr.imp (Tr.deep (by decide) (sp_X12_works_120 hS.1.wk ((St.kp hS (by decide) (by decide) (by decide)).trans en_120_12) p162_3 (by omega) (by omega) (Bk0.of hF_Bk0 (fun j => (St.ka hS (by decide) (by decide) (by decide))) (fun j => (St.ka hS (by decide) (by decide) (by decide))) (fun j => (St.ka hS (by decide) (by decide) (by decide))) (fun j => (St.ka hS (by decide) (by decide) (by decide))) (fun j => (St.ka hS (by decide) (by decide) (by decide))) (fun j => (St.ka hS (by decide) (by decide) (by decide))) (fun j => (St.ka hS (by decide) (by decide) (by decide))) (fun j => (St.ka hS (by decide) (by decide) (by decide))) (St.kp hS (by decide) (by decide) (by decide)) (St.kp hS (by decide) (by decide) (by decide)) (St.kp hS (by decide) (by decide) (by decide)) (St.kp hS (by decide) (by decide) (by decide))))) ?_
                                          rintro M266 _ ⟨h266, r266, rfl, lr266, ur266⟩
                                          have h266 := St.rn h266 (Tb0.of hS.1.2.2.2.2 (fun _ => (St.ka h266 (by decide) (by decide) (by decide))) (St.kp h266 (by decide) (by decide) (by decide)))
                                          have hS := St.tr hS h266 (by decide) (by decide)
                                          refine Tr.sc [(1, r266)] rfl ?_
                                          refine Tr.lconst (pc := 269) (v := 0) d_X12_runs_269 rfl (by decide) ?_
                                          refine Tr.lcmp (pc := 270) d_X12_runs_270 ?_
                                          refine Tr.gen (P := fun v => (v = 1 ∧ 0 < r266) ∨ (v = 0 ∧ r266 = 0) ∨ (v = -1 ∧ r266 < 0)) (f_lcmp_c _ _) (fun r270 er270 br270 => ?_)
                                          refine Tr.if_ne (pc := 271) (tgt := 298) d_X12_runs_271 rfl (fun c271 => ?_) (fun c271 => ?_)
                                          · refine Tr.pick [0, 1, 2, 3] (ls2 := [(0, (2, 120)), (3, (0, (p162_3 + 1))), (4, (0, p162_3)), (5, (0, r226))]) rfl ?_
                                            exact J298 _ _ _ _ _ _ _ _ hS (by omega) (by omega) (by omega) (by omega) (by omega) (by omega) (by omega) ((St.kp h266 (by decide) (by decide) (by decide)).trans k246_120_59) ((St.kp h266 (by decide) (by decide) (by decide)).trans k246_120_62) ((St.kp h266 (by decide) (by decide) (by decide)).trans k246_120_64) ((St.kp h266 (by decide) (by decide) (by decide)).trans k246_120_68) ((St.kp h266 (by decide) (by decide) (by decide)).trans k246_120_75) ((St.kp h266 (by decide) (by decide) (by decide)).trans k246_120_79) ((St.kp h266 (by decide) (by decide) (by decide)).trans k246_126_0) ((St.kp h266 (by decide) (by decide) (by decide)).trans k246_136_0) ((St.ka h266 (by decide) (by decide) (by decide)).trans k246_137_p162_310) ((St.ka h266 (by decide) (by decide) (by decide)).trans k246_138_p162_310) (by omega) (by omega) (by omega) (by omega) (by first | assumption | omega)
                                          · refine Tr.aload_n (pc := 274) (i := 0) d_X12_runs_274 rfl rfl ?_
                                            refine Tr.getf (pc := 275) d_X12_runs_275 f_12_112 (by decide) (by decide) (ty_120 hS.1.1) ?_
                                            refine Tr.tp 142 (fx_120_33 hS.1.1) ?_
                                            refine Tr.iload (pc := 278) (i := 4) d_X12_runs_278 rfl ?_
                                            refine Tr.iald (pc := 280) d_X12_runs_280 (ty_142 hS.1.1) (by omega) (by omega) ?_
                                            refine Tr.gen (P := fun v => 0 ≤ v ∧ v ≤ 200) (ar_142 hS.1.2.1 _) (fun r280 er280 br280 => ?_)
                                            refine Tr.istore_n (pc := 281) (i := 3) (ls2 := [(3, (0, r280)), (0, (2, 120)), (4, (0, p162_3)), (5, (0, r226))]) d_X12_runs_281 rfl (by decide) rfl ?_
                                            refine Tr.goto (pc := 282) (tgt := 298) d_X12_runs_282 rfl ?_
                                            refine Tr.pick [1, 0, 2, 3] (ls2 := [(0, (2, 120)), (3, (0, r280)), (4, (0, p162_3)), (5, (0, r226))]) rfl ?_
                                            exact J298 _ _ _ _ _ _ _ _ hS (by omega) (by omega) (by omega) (by omega) (by omega) (by omega) (by omega) ((St.kp h266 (by decide) (by decide) (by decide)).trans k246_120_59) ((St.kp h266 (by decide) (by decide) (by decide)).trans k246_120_62) ((St.kp h266 (by decide) (by decide) (by decide)).trans k246_120_64) ((St.kp h266 (by decide) (by decide) (by decide)).trans k246_120_68) ((St.kp h266 (by decide) (by decide) (by decide)).trans k246_120_75) ((St.kp h266 (by decide) (by decide) (by decide)).trans k246_120_79) ((St.kp h266 (by decide) (by decide) (by decide)).trans k246_126_0) ((St.kp h266 (by decide) (by decide) (by decide)).trans k246_136_0) ((St.ka h266 (by decide) (by decide) (by decide)).trans k246_137_p162_310) ((St.ka h266 (by decide) (by decide) (by decide)).trans k246_138_p162_310) (by omega) (by omega) (by omega) (by omega) (by first | assumption | omega)
                                    refine Tr.if_eq (pc := 233) (tgt := 246) d_X12_runs_233 rfl (fun c233 => ?_) (fun c233 => ?_)
                                    · refine Tr.pick [3, 1, 2, 0] (ls2 := [(0, (2, 120)), (3, (0, (p162_3 + 1))), (4, (0, p162_3)), (5, (0, r226))]) rfl ?_
                                      exact J246 _ hS ((St.kp h226 (by decide) (by decide) (by decide)).trans k162_120_59) ((St.kp h226 (by decide) (by decide) (by decide)).trans ew226_120_61) es226_120_62 ((St.kp h226 (by decide) (by decide) (by decide)).trans k162_120_64) es226_120_68 ((St.kp h226 (by decide) (by decide) (by decide)).trans k162_120_75) ((St.kp h226 (by decide) (by decide) (by decide)).trans k162_120_79) ((St.kp h226 (by decide) (by decide) (by decide)).trans k162_126_0) ((St.kp h226 (by decide) (by decide) (by decide)).trans k162_136_0) ((St.ka h226 (by decide) (by decide) (by decide)).trans er203) ((St.ka h226 (by decide) (by decide) (by decide)).trans er225) (by omega) (by omega) (by omega) (by first | assumption | omega)
                                    · refine Tr.aload_n (pc := 236) (i := 0) d_X12_runs_236 rfl rfl ?_
                                      refine Tr.dup (pc := 237) d_X12_runs_237 ne21 ?_
                                      refine Tr.getf (pc := 238) d_X12_runs_238 f_12_216 (by decide) (by decide) (ty_120 hS.1.1) ?_
                                      refine Tr.gen (P := fun v => (-2147483648) ≤ v ∧ v ≤ 2147483647) (ir_120_67 hS.1.2.1) (fun r238 er238 br238 => ?_)
                                      refine Tr.iconst (pc := 241) d_X12_runs_241 (by decide) ?_
                                      refine Tr.iadd (pc := 242) d_X12_runs_242 ?_
                                      refine Tr.gen (P := fun v => (-2147483648) ≤ v ∧ v ≤ 2147483647) (w32_b _) (fun r242 er242 br242 => ?_)
                                      refine Tr.putfS (pc := 243) (P := St Tb0 ws_X12_runs_120_w1 as_X12_runs_120_w1 M0) d_X12_runs_243 f_12_216 (by decide) (by decide) (ty_120 hS.1.1) (st_120_67 hS (by decide) (by omega) (Tb0.of hS.1.2.2.2.2 (fun _ => rd_wb _ rfl) (rd_wb _ rfl))) (fun M243 hS w243 => ?_)
                                      refine Tr.pick [3, 1, 2, 0] (ls2 := [(0, (2, 120)), (3, (0, (p162_3 + 1))), (4, (0, p162_3)), (5, (0, r226))]) rfl ?_
                                      exact J246 _ hS ((Wr.b w243 rfl).trans ((St.kp h226 (by decide) (by decide) (by decide)).trans k162_120_59)) ((Wr.b w243 rfl).trans ((St.kp h226 (by decide) (by decide) (by decide)).trans ew226_120_61)) ((Wr.b w243 rfl).trans es226_120_62) ((Wr.b w243 rfl).trans ((St.kp h226 (by decide) (by decide) (by decide)).trans k162_120_64)) ((Wr.b w243 rfl).trans es226_120_68) ((Wr.b w243 rfl).trans ((St.kp h226 (by decide) (by decide) (by decide)).trans k162_120_75)) ((Wr.b w243 rfl).trans ((St.kp h226 (by decide) (by decide) (by decide)).trans k162_120_79)) ((Wr.b w243 rfl).trans ((St.kp h226 (by decide) (by decide) (by decide)).trans k162_126_0)) ((Wr.b w243 rfl).trans ((St.kp h226 (by decide) (by decide) (by decide)).trans k162_136_0)) ((Wr.b w243 rfl).trans ((St.ka h226 (by decide) (by decide) (by decide)).trans er203)) ((Wr.b w243 rfl).trans ((St.ka h226 (by decide) (by decide) (by decide)).trans er225)) (by omega) (by omega) (by omega) (by first | assumption | omega)
                                  · refine Tr.aload_n (pc := 207) (i := 0) d_X12_runs_207 rfl rfl ?_
                                    refine Tr.getf (pc := 208) d_X12_runs_208 f_12_112 (by decide) (by decide) (ty_120 hS.1.1) ?_
                                    refine Tr.tp 142 (fx_120_33 hS.1.1) ?_
                                    refine Tr.iload (pc := 211) (i := 4) d_X12_runs_211 rfl ?_
                                    refine Tr.iald (pc := 213) d_X12_runs_213 (ty_142 hS.1.1) (by omega) (by omega) ?_
                                    refine Tr.gen (P := fun v => 0 ≤ v ∧ v ≤ 200) (ar_142 hS.1.2.1 _) (fun r213 er213 br213 => ?_)
                                    refine Tr.istore_n (pc := 214) (i := 3) (ls2 := [(3, (0, r213)), (4, (0, p162_3)), (0, (2, 120))]) d_X12_runs_214 rfl (by decide) rfl ?_
                                    refine Tr.goto (pc := 215) (tgt := 162) d_X12_runs_215 rfl ?_
                                    refine Tr.pick [2, 0] (ls2 := [(0, (2, 120)), (3, (0, r213))]) rfl ?_
                                    have jr := rkf_b (rd M0 137 (0 + r213)) (a := r213) (by omega) (by omega)
                                    have jo := rkf_b (rd M0 137 (0 + p162_3)) (a := p162_3) (by omega) (by omega)
                                    have h7 : (0 : Int) + p162_3 = p162_3 := by omega
                                    have je : rd M0 137 (0 + p162_3) = 0 := by have h8 : rd M 137 (0 + p162_3) = rd M0 137 (0 + p162_3) := St.ka hS (by decide) (by decide) (by decide); rw [h7] at h8 ⊢; omega
                                    have jg : rd M0 142 (0 + p162_3) = r213 := by rw [h7]; exact (St.ka hS (by decide) (by decide) (by decide)).symm.trans er213
                                    have jj := Bk0_jm hF_Bk0 (k := p162_3) (by omega) (by omega) je jg
                                    exact J162 _ _ _ _ _ _ _ hS (by omega) (by omega) (by omega) (by omega) (by omega) (by omega) k162_120_59 k162_120_62 k162_120_64 k162_120_68 k162_120_75 k162_120_79 k162_126_0 k162_136_0 (by omega) (by omega) (by omega) (by omega) (by omega) (by omega)
                          refine Tr.pick [1, 0] (ls2 := [(0, (2, 120)), (3, (0, 0))]) rfl ?_
                          have jr := rkf_b (rd M0 137 (0 + 0)) (a := 0) (by omega) (by omega)
                          exact J162 _ _ _ _ _ _ _ _ hS (by omega) (by omega) (by omega) (by omega) (by omega) (by omega) ((Wr.b w157 rfl).trans ((Wr.b w152 rfl).trans ((Wr.b w147 rfl).trans ((Wr.b w142 rfl).trans ((Wr.b w137 rfl).trans ((Wr.b w132 rfl).trans ((Wr.b w127 rfl).trans ((Wr.b w122 rfl).trans ((Wr.b w117 rfl).trans ((Wr.b w112 rfl).trans ((Wr.b w107 rfl).trans k86_120_59))))))))))) ((Wr.b w157 rfl).trans ((Wr.b w152 rfl).trans ((Wr.b w147 rfl).trans ((Wr.b w142 rfl).trans ((Wr.b w137 rfl).trans ((Wr.b w132 rfl).trans ((Wr.b w127 rfl).trans ((Wr.b w122 rfl).trans ((Wr.b w117 rfl).trans ((Wr.b w112 rfl).trans w107.1)))))))))) ((Wr.b w157 rfl).trans ((Wr.b w152 rfl).trans ((Wr.b w147 rfl).trans ((Wr.b w142 rfl).trans ((Wr.b w137 rfl).trans ((Wr.b w132 rfl).trans ((Wr.b w127 rfl).trans ((Wr.b w122 rfl).trans w117.1)))))))) ((Wr.b w157 rfl).trans ((Wr.b w152 rfl).trans ((Wr.b w147 rfl).trans ((Wr.b w142 rfl).trans w137.1)))) ((Wr.b w157 rfl).trans w152.1) w157.1 ((Wr.b w157 rfl).trans ((Wr.b w152 rfl).trans ((Wr.b w147 rfl).trans ((Wr.b w142 rfl).trans ((Wr.b w137 rfl).trans ((Wr.b w132 rfl).trans ((Wr.b w127 rfl).trans ((Wr.b w122 rfl).trans ((Wr.b w117 rfl).trans ((Wr.b w112 rfl).trans ((Wr.b w107 rfl).trans k86_126_0))))))))))) ((Wr.b w157 rfl).trans ((Wr.b w152 rfl).trans ((Wr.b w147 rfl).trans ((Wr.b w142 rfl).trans ((Wr.b w137 rfl).trans ((Wr.b w132 rfl).trans ((Wr.b w127 rfl).trans ((Wr.b w122 rfl).trans ((Wr.b w117 rfl).trans ((Wr.b w112 rfl).trans ((Wr.b w107 rfl).trans k86_136_0))))))))))) (by omega) (by omega) (by omega) (by omega) (by omega) (Nat.lt_succ_self _)
                        · refine Tr.aload_n (pc := 92) (i := 0) d_X12_runs_92 rfl rfl ?_
                          refine Tr.getf (pc := 93) d_X12_runs_93 f_12_222 (by decide) (by decide) (ty_120 hS.1.1) ?_
                          refine Tr.tp 161 (fx_120_69 hS.1.1) ?_
                          refine Tr.iload_n (pc := 96) (i := 3) d_X12_runs_96 rfl rfl ?_
                          refine Tr.iconst (pc := 97) d_X12_runs_97 (by decide) ?_
                          refine Tr.iastS (pc := 98) (P := St Tb0 ws_X12_runs_120_w1 as_X12_runs_120_w1 M0) d_X12_runs_98 (ty_161 hS.1.1) (by omega) (by omega) (sa_161 hS (by decide) (by omega) (Tb0.of hS.1.2.2.2.2 (fun _ => rd_wb _ rfl) (rd_wb _ rfl))) (fun M98 hS w98 => ?_)
                          refine Tr.iincV (pc := 99) (n2 := (p86_3 + 1)) (ls2 := [(3, (0, (p86_3 + 1))), (0, (2, 120)), (1, (1, a1))]) d_X12_runs_99 rfl (by decide) ((w32_id (by omega)).trans (by omega)) rfl ?_
                          refine Tr.goto (pc := 102) (tgt := 86) d_X12_runs_102 rfl ?_
                          refine Tr.pick [1, 2, 0] (ls2 := [(0, (2, 120)), (1, (1, a1)), (3, (0, (p86_3 + 1)))]) rfl ?_
                          exact J86 _ _ hS (by omega) ((Wr.b w98 rfl).trans k86_120_59) ((Wr.b w98 rfl).trans k86_120_62) ((Wr.b w98 rfl).trans k86_120_68) ((Wr.b w98 rfl).trans k86_120_75) ((Wr.b w98 rfl).trans k86_120_79) ((Wr.b w98 rfl).trans k86_126_0) ((Wr.b w98 rfl).trans k86_136_0) (by omega) (by omega)
                    refine Tr.pick [1, 2, 0] (ls2 := [(0, (2, 120)), (1, (1, a1)), (3, (0, 0))]) rfl ?_
                    exact J86 _ _ _ hS (by omega) k65_120_59 k65_120_62 k65_120_68 k65_120_75 k65_120_79 k65_126_0 k65_136_0 (by omega) (Nat.lt_succ_self _)
                  · refine Tr.aload_n (pc := 71) (i := 0) d_X12_runs_71 rfl rfl ?_
                    refine Tr.getf (pc := 72) d_X12_runs_72 f_12_189 (by decide) (by decide) (ty_120 hS.1.1) ?_
                    refine Tr.tp 160 (fx_120_58 hS.1.1) ?_
                    refine Tr.iload_n (pc := 75) (i := 3) d_X12_runs_75 rfl rfl ?_
                    refine Tr.iconst (pc := 76) d_X12_runs_76 (by decide) ?_
                    refine Tr.iastS (pc := 77) (P := St Tb0 ws_X12_runs_120_w1 as_X12_runs_120_w1 M0) d_X12_runs_77 (ty_160 hS.1.1) (by omega) (by omega) (sa_160 hS (by decide) (by omega) (Tb0.of hS.1.2.2.2.2 (fun _ => rd_wb _ rfl) (rd_wb _ rfl))) (fun M77 hS w77 => ?_)
                    refine Tr.iincV (pc := 78) (n2 := (p65_3 + 1)) (ls2 := [(3, (0, (p65_3 + 1))), (0, (2, 120)), (1, (1, a1))]) d_X12_runs_78 rfl (by decide) ((w32_id (by omega)).trans (by omega)) rfl ?_
                    refine Tr.goto (pc := 81) (tgt := 65) d_X12_runs_81 rfl ?_
                    refine Tr.pick [1, 2, 0] (ls2 := [(0, (2, 120)), (1, (1, a1)), (3, (0, (p65_3 + 1)))]) rfl ?_
                    exact J65 _ _ hS (by omega) ((Wr.b w77 rfl).trans k65_120_59) ((Wr.b w77 rfl).trans k65_120_62) ((Wr.b w77 rfl).trans k65_120_68) ((Wr.b w77 rfl).trans k65_120_75) ((Wr.b w77 rfl).trans k65_120_79) ((Wr.b w77 rfl).trans k65_126_0) ((Wr.b w77 rfl).trans k65_136_0) (by omega) (by omega)
              refine Tr.pick [1, 2, 0] (ls2 := [(0, (2, 120)), (1, (1, a1)), (3, (0, 0))]) rfl ?_
              exact J65 _ _ _ hS (by omega) k23_120_59 k23_120_62 k23_120_68 k23_120_75 k23_120_79 k23_126_0 k23_136_0 (by omega) (Nat.lt_succ_self _)
            · refine Tr.aload_n (pc := 29) (i := 0) d_X12_runs_29 rfl rfl ?_
              refine Tr.getf (pc := 30) d_X12_runs_30 f_12_177 (by decide) (by decide) (ty_120 hS.1.1) ?_
              refine Tr.tp 156 (fx_120_54 hS.1.1) ?_
              refine Tr.iload_n (pc := 33) (i := 3) d_X12_runs_33 rfl rfl ?_
              refine Tr.iconst (pc := 34) d_X12_runs_34 (by decide) ?_
              refine Tr.zastS (pc := 35) (P := St Tru ws_X12_runs_120_w1 as_X12_runs_120_w1 M0) d_X12_runs_35 (ty_156 hS.1.1) (by omega) (by omega) (by omega) (sa_156 hS (by decide) (by omega) trivial) (fun M35 hS w35 => ?_)
              refine Tr.aload_n (pc := 36) (i := 0) d_X12_runs_36 rfl rfl ?_
              refine Tr.getf (pc := 37) d_X12_runs_37 f_12_180 (by decide) (by decide) (ty_120 hS.1.1) ?_
              refine Tr.tp 157 (fx_120_55 hS.1.1) ?_
              refine Tr.iload_n (pc := 40) (i := 3) d_X12_runs_40 rfl rfl ?_
              refine Tr.iconst (pc := 41) d_X12_runs_41 (by decide) ?_
              refine Tr.iastS (pc := 42) (P := St Tru ws_X12_runs_120_w1 as_X12_runs_120_w1 M0) d_X12_runs_42 (ty_157 hS.1.1) (by omega) (by omega) (sa_157 hS (by decide) (by omega) trivial) (fun M42 hS w42 => ?_)
              refine Tr.aload_n (pc := 43) (i := 0) d_X12_runs_43 rfl rfl ?_
              refine Tr.getf (pc := 44) d_X12_runs_44 f_12_183 (by decide) (by decide) (ty_120 hS.1.1) ?_
              refine Tr.tp 158 (fx_120_56 hS.1.1) ?_
              refine Tr.iload_n (pc := 47) (i := 3) d_X12_runs_47 rfl rfl ?_
              refine Tr.iconst (pc := 48) d_X12_runs_48 (by decide) ?_
              refine Tr.iastS (pc := 49) (P := St Tru ws_X12_runs_120_w1 as_X12_runs_120_w1 M0) d_X12_runs_49 (ty_158 hS.1.1) (by omega) (by omega) (sa_158 hS (by decide) (by omega) trivial) (fun M49 hS w49 => ?_)
              refine Tr.aload_n (pc := 50) (i := 0) d_X12_runs_50 rfl rfl ?_
              refine Tr.getf (pc := 51) d_X12_runs_51 f_12_186 (by decide) (by decide) (ty_120 hS.1.1) ?_
              refine Tr.tp 159 (fx_120_57 hS.1.1) ?_
              refine Tr.iload_n (pc := 54) (i := 3) d_X12_runs_54 rfl rfl ?_
              refine Tr.iconst (pc := 55) d_X12_runs_55 (by decide) ?_
              refine Tr.iastS (pc := 56) (P := St Tru ws_X12_runs_120_w1 as_X12_runs_120_w1 M0) d_X12_runs_56 (ty_159 hS.1.1) (by omega) (by omega) (sa_159 hS (by decide) (by omega) trivial) (fun M56 hS w56 => ?_)
              refine Tr.iincV (pc := 57) (n2 := (p23_3 + 1)) (ls2 := [(3, (0, (p23_3 + 1))), (0, (2, 120)), (1, (1, a1))]) d_X12_runs_57 rfl (by decide) ((w32_id (by omega)).trans (by omega)) rfl ?_
              refine Tr.goto (pc := 60) (tgt := 23) d_X12_runs_60 rfl ?_
              refine Tr.pick [1, 2, 0] (ls2 := [(0, (2, 120)), (1, (1, a1)), (3, (0, (p23_3 + 1)))]) rfl ?_
              exact J23 _ _ hS (by omega) ((Wr.b w56 rfl).trans ((Wr.b w49 rfl).trans ((Wr.b w42 rfl).trans ((Wr.b w35 rfl).trans k23_120_59)))) ((Wr.b w56 rfl).trans ((Wr.b w49 rfl).trans ((Wr.b w42 rfl).trans ((Wr.b w35 rfl).trans k23_120_62)))) ((Wr.b w56 rfl).trans ((Wr.b w49 rfl).trans ((Wr.b w42 rfl).trans ((Wr.b w35 rfl).trans k23_120_68)))) ((Wr.b w56 rfl).trans ((Wr.b w49 rfl).trans ((Wr.b w42 rfl).trans ((Wr.b w35 rfl).trans k23_120_75)))) ((Wr.b w56 rfl).trans ((Wr.b w49 rfl).trans ((Wr.b w42 rfl).trans ((Wr.b w35 rfl).trans k23_120_79)))) ((Wr.b w56 rfl).trans ((Wr.b w49 rfl).trans ((Wr.b w42 rfl).trans ((Wr.b w35 rfl).trans k23_126_0)))) ((Wr.b w56 rfl).trans ((Wr.b w49 rfl).trans ((Wr.b w42 rfl).trans ((Wr.b w35 rfl).trans k23_136_0)))) (by omega) (fun p p0 p1 => by rw [Wr.b w56 rfl]; by_cases c : p = p23_3; (rw [c, w49.1]; omega); (rw [w49.2 _ _ (fun d => c d.2), Wr.b w42 rfl, Wr.b w35 rfl]; exact tp23_0 p p0 (by omega))) (by omega)
        refine Tr.pick [1, 2, 0] (ls2 := [(0, (2, 120)), (1, (1, a1)), (3, (0, 0))]) rfl ?_
        exact J23 _ _ _ hS (by omega) k2_120_59 k2_120_62 k2_120_68 k2_120_75 k2_120_79 k2_126_0 k2_136_0 (by omega) (fun p p0 p1 => absurd p1 (by omega)) (Nat.lt_succ_self _)
      · refine Tr.aload_n (pc := 8) (i := 0) d_X12_runs_8 rfl rfl ?_
        refine Tr.getf (pc := 9) d_X12_runs_9 f_12_174 (by decide) (by decide) (ty_120 hS.1.1) ?_
        refine Tr.tp 155 (fx_120_53 hS.1.1) ?_
        refine Tr.iload_n (pc := 12) (i := 3) d_X12_runs_12 rfl rfl ?_
        refine Tr.iconst (pc := 13) d_X12_runs_13 (by decide) ?_
        refine Tr.iastS (pc := 14) (P := St Tru ws_X12_runs_120_w1 as_X12_runs_120_w1 M0) d_X12_runs_14 (ty_155 hS.1.1) (by omega) (by omega) (sa_155 hS (by decide) (by omega) trivial) (fun M14 hS w14 => ?_)
        refine Tr.iincV (pc := 15) (n2 := (p2_3 + 1)) (ls2 := [(3, (0, (p2_3 + 1))), (0, (2, 120)), (1, (1, a1))]) d_X12_runs_15 rfl (by decide) ((w32_id (by omega)).trans (by omega)) rfl ?_
        refine Tr.goto (pc := 18) (tgt := 2) d_X12_runs_18 rfl ?_
        refine Tr.pick [1, 2, 0] (ls2 := [(0, (2, 120)), (1, (1, a1)), (3, (0, (p2_3 + 1)))]) rfl ?_
        exact J2 _ _ hS (by omega) ((Wr.b w14 rfl).trans k2_120_59) ((Wr.b w14 rfl).trans k2_120_62) ((Wr.b w14 rfl).trans k2_120_68) ((Wr.b w14 rfl).trans k2_120_75) ((Wr.b w14 rfl).trans k2_120_79) ((Wr.b w14 rfl).trans k2_126_0) ((Wr.b w14 rfl).trans k2_136_0) (by omega) (by omega)
  refine Tr.pick [1, 2, 0] (ls2 := [(0, (2, 120)), (1, (1, a1)), (3, (0, 0))]) rfl ?_
  exact J2 _ _ _ hS (by omega) eg120_59 eg120_62 eg120_68 eg120_75 eg120_79 eg126_0 eg136_0 (by omega) (Nat.lt_succ_self _)
end
/-! 36.08 -/
section
def ws_X12_run_120 : List (Int × Int) := [(120, 59), (120, 60), (120, 61), (120, 62), (120, 63), (120, 64), (120, 65), (120, 66), (120, 67), (120, 68), (120, 70), (120, 75), (120, 79), (120, 84), (120, 85), (120, 86), (120, 87), (120, 88), (120, 89), (120, 90), (120, 91), (120, 95), (120, 96)]
def as_X12_run_120 : List Int := [154, 155, 156, 157, 158, 159, 160, 161, 162, 163, 164, 165, 166, 167, 168, 169, 170, 171, 172, 173, 174, 175]
def q_X12_run_120 (a1 : Int) (M0 M' : Mem) (r : Option PV) : Prop := St Tru ws_X12_run_120 as_X12_run_120 M0 M' ∧ ∃ v : Int, r = some (0, v) ∧ (-2) ≤ v ∧ v ≤ 2 ∧ (rd M' 120 59 = -1)
set_option maxRecDepth 100000 in
set_option maxHeartbeats 4000000 in
theorem sp_X12_run_120 {l : Launch} {K : EC} {M0 : Mem} (hI : In Tru M0) (en_120_12 : rd M0 120 12 = 0) (a1 : Int) (ha1 : (-2147483648) ≤ a1 ∧ a1 ≤ 2147483647)  (hq0 : rd M0 120 59 = -1) (hF_Bk0 : Bk0 M0) : Tr l K 8 mX12_run 0 [(0, (2, 120)), (1, (0, a1))] [] M0 (q_X12_run_120 a1 M0) := by
  have hS : St Tru ws_X12_run_120 as_X12_run_120 M0 M0 := St.rf hI
  obtain ⟨g120_59, eg120_59⟩ : ∃ v, rd M0 120 59 = v := ⟨_, rfl⟩
  have bg120_59 : (-1) ≤ g120_59 ∧ g120_59 ≤ 5 := by rw [← eg120_59]; exact ir_120_59 hI.2.1
  refine Tr.iload_n (pc := 0) (i := 1) d_X12_run_0 rfl rfl ?_
  refine Tr.iconst (pc := 1) d_X12_run_1 (by decide) ?_
  refine Tr.icmp_ge (pc := 2) (tgt := 8) d_X12_run_2 rfl (fun c2 => ?_) (fun c2 => ?_)
  · refine Tr.iconst (pc := 8) d_X12_run_8 (by decide) ?_
    refine Tr.istore_n (pc := 9) (i := 2) (ls2 := [(2, (0, 0)), (0, (2, 120)), (1, (0, a1))]) d_X12_run_9 rfl (by decide) rfl ?_
    have J10 : ∀ (n10 : Nat) (M : Mem) (p10_2 : Int), St Tru ws_X12_run_120 as_X12_run_120 M0 M → (0 ≤ p10_2 ∧ p10_2 ≤ 3) → rd M 120 59 = g120_59 → (g120_59 = -1) → (3 - p10_2).toNat < n10 → Tr l K 8 mX12_run 10 [(0, (2, 120)), (1, (0, a1)), (2, (0, p10_2))] [] M (q_X12_run_120 a1 M0) := by
      intro n10
      induction n10 with
      | zero => intro M p10_2 hS bp10_2 k10_120_59 t10_0 hm10; exact absurd hm10 (Nat.not_lt_zero _)
      | succ n10 J10 =>
        intro M p10_2 hS bp10_2 k10_120_59 t10_0 hm10
        refine Tr.iload_n (pc := 10) (i := 2) d_X12_run_10 rfl rfl ?_
        refine Tr.iconst (pc := 11) d_X12_run_11 (by decide) ?_
        refine Tr.icmp_ge (pc := 12) (tgt := 33) d_X12_run_12 rfl (fun c12 => ?_) (fun c12 => ?_)
        · refine Tr.aload_n (pc := 33) (i := 0) d_X12_run_33 rfl rfl ?_
          refine Tr.iconst (pc := 34) d_X12_run_34 (by decide) ?_
          refine Tr.putzS (pc := 35) (P := St Tru ws_X12_run_120 as_X12_run_120 M0) d_X12_run_35 f_12_225 (by decide) (ty_120 hS.1.1) (by omega) (st_120_70 hS (by decide) (by omega) trivial) (fun M35 hS w35 => ?_)
          refine Tr.aload_n (pc := 38) (i := 0) d_X12_run_38 rfl rfl ?_
          refine Tr.iload_n (pc := 39) (i := 1) d_X12_run_39 rfl rfl ?_
          refine Tr.i2l (pc := 40) d_X12_run_40 ?_
          refine Tr.callV (pc := 41) (as := [_]) d_X12_run_41 s_12_637 ok_X12_runs rfl rfl (Nat.le_of_ble_eq_true rfl) (Nat.le_of_ble_eq_true rfl) (by decide) (ty_120 hS.1.1) ?_
          have kb41_120_59 : rd M35 120 59 = g120_59 := ((Wr.b w35 rfl).trans k10_120_59)
          refine Tr.imp (Tr.deep (by decide) (sp_X12_runs_120_w1 hS.1 ((St.kp hS (by decide) (by decide) (by decide)).trans en_120_12) a1 (by omega) (by omega) (Bk0.of hF_Bk0 (fun j => (St.ka hS (by decide) (by decide) (by decide))) (fun j => (St.ka hS (by decide) (by decide) (by decide))) (fun j => (St.ka hS (by decide) (by decide) (by decide))) (fun j => (St.ka hS (by decide) (by decide) (by decide))) (fun j => (St.ka hS (by decide) (by decide) (by decide))) (fun j => (St.ka hS (by decide) (by decide) (by decide))) (fun j => (St.ka hS (by decide) (by decide) (by decide))) (fun j => (St.ka hS (by decide) (by decide) (by decide))) (St.kp hS (by decide) (by decide) (by decide)) (St.kp hS (by decide) (by decide) (by decide)) (St.kp hS (by decide) (by decide) (by decide)) (St.kp hS (by decide) (by decide) (by decide))))) ?_
          rintro M41 _ ⟨h41, r41, rfl, lr41, ur41, z41_0⟩
          have hS := St.tr hS h41 (by decide) (by decide)
          obtain ⟨s41_120_59, es41_120_59⟩ : ∃ v, rd M41 120 59 = v := ⟨_, rfl⟩
          have bs41_120_59 : (-1) ≤ s41_120_59 ∧ s41_120_59 ≤ 5 := by rw [← es41_120_59]; exact ir_120_59 hS.1.2.1
          refine Tr.sc [(0, r41)] rfl ?_
          refine Tr.istore_n (pc := 44) (i := 2) (ls2 := [(2, (0, r41)), (0, (2, 120)), (1, (0, a1))]) d_X12_run_44 rfl (by decide) rfl ?_
          refine Tr.aload_n (pc := 45) (i := 0) d_X12_run_45 rfl rfl ?_
          refine Tr.iconst (pc := 46) d_X12_run_46 (by decide) ?_
          refine Tr.putzS (pc := 47) (P := St Tru ws_X12_run_120 as_X12_run_120 M0) d_X12_run_47 f_12_225 (by decide) (ty_120 hS.1.1) (by omega) (st_120_70 hS (by decide) (by omega) trivial) (fun M47 hS w47 => ?_)
          refine Tr.aload_n (pc := 50) (i := 0) d_X12_run_50 rfl rfl ?_
          refine Tr.iconst (pc := 51) d_X12_run_51 (by decide) ?_
          refine Tr.putzS (pc := 52) (P := St Tru ws_X12_run_120 as_X12_run_120 M0) d_X12_run_52 f_12_270 (by decide) (ty_120 hS.1.1) (by omega) (st_120_85 hS (by decide) (by omega) trivial) (fun M52 hS w52 => ?_)
          refine Tr.aload_n (pc := 55) (i := 0) d_X12_run_55 rfl rfl ?_
          refine Tr.aload_n (pc := 56) (i := 0) d_X12_run_56 rfl rfl ?_
          refine Tr.getf (pc := 57) d_X12_run_57 f_12_201 (by decide) (by decide) (ty_120 hS.1.1) ?_
          refine Tr.gen (P := fun v => 0 ≤ v ∧ v ≤ 2060) (ir_120_62 hS.1.2.1) (fun r57 er57 br57 => ?_)
          refine Tr.putfS (pc := 60) (P := St Tru ws_X12_run_120 as_X12_run_120 M0) d_X12_run_60 f_12_273 (by decide) (by decide) (ty_120 hS.1.1) (st_120_86 hS (by decide) (by omega) trivial) (fun M60 hS w60 => ?_)
          refine Tr.aload_n (pc := 63) (i := 0) d_X12_run_63 rfl rfl ?_
          refine Tr.aload_n (pc := 64) (i := 0) d_X12_run_64 rfl rfl ?_
          refine Tr.getf (pc := 65) d_X12_run_65 f_12_204 (by decide) (by decide) (ty_120 hS.1.1) ?_
          refine Tr.gen (P := fun v => (-9223372036854775808) ≤ v ∧ v ≤ 9223372036854775807) (ir_120_63 hS.1.2.1) (fun r65 er65 br65 => ?_)
          refine Tr.putfS (pc := 68) (P := St Tru ws_X12_run_120 as_X12_run_120 M0) d_X12_run_68 f_12_276 (by decide) (by decide) (ty_120 hS.1.1) (st_120_87 hS (by decide) (by omega) trivial) (fun M68 hS w68 => ?_)
          refine Tr.aload_n (pc := 71) (i := 0) d_X12_run_71 rfl rfl ?_
          refine Tr.aload_n (pc := 72) (i := 0) d_X12_run_72 rfl rfl ?_
          refine Tr.getf (pc := 73) d_X12_run_73 f_12_210 (by decide) (by decide) (ty_120 hS.1.1) ?_
          refine Tr.gen (P := fun v => (-2147483648) ≤ v ∧ v ≤ 2147483647) (ir_120_65 hS.1.2.1) (fun r73 er73 br73 => ?_)
          refine Tr.putfS (pc := 76) (P := St Tru ws_X12_run_120 as_X12_run_120 M0) d_X12_run_76 f_12_279 (by decide) (by decide) (ty_120 hS.1.1) (st_120_88 hS (by decide) (by omega) trivial) (fun M76 hS w76 => ?_)
          refine Tr.aload_n (pc := 79) (i := 0) d_X12_run_79 rfl rfl ?_
          refine Tr.aload_n (pc := 80) (i := 0) d_X12_run_80 rfl rfl ?_
          refine Tr.getf (pc := 81) d_X12_run_81 f_12_213 (by decide) (by decide) (ty_120 hS.1.1) ?_
          refine Tr.gen (P := fun v => (-2147483648) ≤ v ∧ v ≤ 2147483647) (ir_120_66 hS.1.2.1) (fun r81 er81 br81 => ?_)
          refine Tr.putfS (pc := 84) (P := St Tru ws_X12_run_120 as_X12_run_120 M0) d_X12_run_84 f_12_282 (by decide) (by decide) (ty_120 hS.1.1) (st_120_89 hS (by decide) (by omega) trivial) (fun M84 hS w84 => ?_)
          refine Tr.aload_n (pc := 87) (i := 0) d_X12_run_87 rfl rfl ?_
          refine Tr.aload_n (pc := 88) (i := 0) d_X12_run_88 rfl rfl ?_
          refine Tr.getf (pc := 89) d_X12_run_89 f_12_216 (by decide) (by decide) (ty_120 hS.1.1) ?_
          refine Tr.gen (P := fun v => (-2147483648) ≤ v ∧ v ≤ 2147483647) (ir_120_67 hS.1.2.1) (fun r89 er89 br89 => ?_)
          refine Tr.putfS (pc := 92) (P := St Tru ws_X12_run_120 as_X12_run_120 M0) d_X12_run_92 f_12_285 (by decide) (by decide) (ty_120 hS.1.1) (st_120_90 hS (by decide) (by omega) trivial) (fun M92 hS w92 => ?_)
          refine Tr.aload_n (pc := 95) (i := 0) d_X12_run_95 rfl rfl ?_
          refine Tr.aload_n (pc := 96) (i := 0) d_X12_run_96 rfl rfl ?_
          refine Tr.getf (pc := 97) d_X12_run_97 f_12_267 (by decide) (by decide) (ty_120 hS.1.1) ?_
          refine Tr.gen (P := fun v => (-2147483648) ≤ v ∧ v ≤ 2147483647) (ir_120_84 hS.1.2.1) (fun r97 er97 br97 => ?_)
          refine Tr.putfS (pc := 100) (P := St Tru ws_X12_run_120 as_X12_run_120 M0) d_X12_run_100 f_12_288 (by decide) (by decide) (ty_120 hS.1.1) (st_120_91 hS (by decide) (by omega) trivial) (fun M100 hS w100 => ?_)
          refine Tr.aload_n (pc := 103) (i := 0) d_X12_run_103 rfl rfl ?_
          refine Tr.aload_n (pc := 104) (i := 0) d_X12_run_104 rfl rfl ?_
          refine Tr.getf (pc := 105) d_X12_run_105 f_12_240 (by decide) (by decide) (ty_120 hS.1.1) ?_
          refine Tr.gen (P := fun v => 0 ≤ v ∧ v ≤ 2100) (ir_120_75 hS.1.2.1) (fun r105 er105 br105 => ?_)
          refine Tr.putfS (pc := 108) (P := St Tru ws_X12_run_120 as_X12_run_120 M0) d_X12_run_108 f_12_300 (by decide) (by decide) (ty_120 hS.1.1) (st_120_95 hS (by decide) (by omega) trivial) (fun M108 hS w108 => ?_)
          refine Tr.aload_n (pc := 111) (i := 0) d_X12_run_111 rfl rfl ?_
          refine Tr.aload_n (pc := 112) (i := 0) d_X12_run_112 rfl rfl ?_
          refine Tr.getf (pc := 113) d_X12_run_113 f_12_252 (by decide) (by decide) (ty_120 hS.1.1) ?_
          refine Tr.gen (P := fun v => 0 ≤ v ∧ v ≤ 2100) (ir_120_79 hS.1.2.1) (fun r113 er113 br113 => ?_)
          refine Tr.putfS (pc := 116) (P := St Tru ws_X12_run_120 as_X12_run_120 M0) d_X12_run_116 f_12_303 (by decide) (by decide) (ty_120 hS.1.1) (st_120_96 hS (by decide) (by omega) trivial) (fun M116 hS w116 => ?_)
          refine Tr.iconst (pc := 119) d_X12_run_119 (by decide) ?_
          refine Tr.istore_n (pc := 120) (i := 3) (ls2 := [(3, (0, 0)), (2, (0, r41)), (0, (2, 120)), (1, (0, a1))]) d_X12_run_120 rfl (by decide) rfl ?_
          have J121 : ∀ (n121 : Nat) (M : Mem) (p121_3 : Int), St Tru ws_X12_run_120 as_X12_run_120 M0 M → (0 ≤ p121_3 ∧ p121_3 ≤ 6) → rd M 120 59 = s41_120_59 → rd M 120 62 = r57 → rd M 120 63 = r65 → rd M 120 65 = r73 → rd M 120 66 = r81 → rd M 120 67 = r89 → rd M 120 70 = 0 → rd M 120 75 = r105 → rd M 120 79 = r113 → rd M 120 84 = r97 → rd M 120 85 = 1 → rd M 120 86 = r57 → rd M 120 87 = r65 → rd M 120 88 = r73 → rd M 120 89 = r81 → rd M 120 90 = r89 → rd M 120 91 = r97 → rd M 120 95 = r105 → rd M 120 96 = r113 → (s41_120_59 = -1) → (6 - p121_3).toNat < n121 → Tr l K 8 mX12_run 121 [(0, (2, 120)), (2, (0, r41)), (3, (0, p121_3))] [] M (q_X12_run_120 a1 M0) := by
            intro n121
            induction n121 with
            | zero => intro M p121_3 hS bp121_3 k121_120_59 k121_120_62 k121_120_63 k121_120_65 k121_120_66 k121_120_67 k121_120_70 k121_120_75 k121_120_79 k121_120_84 k121_120_85 k121_120_86 k121_120_87 k121_120_88 k121_120_89 k121_120_90 k121_120_91 k121_120_95 k121_120_96 t121_0 hm121; exact absurd hm121 (Nat.not_lt_zero _)
            | succ n121 J121 =>
              intro M p121_3 hS bp121_3 k121_120_59 k121_120_62 k121_120_63 k121_120_65 k121_120_66 k121_120_67 k121_120_70 k121_120_75 k121_120_79 k121_120_84 k121_120_85 k121_120_86 k121_120_87 k121_120_88 k121_120_89 k121_120_90 k121_120_91 k121_120_95 k121_120_96 t121_0 hm121
              refine Tr.iload_n (pc := 121) (i := 3) d_X12_run_121 rfl rfl ?_
              refine Tr.bipush (pc := 122) d_X12_run_122 rfl (by decide) ?_
              refine Tr.icmp_ge (pc := 124) (tgt := 145) d_X12_run_124 rfl (fun c124 => ?_) (fun c124 => ?_)
              · refine Tr.iconst (pc := 145) d_X12_run_145 (by decide) ?_
                refine Tr.istore_n (pc := 146) (i := 3) (ls2 := [(3, (0, 0)), (0, (2, 120)), (2, (0, r41))]) d_X12_run_146 rfl (by decide) rfl ?_
                have J147 : ∀ (n147 : Nat) (M : Mem) (p147_3 : Int), St Tru ws_X12_run_120 as_X12_run_120 M0 M → (0 ≤ p147_3 ∧ p147_3 ≤ 24) → rd M 120 59 = s41_120_59 → rd M 120 62 = r57 → rd M 120 63 = r65 → rd M 120 65 = r73 → rd M 120 66 = r81 → rd M 120 67 = r89 → rd M 120 70 = 0 → rd M 120 75 = r105 → rd M 120 79 = r113 → rd M 120 84 = r97 → rd M 120 85 = 1 → rd M 120 86 = r57 → rd M 120 87 = r65 → rd M 120 88 = r73 → rd M 120 89 = r81 → rd M 120 90 = r89 → rd M 120 91 = r97 → rd M 120 95 = r105 → rd M 120 96 = r113 → (s41_120_59 = -1) → (24 - p147_3).toNat < n147 → Tr l K 8 mX12_run 147 [(0, (2, 120)), (2, (0, r41)), (3, (0, p147_3))] [] M (q_X12_run_120 a1 M0) := by
                  intro n147
                  induction n147 with
                  | zero => intro M p147_3 hS bp147_3 k147_120_59 k147_120_62 k147_120_63 k147_120_65 k147_120_66 k147_120_67 k147_120_70 k147_120_75 k147_120_79 k147_120_84 k147_120_85 k147_120_86 k147_120_87 k147_120_88 k147_120_89 k147_120_90 k147_120_91 k147_120_95 k147_120_96 t147_0 hm147; exact absurd hm147 (Nat.not_lt_zero _)
                  | succ n147 J147 =>
                    intro M p147_3 hS bp147_3 k147_120_59 k147_120_62 k147_120_63 k147_120_65 k147_120_66 k147_120_67 k147_120_70 k147_120_75 k147_120_79 k147_120_84 k147_120_85 k147_120_86 k147_120_87 k147_120_88 k147_120_89 k147_120_90 k147_120_91 k147_120_95 k147_120_96 t147_0 hm147
                    refine Tr.iload_n (pc := 147) (i := 3) d_X12_run_147 rfl rfl ?_
                    refine Tr.bipush (pc := 148) d_X12_run_148 rfl (by decide) ?_
                    refine Tr.icmp_ge (pc := 150) (tgt := 171) d_X12_run_150 rfl (fun c150 => ?_) (fun c150 => ?_)
                    · refine Tr.iconst (pc := 171) d_X12_run_171 (by decide) ?_
                      refine Tr.istore_n (pc := 172) (i := 3) (ls2 := [(3, (0, 0)), (0, (2, 120)), (2, (0, r41))]) d_X12_run_172 rfl (by decide) rfl ?_
                      have J173 : ∀ (n173 : Nat) (M : Mem) (p173_3 : Int), St Tru ws_X12_run_120 as_X12_run_120 M0 M → (0 ≤ p173_3 ∧ p173_3 ≤ 6) → rd M 120 59 = s41_120_59 → rd M 120 62 = r57 → rd M 120 63 = r65 → rd M 120 65 = r73 → rd M 120 66 = r81 → rd M 120 67 = r89 → rd M 120 70 = 0 → rd M 120 75 = r105 → rd M 120 79 = r113 → rd M 120 84 = r97 → rd M 120 85 = 1 → rd M 120 86 = r57 → rd M 120 87 = r65 → rd M 120 88 = r73 → rd M 120 89 = r81 → rd M 120 90 = r89 → rd M 120 91 = r97 → rd M 120 95 = r105 → rd M 120 96 = r113 → (s41_120_59 = -1) → (6 - p173_3).toNat < n173 → Tr l K 8 mX12_run 173 [(0, (2, 120)), (2, (0, r41)), (3, (0, p173_3))] [] M (q_X12_run_120 a1 M0) := by
                        intro n173
                        induction n173 with
                        | zero => intro M p173_3 hS bp173_3 k173_120_59 k173_120_62 k173_120_63 k173_120_65 k173_120_66 k173_120_67 k173_120_70 k173_120_75 k173_120_79 k173_120_84 k173_120_85 k173_120_86 k173_120_87 k173_120_88 k173_120_89 k173_120_90 k173_120_91 k173_120_95 k173_120_96 t173_0 hm173; exact absurd hm173 (Nat.not_lt_zero _)
                        | succ n173 J173 =>
                          intro M p173_3 hS bp173_3 k173_120_59 k173_120_62 k173_120_63 k173_120_65 k173_120_66 k173_120_67 k173_120_70 k173_120_75 k173_120_79 k173_120_84 k173_120_85 k173_120_86 k173_120_87 k173_120_88 k173_120_89 k173_120_90 k173_120_91 k173_120_95 k173_120_96 t173_0 hm173
                          refine Tr.iload_n (pc := 173) (i := 3) d_X12_run_173 rfl rfl ?_
                          refine Tr.bipush (pc := 174) d_X12_run_174 rfl (by decide) ?_
                          refine Tr.icmp_ge (pc := 176) (tgt := 222) d_X12_run_176 rfl (fun c176 => ?_) (fun c176 => ?_)
                          · refine Tr.iload_n (pc := 222) (i := 2) d_X12_run_222 rfl rfl ?_
                            have kr_120_59 : rd M 120 59 = s41_120_59 := k173_120_59
                            exact Tr.iret (pc := 223) d_X12_run_223 rfl ⟨hS, _, rfl, by omega, by omega, by omega⟩
                          · refine Tr.aload_n (pc := 179) (i := 0) d_X12_run_179 rfl rfl ?_
                            refine Tr.getf (pc := 180) d_X12_run_180 f_12_297 (by decide) (by decide) (ty_120 hS.1.1) ?_
                            refine Tr.tp 175 (fx_120_94 hS.1.1) ?_
                            refine Tr.iload_n (pc := 183) (i := 3) d_X12_run_183 rfl rfl ?_
                            refine Tr.aload_n (pc := 184) (i := 0) d_X12_run_184 rfl rfl ?_
                            refine Tr.getf (pc := 185) d_X12_run_185 f_12_177 (by decide) (by decide) (ty_120 hS.1.1) ?_
                            refine Tr.tp 156 (fx_120_54 hS.1.1) ?_
                            refine Tr.iload_n (pc := 188) (i := 3) d_X12_run_188 rfl rfl ?_
                            refine Tr.zald (pc := 189) d_X12_run_189 (ty_156 hS.1.1) (by omega) (by omega) ?_
                            refine Tr.gen (P := fun v => 0 ≤ v ∧ v ≤ 1) (ar_156 hS.1.2.1 _) (fun r189 er189 br189 => ?_)
                            have J215 : ∀ (M : Mem) (q215_2 : Int), St Tru ws_X12_run_120 as_X12_run_120 M0 M → (0 ≤ q215_2 ∧ q215_2 ≤ 1) → rd M 120 59 = s41_120_59 → rd M 120 62 = r57 → rd M 120 63 = r65 → rd M 120 65 = r73 → rd M 120 66 = r81 → rd M 120 67 = r89 → rd M 120 70 = 0 → rd M 120 75 = r105 → rd M 120 79 = r113 → rd M 120 84 = r97 → rd M 120 85 = 1 → rd M 120 86 = r57 → rd M 120 87 = r65 → rd M 120 88 = r73 → rd M 120 89 = r81 → rd M 120 90 = r89 → rd M 120 91 = r97 → rd M 120 95 = r105 → rd M 120 96 = r113 → rd M 156 p173_3 = r189 → (s41_120_59 = -1) → Tr l K 8 mX12_run 215 [(0, (2, 120)), (2, (0, r41)), (3, (0, p173_3))] [(0, q215_2), (0, p173_3), (2, 175)] M (q_X12_run_120 a1 M0) := by
                              intro M q215_2 hS bq215_2 k215_120_59 k215_120_62 k215_120_63 k215_120_65 k215_120_66 k215_120_67 k215_120_70 k215_120_75 k215_120_79 k215_120_84 k215_120_85 k215_120_86 k215_120_87 k215_120_88 k215_120_89 k215_120_90 k215_120_91 k215_120_95 k215_120_96 k215_156_p173_310 t215_0
                              refine Tr.zastS (pc := 215) (P := St Tru ws_X12_run_120 as_X12_run_120 M0) d_X12_run_215 (ty_175 hS.1.1) (by omega) (by omega) (by omega) (sa_175 hS (by decide) (by omega) trivial) (fun M215 hS w215 => ?_)
                              refine Tr.iincV (pc := 216) (n2 := (p173_3 + 1)) (ls2 := [(3, (0, (p173_3 + 1))), (0, (2, 120)), (2, (0, r41))]) d_X12_run_216 rfl (by decide) ((w32_id (by omega)).trans (by omega)) rfl ?_
                              refine Tr.goto (pc := 219) (tgt := 173) d_X12_run_219 rfl ?_
                              refine Tr.pick [1, 2, 0] (ls2 := [(0, (2, 120)), (2, (0, r41)), (3, (0, (p173_3 + 1)))]) rfl ?_
                              exact J173 _ _ hS (by omega) ((Wr.b w215 rfl).trans k215_120_59) ((Wr.b w215 rfl).trans k215_120_62) ((Wr.b w215 rfl).trans k215_120_63) ((Wr.b w215 rfl).trans k215_120_65) ((Wr.b w215 rfl).trans k215_120_66) ((Wr.b w215 rfl).trans k215_120_67) ((Wr.b w215 rfl).trans k215_120_70) ((Wr.b w215 rfl).trans k215_120_75) ((Wr.b w215 rfl).trans k215_120_79) ((Wr.b w215 rfl).trans k215_120_84) ((Wr.b w215 rfl).trans k215_120_85) ((Wr.b w215 rfl).trans k215_120_86) ((Wr.b w215 rfl).trans k215_120_87) ((Wr.b w215 rfl).trans k215_120_88) ((Wr.b w215 rfl).trans k215_120_89) ((Wr.b w215 rfl).trans k215_120_90) ((Wr.b w215 rfl).trans k215_120_91) ((Wr.b w215 rfl).trans k215_120_95) ((Wr.b w215 rfl).trans k215_120_96) (by omega) (by omega)
                            have J214 : ∀ (M : Mem), St Tru ws_X12_run_120 as_X12_run_120 M0 M → rd M 120 59 = s41_120_59 → rd M 120 62 = r57 → rd M 120 63 = r65 → rd M 120 65 = r73 → rd M 120 66 = r81 → rd M 120 67 = r89 → rd M 120 70 = 0 → rd M 120 75 = r105 → rd M 120 79 = r113 → rd M 120 84 = r97 → rd M 120 85 = 1 → rd M 120 86 = r57 → rd M 120 87 = r65 → rd M 120 88 = r73 → rd M 120 89 = r81 → rd M 120 90 = r89 → rd M 120 91 = r97 → rd M 120 95 = r105 → rd M 120 96 = r113 → rd M 156 p173_3 = r189 → (s41_120_59 = -1) → Tr l K 8 mX12_run 214 [(0, (2, 120)), (2, (0, r41)), (3, (0, p173_3))] [(0, p173_3), (2, 175)] M (q_X12_run_120 a1 M0) := by
                              intro M  hS  k214_120_59 k214_120_62 k214_120_63 k214_120_65 k214_120_66 k214_120_67 k214_120_70 k214_120_75 k214_120_79 k214_120_84 k214_120_85 k214_120_86 k214_120_87 k214_120_88 k214_120_89 k214_120_90 k214_120_91 k214_120_95 k214_120_96 k214_156_p173_310 t214_0
                              refine Tr.iconst (pc := 214) d_X12_run_214 (by decide) ?_
                              refine Tr.pick [0, 1, 2] (ls2 := [(0, (2, 120)), (2, (0, r41)), (3, (0, p173_3))]) rfl ?_
                              exact J215 _ _ hS (by omega) k214_120_59 k214_120_62 k214_120_63 k214_120_65 k214_120_66 k214_120_67 k214_120_70 k214_120_75 k214_120_79 k214_120_84 k214_120_85 k214_120_86 k214_120_87 k214_120_88 k214_120_89 k214_120_90 k214_120_91 k214_120_95 k214_120_96 k214_156_p173_310 (by omega)
                            refine Tr.if_ne (pc := 190) (tgt := 214) d_X12_run_190 rfl (fun c190 => ?_) (fun c190 => ?_)
                            · refine Tr.pick [0, 1, 2] (ls2 := [(0, (2, 120)), (2, (0, r41)), (3, (0, p173_3))]) rfl ?_
                              exact J214 _ hS k173_120_59 k173_120_62 k173_120_63 k173_120_65 k173_120_66 k173_120_67 k173_120_70 k173_120_75 k173_120_79 k173_120_84 k173_120_85 k173_120_86 k173_120_87 k173_120_88 k173_120_89 k173_120_90 k173_120_91 k173_120_95 k173_120_96 er189 (by omega)
                            · refine Tr.aload_n (pc := 193) (i := 0) d_X12_run_193 rfl rfl ?_
                              refine Tr.getf (pc := 194) d_X12_run_194 f_12_183 (by decide) (by decide) (ty_120 hS.1.1) ?_
                              refine Tr.tp 158 (fx_120_56 hS.1.1) ?_
                              refine Tr.iload_n (pc := 197) (i := 3) d_X12_run_197 rfl rfl ?_
                              refine Tr.iald (pc := 198) d_X12_run_198 (ty_158 hS.1.1) (by omega) (by omega) ?_
                              refine Tr.gen (P := fun v => (-2147483648) ≤ v ∧ v ≤ 2147483647) (ar_158 hS.1.2.1 _) (fun r198 er198 br198 => ?_)
                              refine Tr.if_ne (pc := 199) (tgt := 214) d_X12_run_199 rfl (fun c199 => ?_) (fun c199 => ?_)
                              · refine Tr.pick [0, 1, 2] (ls2 := [(0, (2, 120)), (2, (0, r41)), (3, (0, p173_3))]) rfl ?_
                                exact J214 _ hS k173_120_59 k173_120_62 k173_120_63 k173_120_65 k173_120_66 k173_120_67 k173_120_70 k173_120_75 k173_120_79 k173_120_84 k173_120_85 k173_120_86 k173_120_87 k173_120_88 k173_120_89 k173_120_90 k173_120_91 k173_120_95 k173_120_96 er189 (by omega)
                              · refine Tr.iload_n (pc := 202) (i := 3) d_X12_run_202 rfl rfl ?_
                                refine Tr.aload_n (pc := 203) (i := 0) d_X12_run_203 rfl rfl ?_
                                refine Tr.getf (pc := 204) d_X12_run_204 f_12_195 (by decide) (by decide) (ty_120 hS.1.1) ?_
                                refine Tr.gen (P := fun v => (-2147483648) ≤ v ∧ v ≤ 2147483647) (ir_120_60 hS.1.2.1) (fun r204 er204 br204 => ?_)
                                refine Tr.icmp_eq (pc := 207) (tgt := 214) d_X12_run_207 rfl (fun c207 => ?_) (fun c207 => ?_)
                                · refine Tr.pick [0, 1, 2] (ls2 := [(0, (2, 120)), (2, (0, r41)), (3, (0, p173_3))]) rfl ?_
                                  exact J214 _ hS k173_120_59 k173_120_62 k173_120_63 k173_120_65 k173_120_66 k173_120_67 k173_120_70 k173_120_75 k173_120_79 k173_120_84 k173_120_85 k173_120_86 k173_120_87 k173_120_88 k173_120_89 k173_120_90 k173_120_91 k173_120_95 k173_120_96 er189 (by omega)
                                · refine Tr.iconst (pc := 210) d_X12_run_210 (by decide) ?_
                                  refine Tr.goto (pc := 211) (tgt := 215) d_X12_run_211 rfl ?_
                                  refine Tr.pick [0, 1, 2] (ls2 := [(0, (2, 120)), (2, (0, r41)), (3, (0, p173_3))]) rfl ?_
                                  exact J215 _ _ hS (by omega) k173_120_59 k173_120_62 k173_120_63 k173_120_65 k173_120_66 k173_120_67 k173_120_70 k173_120_75 k173_120_79 k173_120_84 k173_120_85 k173_120_86 k173_120_87 k173_120_88 k173_120_89 k173_120_90 k173_120_91 k173_120_95 k173_120_96 er189 (by omega)
                      refine Tr.pick [1, 2, 0] (ls2 := [(0, (2, 120)), (2, (0, r41)), (3, (0, 0))]) rfl ?_
                      exact J173 _ _ _ hS (by omega) k147_120_59 k147_120_62 k147_120_63 k147_120_65 k147_120_66 k147_120_67 k147_120_70 k147_120_75 k147_120_79 k147_120_84 k147_120_85 k147_120_86 k147_120_87 k147_120_88 k147_120_89 k147_120_90 k147_120_91 k147_120_95 k147_120_96 (by omega) (Nat.lt_succ_self _)
                    · refine Tr.aload_n (pc := 153) (i := 0) d_X12_run_153 rfl rfl ?_
                      refine Tr.getf (pc := 154) d_X12_run_154 f_12_294 (by decide) (by decide) (ty_120 hS.1.1) ?_
                      refine Tr.tp 174 (fx_120_93 hS.1.1) ?_
                      refine Tr.iload_n (pc := 157) (i := 3) d_X12_run_157 rfl rfl ?_
                      refine Tr.aload_n (pc := 158) (i := 0) d_X12_run_158 rfl rfl ?_
                      refine Tr.getf (pc := 159) d_X12_run_159 f_12_222 (by decide) (by decide) (ty_120 hS.1.1) ?_
                      refine Tr.tp 161 (fx_120_69 hS.1.1) ?_
                      refine Tr.iload_n (pc := 162) (i := 3) d_X12_run_162 rfl rfl ?_
                      refine Tr.iald (pc := 163) d_X12_run_163 (ty_161 hS.1.1) (by omega) (by omega) ?_
                      refine Tr.gen (P := fun v => (-2147483648) ≤ v ∧ v ≤ 2147483647) (ar_161 hS.1.2.1 _) (fun r163 er163 br163 => ?_)
                      refine Tr.iastS (pc := 164) (P := St Tru ws_X12_run_120 as_X12_run_120 M0) d_X12_run_164 (ty_174 hS.1.1) (by omega) (by omega) (sa_174 hS (by decide) (by omega) trivial) (fun M164 hS w164 => ?_)
                      refine Tr.iincV (pc := 165) (n2 := (p147_3 + 1)) (ls2 := [(3, (0, (p147_3 + 1))), (0, (2, 120)), (2, (0, r41))]) d_X12_run_165 rfl (by decide) ((w32_id (by omega)).trans (by omega)) rfl ?_
                      refine Tr.goto (pc := 168) (tgt := 147) d_X12_run_168 rfl ?_
                      refine Tr.pick [1, 2, 0] (ls2 := [(0, (2, 120)), (2, (0, r41)), (3, (0, (p147_3 + 1)))]) rfl ?_
                      exact J147 _ _ hS (by omega) ((Wr.b w164 rfl).trans k147_120_59) ((Wr.b w164 rfl).trans k147_120_62) ((Wr.b w164 rfl).trans k147_120_63) ((Wr.b w164 rfl).trans k147_120_65) ((Wr.b w164 rfl).trans k147_120_66) ((Wr.b w164 rfl).trans k147_120_67) ((Wr.b w164 rfl).trans k147_120_70) ((Wr.b w164 rfl).trans k147_120_75) ((Wr.b w164 rfl).trans k147_120_79) ((Wr.b w164 rfl).trans k147_120_84) ((Wr.b w164 rfl).trans k147_120_85) ((Wr.b w164 rfl).trans k147_120_86) ((Wr.b w164 rfl).trans k147_120_87) ((Wr.b w164 rfl).trans k147_120_88) ((Wr.b w164 rfl).trans k147_120_89) ((Wr.b w164 rfl).trans k147_120_90) ((Wr.b w164 rfl).trans k147_120_91) ((Wr.b w164 rfl).trans k147_120_95) ((Wr.b w164 rfl).trans k147_120_96) (by omega) (by omega)
                refine Tr.pick [1, 2, 0] (ls2 := [(0, (2, 120)), (2, (0, r41)), (3, (0, 0))]) rfl ?_
                exact J147 _ _ _ hS (by omega) k121_120_59 k121_120_62 k121_120_63 k121_120_65 k121_120_66 k121_120_67 k121_120_70 k121_120_75 k121_120_79 k121_120_84 k121_120_85 k121_120_86 k121_120_87 k121_120_88 k121_120_89 k121_120_90 k121_120_91 k121_120_95 k121_120_96 (by omega) (Nat.lt_succ_self _)
              · refine Tr.aload_n (pc := 127) (i := 0) d_X12_run_127 rfl rfl ?_
                refine Tr.getf (pc := 128) d_X12_run_128 f_12_291 (by decide) (by decide) (ty_120 hS.1.1) ?_
                refine Tr.tp 173 (fx_120_92 hS.1.1) ?_
                refine Tr.iload_n (pc := 131) (i := 3) d_X12_run_131 rfl rfl ?_
                refine Tr.aload_n (pc := 132) (i := 0) d_X12_run_132 rfl rfl ?_
                refine Tr.getf (pc := 133) d_X12_run_133 f_12_174 (by decide) (by decide) (ty_120 hS.1.1) ?_
                refine Tr.tp 155 (fx_120_53 hS.1.1) ?_
                refine Tr.iload_n (pc := 136) (i := 3) d_X12_run_136 rfl rfl ?_
                refine Tr.iald (pc := 137) d_X12_run_137 (ty_155 hS.1.1) (by omega) (by omega) ?_
                refine Tr.gen (P := fun v => (-2147483648) ≤ v ∧ v ≤ 2147483647) (ar_155 hS.1.2.1 _) (fun r137 er137 br137 => ?_)
                refine Tr.iastS (pc := 138) (P := St Tru ws_X12_run_120 as_X12_run_120 M0) d_X12_run_138 (ty_173 hS.1.1) (by omega) (by omega) (sa_173 hS (by decide) (by omega) trivial) (fun M138 hS w138 => ?_)
                refine Tr.iincV (pc := 139) (n2 := (p121_3 + 1)) (ls2 := [(3, (0, (p121_3 + 1))), (0, (2, 120)), (2, (0, r41))]) d_X12_run_139 rfl (by decide) ((w32_id (by omega)).trans (by omega)) rfl ?_
                refine Tr.goto (pc := 142) (tgt := 121) d_X12_run_142 rfl ?_
                refine Tr.pick [1, 2, 0] (ls2 := [(0, (2, 120)), (2, (0, r41)), (3, (0, (p121_3 + 1)))]) rfl ?_
                exact J121 _ _ hS (by omega) ((Wr.b w138 rfl).trans k121_120_59) ((Wr.b w138 rfl).trans k121_120_62) ((Wr.b w138 rfl).trans k121_120_63) ((Wr.b w138 rfl).trans k121_120_65) ((Wr.b w138 rfl).trans k121_120_66) ((Wr.b w138 rfl).trans k121_120_67) ((Wr.b w138 rfl).trans k121_120_70) ((Wr.b w138 rfl).trans k121_120_75) ((Wr.b w138 rfl).trans k121_120_79) ((Wr.b w138 rfl).trans k121_120_84) ((Wr.b w138 rfl).trans k121_120_85) ((Wr.b w138 rfl).trans k121_120_86) ((Wr.b w138 rfl).trans k121_120_87) ((Wr.b w138 rfl).trans k121_120_88) ((Wr.b w138 rfl).trans k121_120_89) ((Wr.b w138 rfl).trans k121_120_90) ((Wr.b w138 rfl).trans k121_120_91) ((Wr.b w138 rfl).trans k121_120_95) ((Wr.b w138 rfl).trans k121_120_96) (by omega) (by omega)
          refine Tr.pick [2, 1, 0] (ls2 := [(0, (2, 120)), (2, (0, r41)), (3, (0, 0))]) rfl ?_
          exact J121 _ _ _ hS (by omega) ((Wr.b w116 rfl).trans ((Wr.b w108 rfl).trans ((Wr.b w100 rfl).trans ((Wr.b w92 rfl).trans ((Wr.b w84 rfl).trans ((Wr.b w76 rfl).trans ((Wr.b w68 rfl).trans ((Wr.b w60 rfl).trans ((Wr.b w52 rfl).trans ((Wr.b w47 rfl).trans es41_120_59)))))))))) ((Wr.b w116 rfl).trans ((Wr.b w108 rfl).trans ((Wr.b w100 rfl).trans ((Wr.b w92 rfl).trans ((Wr.b w84 rfl).trans ((Wr.b w76 rfl).trans ((Wr.b w68 rfl).trans ((Wr.b w60 rfl).trans er57)))))))) ((Wr.b w116 rfl).trans ((Wr.b w108 rfl).trans ((Wr.b w100 rfl).trans ((Wr.b w92 rfl).trans ((Wr.b w84 rfl).trans ((Wr.b w76 rfl).trans ((Wr.b w68 rfl).trans er65))))))) ((Wr.b w116 rfl).trans ((Wr.b w108 rfl).trans ((Wr.b w100 rfl).trans ((Wr.b w92 rfl).trans ((Wr.b w84 rfl).trans ((Wr.b w76 rfl).trans er73)))))) ((Wr.b w116 rfl).trans ((Wr.b w108 rfl).trans ((Wr.b w100 rfl).trans ((Wr.b w92 rfl).trans ((Wr.b w84 rfl).trans er81))))) ((Wr.b w116 rfl).trans ((Wr.b w108 rfl).trans ((Wr.b w100 rfl).trans ((Wr.b w92 rfl).trans er89)))) ((Wr.b w116 rfl).trans ((Wr.b w108 rfl).trans ((Wr.b w100 rfl).trans ((Wr.b w92 rfl).trans ((Wr.b w84 rfl).trans ((Wr.b w76 rfl).trans ((Wr.b w68 rfl).trans ((Wr.b w60 rfl).trans ((Wr.b w52 rfl).trans w47.1))))))))) ((Wr.b w116 rfl).trans ((Wr.b w108 rfl).trans er105)) ((Wr.b w116 rfl).trans er113) ((Wr.b w116 rfl).trans ((Wr.b w108 rfl).trans ((Wr.b w100 rfl).trans er97))) ((Wr.b w116 rfl).trans ((Wr.b w108 rfl).trans ((Wr.b w100 rfl).trans ((Wr.b w92 rfl).trans ((Wr.b w84 rfl).trans ((Wr.b w76 rfl).trans ((Wr.b w68 rfl).trans ((Wr.b w60 rfl).trans w52.1)))))))) ((Wr.b w116 rfl).trans ((Wr.b w108 rfl).trans ((Wr.b w100 rfl).trans ((Wr.b w92 rfl).trans ((Wr.b w84 rfl).trans ((Wr.b w76 rfl).trans ((Wr.b w68 rfl).trans w60.1))))))) ((Wr.b w116 rfl).trans ((Wr.b w108 rfl).trans ((Wr.b w100 rfl).trans ((Wr.b w92 rfl).trans ((Wr.b w84 rfl).trans ((Wr.b w76 rfl).trans w68.1)))))) ((Wr.b w116 rfl).trans ((Wr.b w108 rfl).trans ((Wr.b w100 rfl).trans ((Wr.b w92 rfl).trans ((Wr.b w84 rfl).trans w76.1))))) ((Wr.b w116 rfl).trans ((Wr.b w108 rfl).trans ((Wr.b w100 rfl).trans ((Wr.b w92 rfl).trans w84.1)))) ((Wr.b w116 rfl).trans ((Wr.b w108 rfl).trans ((Wr.b w100 rfl).trans w92.1))) ((Wr.b w116 rfl).trans ((Wr.b w108 rfl).trans w100.1)) ((Wr.b w116 rfl).trans w108.1) w116.1 (by omega) (Nat.lt_succ_self _)
        · refine Tr.aload_n (pc := 15) (i := 0) d_X12_run_15 rfl rfl ?_
          refine Tr.getf (pc := 16) d_X12_run_16 f_12_171 (by decide) (by decide) (ty_120 hS.1.1) ?_
          refine Tr.tp 154 (fx_120_52 hS.1.1) ?_
          refine Tr.iload_n (pc := 19) (i := 2) d_X12_run_19 rfl rfl ?_
          refine Tr.aload_n (pc := 20) (i := 0) d_X12_run_20 rfl rfl ?_
          refine Tr.getf (pc := 21) d_X12_run_21 f_12_168 (by decide) (by decide) (ty_120 hS.1.1) ?_
          refine Tr.tp 153 (fx_120_51 hS.1.1) ?_
          refine Tr.iload_n (pc := 24) (i := 2) d_X12_run_24 rfl rfl ?_
          refine Tr.iald (pc := 25) d_X12_run_25 (ty_153 hS.1.1) (by omega) (by omega) ?_
          refine Tr.gen (P := fun v => (-2147483648) ≤ v ∧ v ≤ 2147483647) (ar_153 hS.1.2.1 _) (fun r25 er25 br25 => ?_)
          refine Tr.iastS (pc := 26) (P := St Tru ws_X12_run_120 as_X12_run_120 M0) d_X12_run_26 (ty_154 hS.1.1) (by omega) (by omega) (sa_154 hS (by decide) (by omega) trivial) (fun M26 hS w26 => ?_)
          refine Tr.iincV (pc := 27) (n2 := (p10_2 + 1)) (ls2 := [(2, (0, (p10_2 + 1))), (0, (2, 120)), (1, (0, a1))]) d_X12_run_27 rfl (by decide) ((w32_id (by omega)).trans (by omega)) rfl ?_
          refine Tr.goto (pc := 30) (tgt := 10) d_X12_run_30 rfl ?_
          refine Tr.pick [1, 2, 0] (ls2 := [(0, (2, 120)), (1, (0, a1)), (2, (0, (p10_2 + 1)))]) rfl ?_
          exact J10 _ _ hS (by omega) ((Wr.b w26 rfl).trans k10_120_59) (by omega) (by omega)
    refine Tr.pick [1, 2, 0] (ls2 := [(0, (2, 120)), (1, (0, a1)), (2, (0, 0))]) rfl ?_
    exact J10 _ _ _ hS (by omega) eg120_59 (by omega) (Nat.lt_succ_self _)
  · refine Tr.bipush (pc := 5) d_X12_run_5 rfl (by decide) ?_
    have kr_120_59 : rd M0 120 59 = g120_59 := eg120_59
    exact Tr.iret (pc := 7) d_X12_run_7 rfl ⟨hS, _, rfl, by omega, by omega, by omega⟩

def ws_X12_isLetter : List (Int × Int) := []
def as_X12_isLetter : List Int := []
def q_X12_isLetter (a0 : Int) (M0 M' : Mem) (r : Option PV) : Prop := St Tru ws_X12_isLetter as_X12_isLetter M0 M' ∧ ∃ v : Int, r = some (0, v) ∧ 0 ≤ v ∧ v ≤ 1 ∧ ((v = 1 ∧ 97 ≤ a0 ∧ a0 ≤ 122) ∨ (v = 0 ∧ (a0 < 97 ∨ 122 < a0)))
set_option maxRecDepth 100000 in
set_option maxHeartbeats 4000000 in
theorem sp_X12_isLetter {l : Launch} {K : EC} {M0 : Mem} (hI : In Tru M0)  (a0 : Int) (ha0 : (-2147483648) ≤ a0 ∧ a0 ≤ 2147483647)  : Tr l K 0 mX12_isLetter 0 [(0, (0, a0))] [] M0 (q_X12_isLetter a0 M0) := by
  have hS : St Tru ws_X12_isLetter as_X12_isLetter M0 M0 := St.rf hI
  refine Tr.iload_n (pc := 0) (i := 0) d_X12_isLetter_0 rfl rfl ?_
  refine Tr.bipush (pc := 1) d_X12_isLetter_1 rfl (by decide) ?_
  refine Tr.icmp_lt (pc := 3) (tgt := 16) d_X12_isLetter_3 rfl (fun c3 => ?_) (fun c3 => ?_)
  · refine Tr.iconst (pc := 16) d_X12_isLetter_16 (by decide) ?_
    exact Tr.zret (pc := 17) d_X12_isLetter_17 rfl (by omega) ⟨hS, _, rfl, by omega, by omega, by omega⟩
  · refine Tr.iload_n (pc := 6) (i := 0) d_X12_isLetter_6 rfl rfl ?_
    refine Tr.bipush (pc := 7) d_X12_isLetter_7 rfl (by decide) ?_
    refine Tr.icmp_gt (pc := 9) (tgt := 16) d_X12_isLetter_9 rfl (fun c9 => ?_) (fun c9 => ?_)
    · refine Tr.iconst (pc := 16) d_X12_isLetter_16 (by decide) ?_
      exact Tr.zret (pc := 17) d_X12_isLetter_17 rfl (by omega) ⟨hS, _, rfl, by omega, by omega, by omega⟩
    · refine Tr.iconst (pc := 12) d_X12_isLetter_12 (by decide) ?_
      refine Tr.goto (pc := 13) (tgt := 17) d_X12_isLetter_13 rfl ?_
      exact Tr.zret (pc := 17) d_X12_isLetter_17 rfl (by omega) ⟨hS, _, rfl, by omega, by omega, by omega⟩

def ws_X12_isDigit : List (Int × Int) := []
def as_X12_isDigit : List Int := []
def q_X12_isDigit (a0 : Int) (M0 M' : Mem) (r : Option PV) : Prop := St Tru ws_X12_isDigit as_X12_isDigit M0 M' ∧ ∃ v : Int, r = some (0, v) ∧ 0 ≤ v ∧ v ≤ 1 ∧ ((v = 1 ∧ 48 ≤ a0 ∧ a0 ≤ 57) ∨ (v = 0 ∧ (a0 < 48 ∨ 57 < a0)))
set_option maxRecDepth 100000 in
set_option maxHeartbeats 4000000 in
theorem sp_X12_isDigit {l : Launch} {K : EC} {M0 : Mem} (hI : In Tru M0)  (a0 : Int) (ha0 : (-2147483648) ≤ a0 ∧ a0 ≤ 2147483647)  : Tr l K 0 mX12_isDigit 0 [(0, (0, a0))] [] M0 (q_X12_isDigit a0 M0) := by
  have hS : St Tru ws_X12_isDigit as_X12_isDigit M0 M0 := St.rf hI
  refine Tr.iload_n (pc := 0) (i := 0) d_X12_isDigit_0 rfl rfl ?_
  refine Tr.bipush (pc := 1) d_X12_isDigit_1 rfl (by decide) ?_
  refine Tr.icmp_lt (pc := 3) (tgt := 16) d_X12_isDigit_3 rfl (fun c3 => ?_) (fun c3 => ?_)
  · refine Tr.iconst (pc := 16) d_X12_isDigit_16 (by decide) ?_
    exact Tr.zret (pc := 17) d_X12_isDigit_17 rfl (by omega) ⟨hS, _, rfl, by omega, by omega, by omega⟩
  · refine Tr.iload_n (pc := 6) (i := 0) d_X12_isDigit_6 rfl rfl ?_
    refine Tr.bipush (pc := 7) d_X12_isDigit_7 rfl (by decide) ?_
    refine Tr.icmp_gt (pc := 9) (tgt := 16) d_X12_isDigit_9 rfl (fun c9 => ?_) (fun c9 => ?_)
    · refine Tr.iconst (pc := 16) d_X12_isDigit_16 (by decide) ?_
      exact Tr.zret (pc := 17) d_X12_isDigit_17 rfl (by omega) ⟨hS, _, rfl, by omega, by omega, by omega⟩
    · refine Tr.iconst (pc := 12) d_X12_isDigit_12 (by decide) ?_
      refine Tr.goto (pc := 13) (tgt := 17) d_X12_isDigit_13 rfl ?_
      exact Tr.zret (pc := 17) d_X12_isDigit_17 rfl (by omega) ⟨hS, _, rfl, by omega, by omega, by omega⟩

def ws_X12_isWord_120 : List (Int × Int) := []
def as_X12_isWord_120 : List Int := []
def q_X12_isWord_120 (a1 : Int) (M0 M' : Mem) (r : Option PV) : Prop := St Tru ws_X12_isWord_120 as_X12_isWord_120 M0 M' ∧ ∃ v : Int, r = some (0, v) ∧ 0 ≤ v ∧ v ≤ 1 ∧ ((v = 1 ∧ rd M' 120 3 = 1 ∧ rd M' 120 7 = a1) ∨ (v = 0 ∧ (rd M' 120 3 ≠ 1 ∨ rd M' 120 7 ≠ a1)))
set_option maxRecDepth 100000 in
set_option maxHeartbeats 4000000 in
theorem sp_X12_isWord_120 {l : Launch} {K : EC} {M0 : Mem} (hI : In Tru M0)  (a1 : Int) (ha1 : (-9223372036854775808) ≤ a1 ∧ a1 ≤ 9223372036854775807)  : Tr l K 0 mX12_isWord 0 [(0, (2, 120)), (1, (1, a1))] [] M0 (q_X12_isWord_120 a1 M0) := by
  have hS : St Tru ws_X12_isWord_120 as_X12_isWord_120 M0 M0 := St.rf hI
  obtain ⟨g120_3, eg120_3⟩ : ∃ v, rd M0 120 3 = v := ⟨_, rfl⟩
  have bg120_3 : 0 ≤ g120_3 ∧ g120_3 ≤ 3 := by rw [← eg120_3]; exact ir_120_3 hI.2.1
  obtain ⟨g120_7, eg120_7⟩ : ∃ v, rd M0 120 7 = v := ⟨_, rfl⟩
  have bg120_7 : (-9223372036854775808) ≤ g120_7 ∧ g120_7 ≤ 9223372036854775807 := by rw [← eg120_7]; exact ir_120_7 hI.2.1
  refine Tr.aload_n (pc := 0) (i := 0) d_X12_isWord_0 rfl rfl ?_
  refine Tr.getf (pc := 1) d_X12_isWord_1 f_12_20 (by decide) (by decide) (ty_120 hS.1.1) ?_
  refine Tr.tp g120_3 eg120_3 ?_
  refine Tr.iconst (pc := 4) d_X12_isWord_4 (by decide) ?_
  refine Tr.icmp_ne (pc := 5) (tgt := 21) d_X12_isWord_5 rfl (fun c5 => ?_) (fun c5 => ?_)
  · refine Tr.iconst (pc := 21) d_X12_isWord_21 (by decide) ?_
    have kr_120_3 : rd M0 120 3 = g120_3 := eg120_3
    have kr_120_7 : rd M0 120 7 = g120_7 := eg120_7
    exact Tr.zret (pc := 22) d_X12_isWord_22 rfl (by omega) ⟨hS, _, rfl, by omega, by omega, by omega⟩
  · refine Tr.aload_n (pc := 8) (i := 0) d_X12_isWord_8 rfl rfl ?_
    refine Tr.getf (pc := 9) d_X12_isWord_9 f_12_32 (by decide) (by decide) (ty_120 hS.1.1) ?_
    refine Tr.tp g120_7 eg120_7 ?_
    refine Tr.lload_n (pc := 12) (i := 1) d_X12_isWord_12 rfl rfl ?_
    refine Tr.lcmp (pc := 13) d_X12_isWord_13 ?_
    refine Tr.gen (P := fun v => (v = 1 ∧ a1 < g120_7) ∨ (v = 0 ∧ g120_7 = a1) ∨ (v = -1 ∧ g120_7 < a1)) (f_lcmp_c _ _) (fun r13 er13 br13 => ?_)
    refine Tr.if_ne (pc := 14) (tgt := 21) d_X12_isWord_14 rfl (fun c14 => ?_) (fun c14 => ?_)
    · refine Tr.iconst (pc := 21) d_X12_isWord_21 (by decide) ?_
      have kr_120_3 : rd M0 120 3 = g120_3 := eg120_3
      have kr_120_7 : rd M0 120 7 = g120_7 := eg120_7
      exact Tr.zret (pc := 22) d_X12_isWord_22 rfl (by omega) ⟨hS, _, rfl, by omega, by omega, by omega⟩
    · refine Tr.iconst (pc := 17) d_X12_isWord_17 (by decide) ?_
      refine Tr.goto (pc := 18) (tgt := 22) d_X12_isWord_18 rfl ?_
      have kr_120_3 : rd M0 120 3 = g120_3 := eg120_3
      have kr_120_7 : rd M0 120 7 = g120_7 := eg120_7
      exact Tr.zret (pc := 22) d_X12_isWord_22 rfl (by omega) ⟨hS, _, rfl, by omega, by omega, by omega⟩

def ws_X12_isOwn_120 : List (Int × Int) := []
def as_X12_isOwn_120 : List Int := []
def q_X12_isOwn_120 (M0 M' : Mem) (r : Option PV) : Prop := St Tru ws_X12_isOwn_120 as_X12_isOwn_120 M0 M' ∧ ∃ v : Int, r = some (0, v) ∧ 0 ≤ v ∧ v ≤ 1
set_option maxRecDepth 100000 in
set_option maxHeartbeats 4000000 in
theorem sp_X12_isOwn_120 {l : Launch} {K : EC} {M0 : Mem} (hI : In Tru M0)  (a1 : Int) (ha1 : (-9223372036854775808) ≤ a1 ∧ a1 ≤ 9223372036854775807)  : Tr l K 0 mX12_isOwn 0 [(0, (2, 120)), (1, (1, a1))] [] M0 (q_X12_isOwn_120 M0) := by
  have hS : St Tru ws_X12_isOwn_120 as_X12_isOwn_120 M0 M0 := St.rf hI
  refine Tr.lload_n (pc := 0) (i := 1) d_X12_isOwn_0 rfl rfl ?_
  refine Tr.ldc2 (pc := 1) d_X12_isOwn_1 kl_12_399 (by decide) ?_
  refine Tr.lcmp (pc := 4) d_X12_isOwn_4 ?_
  refine Tr.gen (P := fun v => (v = 1 ∧ 448377483892 < a1) ∨ (v = 0 ∧ a1 = 448377483892) ∨ (v = -1 ∧ a1 < 448377483892)) (f_lcmp_c _ _) (fun r4 er4 br4 => ?_)
  refine Tr.if_eq (pc := 5) (tgt := 40) d_X12_isOwn_5 rfl (fun c5 => ?_) (fun c5 => ?_)
  · refine Tr.iconst (pc := 40) d_X12_isOwn_40 (by decide) ?_
    exact Tr.zret (pc := 41) d_X12_isOwn_41 rfl (by omega) ⟨hS, _, rfl, by omega, by omega⟩
  · refine Tr.lload_n (pc := 8) (i := 1) d_X12_isOwn_8 rfl rfl ?_
    refine Tr.ldc2 (pc := 9) d_X12_isOwn_9 kl_12_401 (by decide) ?_
    refine Tr.lcmp (pc := 12) d_X12_isOwn_12 ?_
    refine Tr.gen (P := fun v => (v = 1 ∧ 426835667045 < a1) ∨ (v = 0 ∧ a1 = 426835667045) ∨ (v = -1 ∧ a1 < 426835667045)) (f_lcmp_c _ _) (fun r12 er12 br12 => ?_)
    refine Tr.if_eq (pc := 13) (tgt := 40) d_X12_isOwn_13 rfl (fun c13 => ?_) (fun c13 => ?_)
    · refine Tr.iconst (pc := 40) d_X12_isOwn_40 (by decide) ?_
      exact Tr.zret (pc := 41) d_X12_isOwn_41 rfl (by omega) ⟨hS, _, rfl, by omega, by omega⟩
    · refine Tr.lload_n (pc := 16) (i := 1) d_X12_isOwn_16 rfl rfl ?_
      refine Tr.ldc2 (pc := 17) d_X12_isOwn_17 kl_12_403 (by decide) ?_
      refine Tr.lcmp (pc := 20) d_X12_isOwn_20 ?_
      refine Tr.gen (P := fun v => (v = 1 ∧ 1885434484 < a1) ∨ (v = 0 ∧ a1 = 1885434484) ∨ (v = -1 ∧ a1 < 1885434484)) (f_lcmp_c _ _) (fun r20 er20 br20 => ?_)
      refine Tr.if_eq (pc := 21) (tgt := 40) d_X12_isOwn_21 rfl (fun c21 => ?_) (fun c21 => ?_)
      · refine Tr.iconst (pc := 40) d_X12_isOwn_40 (by decide) ?_
        exact Tr.zret (pc := 41) d_X12_isOwn_41 rfl (by omega) ⟨hS, _, rfl, by omega, by omega⟩
      · refine Tr.lload_n (pc := 24) (i := 1) d_X12_isOwn_24 rfl rfl ?_
        refine Tr.ldc2 (pc := 25) d_X12_isOwn_25 kl_12_405 (by decide) ?_
        refine Tr.lcmp (pc := 28) d_X12_isOwn_28 ?_
        refine Tr.gen (P := fun v => (v = 1 ∧ 495739823472 < a1) ∨ (v = 0 ∧ a1 = 495739823472) ∨ (v = -1 ∧ a1 < 495739823472)) (f_lcmp_c _ _) (fun r28 er28 br28 => ?_)
        refine Tr.if_eq (pc := 29) (tgt := 40) d_X12_isOwn_29 rfl (fun c29 => ?_) (fun c29 => ?_)
        · refine Tr.iconst (pc := 40) d_X12_isOwn_40 (by decide) ?_
          exact Tr.zret (pc := 41) d_X12_isOwn_41 rfl (by omega) ⟨hS, _, rfl, by omega, by omega⟩
        · refine Tr.lload_n (pc := 32) (i := 1) d_X12_isOwn_32 rfl rfl ?_
          refine Tr.ldc2 (pc := 33) d_X12_isOwn_33 kl_12_407 (by decide) ?_
          refine Tr.lcmp (pc := 36) d_X12_isOwn_36 ?_
          refine Tr.gen (P := fun v => (v = 1 ∧ 2002873189 < a1) ∨ (v = 0 ∧ a1 = 2002873189) ∨ (v = -1 ∧ a1 < 2002873189)) (f_lcmp_c _ _) (fun r36 er36 br36 => ?_)
          refine Tr.if_ne (pc := 37) (tgt := 42) d_X12_isOwn_37 rfl (fun c37 => ?_) (fun c37 => ?_)
          · refine Tr.lload_n (pc := 42) (i := 1) d_X12_isOwn_42 rfl rfl ?_
            refine Tr.ldc2 (pc := 43) d_X12_isOwn_43 kl_12_409 (by decide) ?_
            refine Tr.lcmp (pc := 46) d_X12_isOwn_46 ?_
            refine Tr.gen (P := fun v => (v = 1 ∧ 28526 < a1) ∨ (v = 0 ∧ a1 = 28526) ∨ (v = -1 ∧ a1 < 28526)) (f_lcmp_c _ _) (fun r46 er46 br46 => ?_)
            refine Tr.if_eq (pc := 47) (tgt := 82) d_X12_isOwn_47 rfl (fun c47 => ?_) (fun c47 => ?_)
            · refine Tr.iconst (pc := 82) d_X12_isOwn_82 (by decide) ?_
              exact Tr.zret (pc := 83) d_X12_isOwn_83 rfl (by omega) ⟨hS, _, rfl, by omega, by omega⟩
            · refine Tr.lload_n (pc := 50) (i := 1) d_X12_isOwn_50 rfl rfl ?_
              refine Tr.ldc2 (pc := 51) d_X12_isOwn_51 kl_12_411 (by decide) ?_
              refine Tr.lcmp (pc := 54) d_X12_isOwn_54 ?_
              refine Tr.gen (P := fun v => (v = 1 ∧ 2003792491 < a1) ∨ (v = 0 ∧ a1 = 2003792491) ∨ (v = -1 ∧ a1 < 2003792491)) (f_lcmp_c _ _) (fun r54 er54 br54 => ?_)
              refine Tr.if_eq (pc := 55) (tgt := 82) d_X12_isOwn_55 rfl (fun c55 => ?_) (fun c55 => ?_)
              · refine Tr.iconst (pc := 82) d_X12_isOwn_82 (by decide) ?_
                exact Tr.zret (pc := 83) d_X12_isOwn_83 rfl (by omega) ⟨hS, _, rfl, by omega, by omega⟩
              · refine Tr.lload_n (pc := 58) (i := 1) d_X12_isOwn_58 rfl rfl ?_
                refine Tr.ldc2 (pc := 59) d_X12_isOwn_59 kl_12_413 (by decide) ?_
                refine Tr.lcmp (pc := 62) d_X12_isOwn_62 ?_
                refine Tr.gen (P := fun v => (v = 1 ∧ 1952541036 < a1) ∨ (v = 0 ∧ a1 = 1952541036) ∨ (v = -1 ∧ a1 < 1952541036)) (f_lcmp_c _ _) (fun r62 er62 br62 => ?_)
                refine Tr.if_eq (pc := 63) (tgt := 82) d_X12_isOwn_63 rfl (fun c63 => ?_) (fun c63 => ?_)
                · refine Tr.iconst (pc := 82) d_X12_isOwn_82 (by decide) ?_
                  exact Tr.zret (pc := 83) d_X12_isOwn_83 rfl (by omega) ⟨hS, _, rfl, by omega, by omega⟩
                · refine Tr.lload_n (pc := 66) (i := 1) d_X12_isOwn_66 rfl rfl ?_
                  refine Tr.ldc2 (pc := 67) d_X12_isOwn_67 kl_12_415 (by decide) ?_
                  refine Tr.lcmp (pc := 70) d_X12_isOwn_70 ?_
                  refine Tr.gen (P := fun v => (v = 1 ∧ 452824429940 < a1) ∨ (v = 0 ∧ a1 = 452824429940) ∨ (v = -1 ∧ a1 < 452824429940)) (f_lcmp_c _ _) (fun r70 er70 br70 => ?_)
                  refine Tr.if_eq (pc := 71) (tgt := 82) d_X12_isOwn_71 rfl (fun c71 => ?_) (fun c71 => ?_)
                  · refine Tr.iconst (pc := 82) d_X12_isOwn_82 (by decide) ?_
                    exact Tr.zret (pc := 83) d_X12_isOwn_83 rfl (by omega) ⟨hS, _, rfl, by omega, by omega⟩
                  · refine Tr.lload_n (pc := 74) (i := 1) d_X12_isOwn_74 rfl rfl ?_
                    refine Tr.ldc2 (pc := 75) d_X12_isOwn_75 kl_12_417 (by decide) ?_
                    refine Tr.lcmp (pc := 78) d_X12_isOwn_78 ?_
                    refine Tr.gen (P := fun v => (v = 1 ∧ 7758194 < a1) ∨ (v = 0 ∧ a1 = 7758194) ∨ (v = -1 ∧ a1 < 7758194)) (f_lcmp_c _ _) (fun r78 er78 br78 => ?_)
                    refine Tr.if_ne (pc := 79) (tgt := 84) d_X12_isOwn_79 rfl (fun c79 => ?_) (fun c79 => ?_)
                    · refine Tr.lload_n (pc := 84) (i := 1) d_X12_isOwn_84 rfl rfl ?_
                      refine Tr.ldc2 (pc := 85) d_X12_isOwn_85 kl_12_419 (by decide) ?_
                      refine Tr.lcmp (pc := 88) d_X12_isOwn_88 ?_
                      refine Tr.gen (P := fun v => (v = 1 ∧ 7562612 < a1) ∨ (v = 0 ∧ a1 = 7562612) ∨ (v = -1 ∧ a1 < 7562612)) (f_lcmp_c _ _) (fun r88 er88 br88 => ?_)
                      refine Tr.if_eq (pc := 89) (tgt := 124) d_X12_isOwn_89 rfl (fun c89 => ?_) (fun c89 => ?_)
                      · refine Tr.iconst (pc := 124) d_X12_isOwn_124 (by decide) ?_
                        exact Tr.zret (pc := 125) d_X12_isOwn_125 rfl (by omega) ⟨hS, _, rfl, by omega, by omega⟩
                      · refine Tr.lload_n (pc := 92) (i := 1) d_X12_isOwn_92 rfl rfl ?_
                        refine Tr.ldc2 (pc := 93) d_X12_isOwn_93 kl_12_421 (by decide) ?_
                        refine Tr.lcmp (pc := 96) d_X12_isOwn_96 ?_
                        refine Tr.gen (P := fun v => (v = 1 ∧ 7697253 < a1) ∨ (v = 0 ∧ a1 = 7697253) ∨ (v = -1 ∧ a1 < 7697253)) (f_lcmp_c _ _) (fun r96 er96 br96 => ?_)
                        refine Tr.if_eq (pc := 97) (tgt := 124) d_X12_isOwn_97 rfl (fun c97 => ?_) (fun c97 => ?_)
                        · refine Tr.iconst (pc := 124) d_X12_isOwn_124 (by decide) ?_
                          exact Tr.zret (pc := 125) d_X12_isOwn_125 rfl (by omega) ⟨hS, _, rfl, by omega, by omega⟩
                        · refine Tr.lload_n (pc := 100) (i := 1) d_X12_isOwn_100 rfl rfl ?_
                          refine Tr.ldc2 (pc := 101) d_X12_isOwn_101 kl_12_423 (by decide) ?_
                          refine Tr.lcmp (pc := 104) d_X12_isOwn_104 ?_
                          refine Tr.gen (P := fun v => (v = 1 ∧ 1752132708 < a1) ∨ (v = 0 ∧ a1 = 1752132708) ∨ (v = -1 ∧ a1 < 1752132708)) (f_lcmp_c _ _) (fun r104 er104 br104 => ?_)
                          refine Tr.if_eq (pc := 105) (tgt := 124) d_X12_isOwn_105 rfl (fun c105 => ?_) (fun c105 => ?_)
                          · refine Tr.iconst (pc := 124) d_X12_isOwn_124 (by decide) ?_
                            exact Tr.zret (pc := 125) d_X12_isOwn_125 rfl (by omega) ⟨hS, _, rfl, by omega, by omega⟩
                          · refine Tr.lload_n (pc := 108) (i := 1) d_X12_isOwn_108 rfl rfl ?_
                            refine Tr.ldc2 (pc := 109) d_X12_isOwn_109 kl_12_425 (by decide) ?_
                            refine Tr.lcmp (pc := 112) d_X12_isOwn_112 ?_
                            refine Tr.gen (P := fun v => (v = 1 ∧ 1718773093 < a1) ∨ (v = 0 ∧ a1 = 1718773093) ∨ (v = -1 ∧ a1 < 1718773093)) (f_lcmp_c _ _) (fun r112 er112 br112 => ?_)
                            refine Tr.if_eq (pc := 113) (tgt := 124) d_X12_isOwn_113 rfl (fun c113 => ?_) (fun c113 => ?_)
                            · refine Tr.iconst (pc := 124) d_X12_isOwn_124 (by decide) ?_
                              exact Tr.zret (pc := 125) d_X12_isOwn_125 rfl (by omega) ⟨hS, _, rfl, by omega, by omega⟩
                            · refine Tr.lload_n (pc := 116) (i := 1) d_X12_isOwn_116 rfl rfl ?_
                              refine Tr.ldc2 (pc := 117) d_X12_isOwn_117 kl_12_427 (by decide) ?_
                              refine Tr.lcmp (pc := 120) d_X12_isOwn_120 ?_
                              refine Tr.gen (P := fun v => (v = 1 ∧ 2002872692 < a1) ∨ (v = 0 ∧ a1 = 2002872692) ∨ (v = -1 ∧ a1 < 2002872692)) (f_lcmp_c _ _) (fun r120 er120 br120 => ?_)
                              refine Tr.if_ne (pc := 121) (tgt := 126) d_X12_isOwn_121 rfl (fun c121 => ?_) (fun c121 => ?_)
                              · refine Tr.lload_n (pc := 126) (i := 1) d_X12_isOwn_126 rfl rfl ?_
                                refine Tr.ldc2 (pc := 127) d_X12_isOwn_127 kl_12_429 (by decide) ?_
                                refine Tr.lcmp (pc := 130) d_X12_isOwn_130 ?_
                                refine Tr.gen (P := fun v => (v = 1 ∧ 500086170472 < a1) ∨ (v = 0 ∧ a1 = 500086170472) ∨ (v = -1 ∧ a1 < 500086170472)) (f_lcmp_c _ _) (fun r130 er130 br130 => ?_)
                                refine Tr.if_eq (pc := 131) (tgt := 166) d_X12_isOwn_131 rfl (fun c131 => ?_) (fun c131 => ?_)
                                · refine Tr.iconst (pc := 166) d_X12_isOwn_166 (by decide) ?_
                                  exact Tr.zret (pc := 167) d_X12_isOwn_167 rfl (by omega) ⟨hS, _, rfl, by omega, by omega⟩
                                · refine Tr.lload_n (pc := 134) (i := 1) d_X12_isOwn_134 rfl rfl ?_
                                  refine Tr.ldc2 (pc := 135) d_X12_isOwn_135 kl_12_431 (by decide) ?_
                                  refine Tr.lcmp (pc := 138) d_X12_isOwn_138 ?_
                                  refine Tr.gen (P := fun v => (v = 1 ∧ 26982 < a1) ∨ (v = 0 ∧ a1 = 26982) ∨ (v = -1 ∧ a1 < 26982)) (f_lcmp_c _ _) (fun r138 er138 br138 => ?_)
                                  refine Tr.if_eq (pc := 139) (tgt := 166) d_X12_isOwn_139 rfl (fun c139 => ?_) (fun c139 => ?_)
                                  · refine Tr.iconst (pc := 166) d_X12_isOwn_166 (by decide) ?_
                                    exact Tr.zret (pc := 167) d_X12_isOwn_167 rfl (by omega) ⟨hS, _, rfl, by omega, by omega⟩
                                  · refine Tr.lload_n (pc := 142) (i := 1) d_X12_isOwn_142 rfl rfl ?_
                                    refine Tr.ldc2 (pc := 143) d_X12_isOwn_143 kl_12_433 (by decide) ?_
                                    refine Tr.lcmp (pc := 146) d_X12_isOwn_146 ?_
                                    refine Tr.gen (P := fun v => (v = 1 ∧ 1701606245 < a1) ∨ (v = 0 ∧ a1 = 1701606245) ∨ (v = -1 ∧ a1 < 1701606245)) (f_lcmp_c _ _) (fun r146 er146 br146 => ?_)
                                    refine Tr.if_eq (pc := 147) (tgt := 166) d_X12_isOwn_147 rfl (fun c147 => ?_) (fun c147 => ?_)
                                    · refine Tr.iconst (pc := 166) d_X12_isOwn_166 (by decide) ?_
                                      exact Tr.zret (pc := 167) d_X12_isOwn_167 rfl (by omega) ⟨hS, _, rfl, by omega, by omega⟩
                                    · refine Tr.lload_n (pc := 150) (i := 1) d_X12_isOwn_150 rfl rfl ?_
                                      refine Tr.ldc2 (pc := 151) d_X12_isOwn_151 kl_12_435 (by decide) ?_
                                      refine Tr.lcmp (pc := 154) d_X12_isOwn_154 ?_
                                      refine Tr.gen (P := fun v => (v = 1 ∧ 512852847717 < a1) ∨ (v = 0 ∧ a1 = 512852847717) ∨ (v = -1 ∧ a1 < 512852847717)) (f_lcmp_c _ _) (fun r154 er154 br154 => ?_)
                                      refine Tr.if_eq (pc := 155) (tgt := 166) d_X12_isOwn_155 rfl (fun c155 => ?_) (fun c155 => ?_)
                                      · refine Tr.iconst (pc := 166) d_X12_isOwn_166 (by decide) ?_
                                        exact Tr.zret (pc := 167) d_X12_isOwn_167 rfl (by omega) ⟨hS, _, rfl, by omega, by omega⟩
                                      · refine Tr.lload_n (pc := 158) (i := 1) d_X12_isOwn_158 rfl rfl ?_
                                        refine Tr.ldc2 (pc := 159) d_X12_isOwn_159 kl_12_437 (by decide) ?_
                                        refine Tr.lcmp (pc := 162) d_X12_isOwn_162 ?_
                                        refine Tr.gen (P := fun v => (v = 1 ∧ 28530 < a1) ∨ (v = 0 ∧ a1 = 28530) ∨ (v = -1 ∧ a1 < 28530)) (f_lcmp_c _ _) (fun r162 er162 br162 => ?_)
                                        refine Tr.if_ne (pc := 163) (tgt := 168) d_X12_isOwn_163 rfl (fun c163 => ?_) (fun c163 => ?_)
                                        · refine Tr.lload_n (pc := 168) (i := 1) d_X12_isOwn_168 rfl rfl ?_
                                          refine Tr.ldc2 (pc := 169) d_X12_isOwn_169 kl_12_439 (by decide) ?_
                                          refine Tr.lcmp (pc := 172) d_X12_isOwn_172 ?_
                                          refine Tr.gen (P := fun v => (v = 1 ∧ 6385252 < a1) ∨ (v = 0 ∧ a1 = 6385252) ∨ (v = -1 ∧ a1 < 6385252)) (f_lcmp_c _ _) (fun r172 er172 br172 => ?_)
                                          refine Tr.if_eq (pc := 173) (tgt := 208) d_X12_isOwn_173 rfl (fun c173 => ?_) (fun c173 => ?_)
                                          · refine Tr.iconst (pc := 208) d_X12_isOwn_208 (by decide) ?_
                                            exact Tr.zret (pc := 209) d_X12_isOwn_209 rfl (by omega) ⟨hS, _, rfl, by omega, by omega⟩
                                          · refine Tr.lload_n (pc := 176) (i := 1) d_X12_isOwn_176 rfl rfl ?_
                                            refine Tr.ldc2 (pc := 177) d_X12_isOwn_177 kl_12_441 (by decide) ?_
                                            refine Tr.lcmp (pc := 180) d_X12_isOwn_180 ?_
                                            refine Tr.gen (P := fun v => (v = 1 ∧ 7237492 < a1) ∨ (v = 0 ∧ a1 = 7237492) ∨ (v = -1 ∧ a1 < 7237492)) (f_lcmp_c _ _) (fun r180 er180 br180 => ?_)
                                            refine Tr.if_eq (pc := 181) (tgt := 208) d_X12_isOwn_181 rfl (fun c181 => ?_) (fun c181 => ?_)
                                            · refine Tr.iconst (pc := 208) d_X12_isOwn_208 (by decide) ?_
                                              exact Tr.zret (pc := 209) d_X12_isOwn_209 rfl (by omega) ⟨hS, _, rfl, by omega, by omega⟩
                                            · refine Tr.lload_n (pc := 184) (i := 1) d_X12_isOwn_184 rfl rfl ?_
                                              refine Tr.ldc2 (pc := 185) d_X12_isOwn_185 kl_12_443 (by decide) ?_
                                              refine Tr.lcmp (pc := 188) d_X12_isOwn_188 ?_
                                              refine Tr.gen (P := fun v => (v = 1 ∧ 6384748 < a1) ∨ (v = 0 ∧ a1 = 6384748) ∨ (v = -1 ∧ a1 < 6384748)) (f_lcmp_c _ _) (fun r188 er188 br188 => ?_)
                                              refine Tr.if_eq (pc := 189) (tgt := 208) d_X12_isOwn_189 rfl (fun c189 => ?_) (fun c189 => ?_)
                                              · refine Tr.iconst (pc := 208) d_X12_isOwn_208 (by decide) ?_
                                                exact Tr.zret (pc := 209) d_X12_isOwn_209 rfl (by omega) ⟨hS, _, rfl, by omega, by omega⟩
                                              · refine Tr.lload_n (pc := 192) (i := 1) d_X12_isOwn_192 rfl rfl ?_
                                                refine Tr.ldc2 (pc := 193) d_X12_isOwn_193 kl_12_445 (by decide) ?_
                                                refine Tr.lcmp (pc := 196) d_X12_isOwn_196 ?_
                                                refine Tr.gen (P := fun v => (v = 1 ∧ 1751477348 < a1) ∨ (v = 0 ∧ a1 = 1751477348) ∨ (v = -1 ∧ a1 < 1751477348)) (f_lcmp_c _ _) (fun r196 er196 br196 => ?_)
                                                refine Tr.if_eq (pc := 197) (tgt := 208) d_X12_isOwn_197 rfl (fun c197 => ?_) (fun c197 => ?_)
                                                · refine Tr.iconst (pc := 208) d_X12_isOwn_208 (by decide) ?_
                                                  exact Tr.zret (pc := 209) d_X12_isOwn_209 rfl (by omega) ⟨hS, _, rfl, by omega, by omega⟩
                                                · refine Tr.lload_n (pc := 200) (i := 1) d_X12_isOwn_200 rfl rfl ?_
                                                  refine Tr.ldc2 (pc := 201) d_X12_isOwn_201 kl_12_447 (by decide) ?_
                                                  refine Tr.lcmp (pc := 204) d_X12_isOwn_204 ?_
                                                  refine Tr.gen (P := fun v => (v = 1 ∧ 1953063787 < a1) ∨ (v = 0 ∧ a1 = 1953063787) ∨ (v = -1 ∧ a1 < 1953063787)) (f_lcmp_c _ _) (fun r204 er204 br204 => ?_)
                                                  refine Tr.if_ne (pc := 205) (tgt := 210) d_X12_isOwn_205 rfl (fun c205 => ?_) (fun c205 => ?_)
                                                  · refine Tr.lload_n (pc := 210) (i := 1) d_X12_isOwn_210 rfl rfl ?_
                                                    refine Tr.ldc2 (pc := 211) d_X12_isOwn_211 kl_12_449 (by decide) ?_
                                                    refine Tr.lcmp (pc := 214) d_X12_isOwn_214 ?_
                                                    refine Tr.gen (P := fun v => (v = 1 ∧ 7170414 < a1) ∨ (v = 0 ∧ a1 = 7170414) ∨ (v = -1 ∧ a1 < 7170414)) (f_lcmp_c _ _) (fun r214 er214 br214 => ?_)
                                                    refine Tr.if_eq (pc := 215) (tgt := 226) d_X12_isOwn_215 rfl (fun c215 => ?_) (fun c215 => ?_)
                                                    · refine Tr.iconst (pc := 226) d_X12_isOwn_226 (by decide) ?_
                                                      exact Tr.zret (pc := 227) d_X12_isOwn_227 rfl (by omega) ⟨hS, _, rfl, by omega, by omega⟩
                                                    · refine Tr.lload_n (pc := 218) (i := 1) d_X12_isOwn_218 rfl rfl ?_
                                                      refine Tr.ldc2 (pc := 219) d_X12_isOwn_219 kl_12_451 (by decide) ?_
                                                      refine Tr.lcmp (pc := 222) d_X12_isOwn_222 ?_
                                                      refine Tr.gen (P := fun v => (v = 1 ∧ 7168376 < a1) ∨ (v = 0 ∧ a1 = 7168376) ∨ (v = -1 ∧ a1 < 7168376)) (f_lcmp_c _ _) (fun r222 er222 br222 => ?_)
                                                      refine Tr.if_ne (pc := 223) (tgt := 228) d_X12_isOwn_223 rfl (fun c223 => ?_) (fun c223 => ?_)
                                                      · refine Tr.iconst (pc := 228) d_X12_isOwn_228 (by decide) ?_
                                                        exact Tr.zret (pc := 229) d_X12_isOwn_229 rfl (by omega) ⟨hS, _, rfl, by omega, by omega⟩
                                                      · refine Tr.iconst (pc := 226) d_X12_isOwn_226 (by decide) ?_
                                                        exact Tr.zret (pc := 227) d_X12_isOwn_227 rfl (by omega) ⟨hS, _, rfl, by omega, by omega⟩
                                                  · refine Tr.iconst (pc := 208) d_X12_isOwn_208 (by decide) ?_
                                                    exact Tr.zret (pc := 209) d_X12_isOwn_209 rfl (by omega) ⟨hS, _, rfl, by omega, by omega⟩
                                        · refine Tr.iconst (pc := 166) d_X12_isOwn_166 (by decide) ?_
                                          exact Tr.zret (pc := 167) d_X12_isOwn_167 rfl (by omega) ⟨hS, _, rfl, by omega, by omega⟩
                              · refine Tr.iconst (pc := 124) d_X12_isOwn_124 (by decide) ?_
                                exact Tr.zret (pc := 125) d_X12_isOwn_125 rfl (by omega) ⟨hS, _, rfl, by omega, by omega⟩
                    · refine Tr.iconst (pc := 82) d_X12_isOwn_82 (by decide) ?_
                      exact Tr.zret (pc := 83) d_X12_isOwn_83 rfl (by omega) ⟨hS, _, rfl, by omega, by omega⟩
          · refine Tr.iconst (pc := 40) d_X12_isOwn_40 (by decide) ?_
            exact Tr.zret (pc := 41) d_X12_isOwn_41 rfl (by omega) ⟨hS, _, rfl, by omega, by omega⟩

def ws_X12_partOf_120 : List (Int × Int) := []
def as_X12_partOf_120 : List Int := []
def q_X12_partOf_120 (M0 M' : Mem) (r : Option PV) : Prop := St Tru ws_X12_partOf_120 as_X12_partOf_120 M0 M' ∧ ∃ v : Int, r = some (0, v) ∧ (-1) ≤ v ∧ v ≤ 5
set_option maxRecDepth 100000 in
set_option maxHeartbeats 4000000 in
theorem sp_X12_partOf_120 {l : Launch} {K : EC} {M0 : Mem} (hI : In Tru M0) (en_120_37 : rd M0 120 37 = 1) (a1 : Int) (ha1 : (-9223372036854775808) ≤ a1 ∧ a1 ≤ 9223372036854775807)  : Tr l K 0 mX12_partOf 0 [(0, (2, 120)), (1, (1, a1))] [] M0 (q_X12_partOf_120 M0) := by
  have hS : St Tru ws_X12_partOf_120 as_X12_partOf_120 M0 M0 := St.rf hI
  refine Tr.iconst (pc := 0) d_X12_partOf_0 (by decide) ?_
  refine Tr.istore_n (pc := 1) (i := 3) (ls2 := [(3, (0, 0)), (0, (2, 120)), (1, (1, a1))]) d_X12_partOf_1 rfl (by decide) rfl ?_
  have J2 : ∀ (n2 : Nat) (M : Mem) (p2_3 : Int), St Tru ws_X12_partOf_120 as_X12_partOf_120 M0 M → (0 ≤ p2_3 ∧ p2_3 ≤ 6) → (6 - p2_3).toNat < n2 → Tr l K 0 mX12_partOf 2 [(0, (2, 120)), (1, (1, a1)), (3, (0, p2_3))] [] M (q_X12_partOf_120 M0) := by
    intro n2
    induction n2 with
    | zero => intro M p2_3 hS bp2_3  hm2; exact absurd hm2 (Nat.not_lt_zero _)
    | succ n2 J2 =>
      intro M p2_3 hS bp2_3  hm2
      refine Tr.iload_n (pc := 2) (i := 3) d_X12_partOf_2 rfl rfl ?_
      refine Tr.aload_n (pc := 3) (i := 0) d_X12_partOf_3 rfl rfl ?_
      refine Tr.getf (pc := 4) d_X12_partOf_4 f_12_63 (by decide) (by decide) (ty_120 hS.1.1) ?_
      refine Tr.tp 126 (fx_120_17 hS.1.1) ?_
      refine Tr.aload_n (pc := 7) (i := 0) d_X12_partOf_7 rfl rfl ?_
      refine Tr.getf (pc := 8) d_X12_partOf_8 f_12_124 (by decide) (by decide) (ty_120 hS.1.1) ?_
      refine Tr.tp 1 ((St.kp hS (by decide) (by decide) (by decide)).trans en_120_37) ?_
      refine Tr.iald (pc := 11) d_X12_partOf_11 (ty_126 hS.1.1) (by omega) (by omega) ?_
      refine Tr.gen (P := fun v => 0 ≤ v ∧ v ≤ 6) (ir_126_1 hS.1.2.1) (fun r11 er11 br11 => ?_)
      refine Tr.icmp_ge (pc := 12) (tgt := 42) d_X12_partOf_12 rfl (fun c12 => ?_) (fun c12 => ?_)
      · refine Tr.iconst (pc := 42) d_X12_partOf_42 (by decide) ?_
        exact Tr.iret (pc := 43) d_X12_partOf_43 rfl ⟨hS, _, rfl, by omega, by omega⟩
      · refine Tr.aload_n (pc := 15) (i := 0) d_X12_partOf_15 rfl rfl ?_
        refine Tr.getf (pc := 16) d_X12_partOf_16 f_12_75 (by decide) (by decide) (ty_120 hS.1.1) ?_
        refine Tr.tp 130 (fx_120_21 hS.1.1) ?_
        refine Tr.bipush (pc := 19) d_X12_partOf_19 rfl (by decide) ?_
        refine Tr.aload_n (pc := 21) (i := 0) d_X12_partOf_21 rfl rfl ?_
        refine Tr.getf (pc := 22) d_X12_partOf_22 f_12_124 (by decide) (by decide) (ty_120 hS.1.1) ?_
        refine Tr.tp 1 ((St.kp hS (by decide) (by decide) (by decide)).trans en_120_37) ?_
        refine Tr.imul (pc := 25) d_X12_partOf_25 ?_
        refine Tr.tp 6 (by decide) ?_
        refine Tr.iload_n (pc := 26) (i := 3) d_X12_partOf_26 rfl rfl ?_
        refine Tr.iadd (pc := 27) d_X12_partOf_27 ?_
        refine Tr.tp (p2_3 + 6) ((w32_id (by omega)).trans (by omega)) ?_
        refine Tr.lald (pc := 28) d_X12_partOf_28 (ty_130 hS.1.1) (by omega) (by omega) ?_
        refine Tr.gen (P := fun v => (-9223372036854775808) ≤ v ∧ v ≤ 9223372036854775807) (ar_130 hS.1.2.1 _) (fun r28 er28 br28 => ?_)
        refine Tr.lload_n (pc := 29) (i := 1) d_X12_partOf_29 rfl rfl ?_
        refine Tr.lcmp (pc := 30) d_X12_partOf_30 ?_
        refine Tr.gen (P := fun v => (v = 1 ∧ a1 < r28) ∨ (v = 0 ∧ r28 = a1) ∨ (v = -1 ∧ r28 < a1)) (f_lcmp_c _ _) (fun r30 er30 br30 => ?_)
        refine Tr.if_ne (pc := 31) (tgt := 36) d_X12_partOf_31 rfl (fun c31 => ?_) (fun c31 => ?_)
        · refine Tr.iincV (pc := 36) (n2 := (p2_3 + 1)) (ls2 := [(3, (0, (p2_3 + 1))), (0, (2, 120)), (1, (1, a1))]) d_X12_partOf_36 rfl (by decide) ((w32_id (by omega)).trans (by omega)) rfl ?_
          refine Tr.goto (pc := 39) (tgt := 2) d_X12_partOf_39 rfl ?_
          refine Tr.pick [1, 2, 0] (ls2 := [(0, (2, 120)), (1, (1, a1)), (3, (0, (p2_3 + 1)))]) rfl ?_
          exact J2 _ _ hS (by omega) (by omega)
        · refine Tr.iload_n (pc := 34) (i := 3) d_X12_partOf_34 rfl rfl ?_
          exact Tr.iret (pc := 35) d_X12_partOf_35 rfl ⟨hS, _, rfl, by omega, by omega⟩
  refine Tr.pick [1, 2, 0] (ls2 := [(0, (2, 120)), (1, (1, a1)), (3, (0, 0))]) rfl ?_
  exact J2 _ _ _ hS (by omega) (Nat.lt_succ_self _)

def ws_X12_inputOf_120 : List (Int × Int) := []
def as_X12_inputOf_120 : List Int := []
def q_X12_inputOf_120 (M0 M' : Mem) (r : Option PV) : Prop := St Tru ws_X12_inputOf_120 as_X12_inputOf_120 M0 M' ∧ ∃ v : Int, r = some (0, v) ∧ (-1) ≤ v ∧ v ≤ 2
set_option maxRecDepth 100000 in
set_option maxHeartbeats 4000000 in
theorem sp_X12_inputOf_120 {l : Launch} {K : EC} {M0 : Mem} (hI : In Tru M0) (en_120_37 : rd M0 120 37 = 1) (a1 : Int) (ha1 : (-9223372036854775808) ≤ a1 ∧ a1 ≤ 9223372036854775807)  : Tr l K 0 mX12_inputOf 0 [(0, (2, 120)), (1, (1, a1))] [] M0 (q_X12_inputOf_120 M0) := by
  have hS : St Tru ws_X12_inputOf_120 as_X12_inputOf_120 M0 M0 := St.rf hI
  refine Tr.iconst (pc := 0) d_X12_inputOf_0 (by decide) ?_
  refine Tr.istore_n (pc := 1) (i := 3) (ls2 := [(3, (0, 0)), (0, (2, 120)), (1, (1, a1))]) d_X12_inputOf_1 rfl (by decide) rfl ?_
  have J2 : ∀ (n2 : Nat) (M : Mem) (p2_3 : Int), St Tru ws_X12_inputOf_120 as_X12_inputOf_120 M0 M → (0 ≤ p2_3 ∧ p2_3 ≤ 3) → (3 - p2_3).toNat < n2 → Tr l K 0 mX12_inputOf 2 [(0, (2, 120)), (1, (1, a1)), (3, (0, p2_3))] [] M (q_X12_inputOf_120 M0) := by
    intro n2
    induction n2 with
    | zero => intro M p2_3 hS bp2_3  hm2; exact absurd hm2 (Nat.not_lt_zero _)
    | succ n2 J2 =>
      intro M p2_3 hS bp2_3  hm2
      refine Tr.iload_n (pc := 2) (i := 3) d_X12_inputOf_2 rfl rfl ?_
      refine Tr.aload_n (pc := 3) (i := 0) d_X12_inputOf_3 rfl rfl ?_
      refine Tr.getf (pc := 4) d_X12_inputOf_4 f_12_66 (by decide) (by decide) (ty_120 hS.1.1) ?_
      refine Tr.tp 127 (fx_120_18 hS.1.1) ?_
      refine Tr.aload_n (pc := 7) (i := 0) d_X12_inputOf_7 rfl rfl ?_
      refine Tr.getf (pc := 8) d_X12_inputOf_8 f_12_124 (by decide) (by decide) (ty_120 hS.1.1) ?_
      refine Tr.tp 1 ((St.kp hS (by decide) (by decide) (by decide)).trans en_120_37) ?_
      refine Tr.iald (pc := 11) d_X12_inputOf_11 (ty_127 hS.1.1) (by omega) (by omega) ?_
      refine Tr.gen (P := fun v => 0 ≤ v ∧ v ≤ 3) (ir_127_1 hS.1.2.1) (fun r11 er11 br11 => ?_)
      refine Tr.icmp_ge (pc := 12) (tgt := 41) d_X12_inputOf_12 rfl (fun c12 => ?_) (fun c12 => ?_)
      · refine Tr.iconst (pc := 41) d_X12_inputOf_41 (by decide) ?_
        exact Tr.iret (pc := 42) d_X12_inputOf_42 rfl ⟨hS, _, rfl, by omega, by omega⟩
      · refine Tr.aload_n (pc := 15) (i := 0) d_X12_inputOf_15 rfl rfl ?_
        refine Tr.getf (pc := 16) d_X12_inputOf_16 f_12_82 (by decide) (by decide) (ty_120 hS.1.1) ?_
        refine Tr.tp 132 (fx_120_23 hS.1.1) ?_
        refine Tr.iconst (pc := 19) d_X12_inputOf_19 (by decide) ?_
        refine Tr.aload_n (pc := 20) (i := 0) d_X12_inputOf_20 rfl rfl ?_
        refine Tr.getf (pc := 21) d_X12_inputOf_21 f_12_124 (by decide) (by decide) (ty_120 hS.1.1) ?_
        refine Tr.tp 1 ((St.kp hS (by decide) (by decide) (by decide)).trans en_120_37) ?_
        refine Tr.imul (pc := 24) d_X12_inputOf_24 ?_
        refine Tr.tp 3 (by decide) ?_
        refine Tr.iload_n (pc := 25) (i := 3) d_X12_inputOf_25 rfl rfl ?_
        refine Tr.iadd (pc := 26) d_X12_inputOf_26 ?_
        refine Tr.tp (p2_3 + 3) ((w32_id (by omega)).trans (by omega)) ?_
        refine Tr.lald (pc := 27) d_X12_inputOf_27 (ty_132 hS.1.1) (by omega) (by omega) ?_
        refine Tr.gen (P := fun v => (-9223372036854775808) ≤ v ∧ v ≤ 9223372036854775807) (ar_132 hS.1.2.1 _) (fun r27 er27 br27 => ?_)
        refine Tr.lload_n (pc := 28) (i := 1) d_X12_inputOf_28 rfl rfl ?_
        refine Tr.lcmp (pc := 29) d_X12_inputOf_29 ?_
        refine Tr.gen (P := fun v => (v = 1 ∧ a1 < r27) ∨ (v = 0 ∧ r27 = a1) ∨ (v = -1 ∧ r27 < a1)) (f_lcmp_c _ _) (fun r29 er29 br29 => ?_)
        refine Tr.if_ne (pc := 30) (tgt := 35) d_X12_inputOf_30 rfl (fun c30 => ?_) (fun c30 => ?_)
        · refine Tr.iincV (pc := 35) (n2 := (p2_3 + 1)) (ls2 := [(3, (0, (p2_3 + 1))), (0, (2, 120)), (1, (1, a1))]) d_X12_inputOf_35 rfl (by decide) ((w32_id (by omega)).trans (by omega)) rfl ?_
          refine Tr.goto (pc := 38) (tgt := 2) d_X12_inputOf_38 rfl ?_
          refine Tr.pick [1, 2, 0] (ls2 := [(0, (2, 120)), (1, (1, a1)), (3, (0, (p2_3 + 1)))]) rfl ?_
          exact J2 _ _ hS (by omega) (by omega)
        · refine Tr.iload_n (pc := 33) (i := 3) d_X12_inputOf_33 rfl rfl ?_
          exact Tr.iret (pc := 34) d_X12_inputOf_34 rfl ⟨hS, _, rfl, by omega, by omega⟩
  refine Tr.pick [1, 2, 0] (ls2 := [(0, (2, 120)), (1, (1, a1)), (3, (0, 0))]) rfl ?_
  exact J2 _ _ _ hS (by omega) (Nat.lt_succ_self _)

def ws_X12_varOf_120 : List (Int × Int) := []
def as_X12_varOf_120 : List Int := []
def q_X12_varOf_120 (M0 M' : Mem) (r : Option PV) : Prop := St Tru ws_X12_varOf_120 as_X12_varOf_120 M0 M' ∧ ∃ v : Int, r = some (0, v) ∧ (-1) ≤ v ∧ v ≤ 5
set_option maxRecDepth 100000 in
set_option maxHeartbeats 4000000 in
theorem sp_X12_varOf_120 {l : Launch} {K : EC} {M0 : Mem} (hI : In Tru M0) (en_120_37 : rd M0 120 37 = 1) (a1 : Int) (ha1 : (-9223372036854775808) ≤ a1 ∧ a1 ≤ 9223372036854775807)  : Tr l K 0 mX12_varOf 0 [(0, (2, 120)), (1, (1, a1))] [] M0 (q_X12_varOf_120 M0) := by
  have hS : St Tru ws_X12_varOf_120 as_X12_varOf_120 M0 M0 := St.rf hI
  refine Tr.iconst (pc := 0) d_X12_varOf_0 (by decide) ?_
  refine Tr.istore_n (pc := 1) (i := 3) (ls2 := [(3, (0, 0)), (0, (2, 120)), (1, (1, a1))]) d_X12_varOf_1 rfl (by decide) rfl ?_
  have J2 : ∀ (n2 : Nat) (M : Mem) (p2_3 : Int), St Tru ws_X12_varOf_120 as_X12_varOf_120 M0 M → (0 ≤ p2_3 ∧ p2_3 ≤ 6) → (6 - p2_3).toNat < n2 → Tr l K 0 mX12_varOf 2 [(0, (2, 120)), (1, (1, a1)), (3, (0, p2_3))] [] M (q_X12_varOf_120 M0) := by
    intro n2
    induction n2 with
    | zero => intro M p2_3 hS bp2_3  hm2; exact absurd hm2 (Nat.not_lt_zero _)
    | succ n2 J2 =>
      intro M p2_3 hS bp2_3  hm2
      refine Tr.iload_n (pc := 2) (i := 3) d_X12_varOf_2 rfl rfl ?_
      refine Tr.aload_n (pc := 3) (i := 0) d_X12_varOf_3 rfl rfl ?_
      refine Tr.getf (pc := 4) d_X12_varOf_4 f_12_69 (by decide) (by decide) (ty_120 hS.1.1) ?_
      refine Tr.tp 128 (fx_120_19 hS.1.1) ?_
      refine Tr.aload_n (pc := 7) (i := 0) d_X12_varOf_7 rfl rfl ?_
      refine Tr.getf (pc := 8) d_X12_varOf_8 f_12_124 (by decide) (by decide) (ty_120 hS.1.1) ?_
      refine Tr.tp 1 ((St.kp hS (by decide) (by decide) (by decide)).trans en_120_37) ?_
      refine Tr.iald (pc := 11) d_X12_varOf_11 (ty_128 hS.1.1) (by omega) (by omega) ?_
      refine Tr.gen (P := fun v => 0 ≤ v ∧ v ≤ 6) (ir_128_1 hS.1.2.1) (fun r11 er11 br11 => ?_)
      refine Tr.icmp_ge (pc := 12) (tgt := 42) d_X12_varOf_12 rfl (fun c12 => ?_) (fun c12 => ?_)
      · refine Tr.iconst (pc := 42) d_X12_varOf_42 (by decide) ?_
        exact Tr.iret (pc := 43) d_X12_varOf_43 rfl ⟨hS, _, rfl, by omega, by omega⟩
      · refine Tr.aload_n (pc := 15) (i := 0) d_X12_varOf_15 rfl rfl ?_
        refine Tr.getf (pc := 16) d_X12_varOf_16 f_12_91 (by decide) (by decide) (ty_120 hS.1.1) ?_
        refine Tr.tp 135 (fx_120_26 hS.1.1) ?_
        refine Tr.bipush (pc := 19) d_X12_varOf_19 rfl (by decide) ?_
        refine Tr.aload_n (pc := 21) (i := 0) d_X12_varOf_21 rfl rfl ?_
        refine Tr.getf (pc := 22) d_X12_varOf_22 f_12_124 (by decide) (by decide) (ty_120 hS.1.1) ?_
        refine Tr.tp 1 ((St.kp hS (by decide) (by decide) (by decide)).trans en_120_37) ?_
        refine Tr.imul (pc := 25) d_X12_varOf_25 ?_
        refine Tr.tp 6 (by decide) ?_
        refine Tr.iload_n (pc := 26) (i := 3) d_X12_varOf_26 rfl rfl ?_
        refine Tr.iadd (pc := 27) d_X12_varOf_27 ?_
        refine Tr.tp (p2_3 + 6) ((w32_id (by omega)).trans (by omega)) ?_
        refine Tr.lald (pc := 28) d_X12_varOf_28 (ty_135 hS.1.1) (by omega) (by omega) ?_
        refine Tr.gen (P := fun v => (-9223372036854775808) ≤ v ∧ v ≤ 9223372036854775807) (ar_135 hS.1.2.1 _) (fun r28 er28 br28 => ?_)
        refine Tr.lload_n (pc := 29) (i := 1) d_X12_varOf_29 rfl rfl ?_
        refine Tr.lcmp (pc := 30) d_X12_varOf_30 ?_
        refine Tr.gen (P := fun v => (v = 1 ∧ a1 < r28) ∨ (v = 0 ∧ r28 = a1) ∨ (v = -1 ∧ r28 < a1)) (f_lcmp_c _ _) (fun r30 er30 br30 => ?_)
        refine Tr.if_ne (pc := 31) (tgt := 36) d_X12_varOf_31 rfl (fun c31 => ?_) (fun c31 => ?_)
        · refine Tr.iincV (pc := 36) (n2 := (p2_3 + 1)) (ls2 := [(3, (0, (p2_3 + 1))), (0, (2, 120)), (1, (1, a1))]) d_X12_varOf_36 rfl (by decide) ((w32_id (by omega)).trans (by omega)) rfl ?_
          refine Tr.goto (pc := 39) (tgt := 2) d_X12_varOf_39 rfl ?_
          refine Tr.pick [1, 2, 0] (ls2 := [(0, (2, 120)), (1, (1, a1)), (3, (0, (p2_3 + 1)))]) rfl ?_
          exact J2 _ _ hS (by omega) (by omega)
        · refine Tr.iload_n (pc := 34) (i := 3) d_X12_varOf_34 rfl rfl ?_
          exact Tr.iret (pc := 35) d_X12_varOf_35 rfl ⟨hS, _, rfl, by omega, by omega⟩
  refine Tr.pick [1, 2, 0] (ls2 := [(0, (2, 120)), (1, (1, a1)), (3, (0, 0))]) rfl ?_
  exact J2 _ _ _ hS (by omega) (Nat.lt_succ_self _)

def ws_X12_isSign_120 : List (Int × Int) := []
def as_X12_isSign_120 : List Int := []
def q_X12_isSign_120 (a1 : Int) (M0 M' : Mem) (r : Option PV) : Prop := St Tru ws_X12_isSign_120 as_X12_isSign_120 M0 M' ∧ ∃ v : Int, r = some (0, v) ∧ 0 ≤ v ∧ v ≤ 1 ∧ ((v = 1 ∧ rd M' 120 3 = 3 ∧ rd M' 120 6 = a1) ∨ (v = 0 ∧ (rd M' 120 3 ≠ 3 ∨ rd M' 120 6 ≠ a1)))
set_option maxRecDepth 100000 in
set_option maxHeartbeats 4000000 in
theorem sp_X12_isSign_120 {l : Launch} {K : EC} {M0 : Mem} (hI : In Tru M0)  (a1 : Int) (ha1 : 0 ≤ a1 ∧ a1 ≤ 300)  : Tr l K 0 mX12_isSign 0 [(0, (2, 120)), (1, (0, a1))] [] M0 (q_X12_isSign_120 a1 M0) := by
  have hS : St Tru ws_X12_isSign_120 as_X12_isSign_120 M0 M0 := St.rf hI
  obtain ⟨g120_3, eg120_3⟩ : ∃ v, rd M0 120 3 = v := ⟨_, rfl⟩
  have bg120_3 : 0 ≤ g120_3 ∧ g120_3 ≤ 3 := by rw [← eg120_3]; exact ir_120_3 hI.2.1
  obtain ⟨g120_6, eg120_6⟩ : ∃ v, rd M0 120 6 = v := ⟨_, rfl⟩
  have bg120_6 : (-2147483648) ≤ g120_6 ∧ g120_6 ≤ 2147483647 := by rw [← eg120_6]; exact ir_120_6 hI.2.1
  refine Tr.aload_n (pc := 0) (i := 0) d_X12_isSign_0 rfl rfl ?_
  refine Tr.getf (pc := 1) d_X12_isSign_1 f_12_20 (by decide) (by decide) (ty_120 hS.1.1) ?_
  refine Tr.tp g120_3 eg120_3 ?_
  refine Tr.iconst (pc := 4) d_X12_isSign_4 (by decide) ?_
  refine Tr.icmp_ne (pc := 5) (tgt := 20) d_X12_isSign_5 rfl (fun c5 => ?_) (fun c5 => ?_)
  · refine Tr.iconst (pc := 20) d_X12_isSign_20 (by decide) ?_
    have kr_120_3 : rd M0 120 3 = g120_3 := eg120_3
    have kr_120_6 : rd M0 120 6 = g120_6 := eg120_6
    exact Tr.zret (pc := 21) d_X12_isSign_21 rfl (by omega) ⟨hS, _, rfl, by omega, by omega, by omega⟩
  · refine Tr.aload_n (pc := 8) (i := 0) d_X12_isSign_8 rfl rfl ?_
    refine Tr.getf (pc := 9) d_X12_isSign_9 f_12_29 (by decide) (by decide) (ty_120 hS.1.1) ?_
    refine Tr.tp g120_6 eg120_6 ?_
    refine Tr.iload_n (pc := 12) (i := 1) d_X12_isSign_12 rfl rfl ?_
    refine Tr.icmp_ne (pc := 13) (tgt := 20) d_X12_isSign_13 rfl (fun c13 => ?_) (fun c13 => ?_)
    · refine Tr.iconst (pc := 20) d_X12_isSign_20 (by decide) ?_
      have kr_120_3 : rd M0 120 3 = g120_3 := eg120_3
      have kr_120_6 : rd M0 120 6 = g120_6 := eg120_6
      exact Tr.zret (pc := 21) d_X12_isSign_21 rfl (by omega) ⟨hS, _, rfl, by omega, by omega, by omega⟩
    · refine Tr.iconst (pc := 16) d_X12_isSign_16 (by decide) ?_
      refine Tr.goto (pc := 17) (tgt := 21) d_X12_isSign_17 rfl ?_
      have kr_120_3 : rd M0 120 3 = g120_3 := eg120_3
      have kr_120_6 : rd M0 120 6 = g120_6 := eg120_6
      exact Tr.zret (pc := 21) d_X12_isSign_21 rfl (by omega) ⟨hS, _, rfl, by omega, by omega, by omega⟩

def ws_X12_isTest : List (Int × Int) := []
def as_X12_isTest : List Int := []
def q_X12_isTest (a0 : Int) (M0 M' : Mem) (r : Option PV) : Prop := St Tru ws_X12_isTest as_X12_isTest M0 M' ∧ ∃ v : Int, r = some (0, v) ∧ 0 ≤ v ∧ v ≤ 1 ∧ ((v = 1 ∧ (a0 = 1 ∨ a0 = 5)) ∨ (v = 0 ∧ a0 ≠ 1 ∧ a0 ≠ 5))
set_option maxRecDepth 100000 in
set_option maxHeartbeats 4000000 in
theorem sp_X12_isTest {l : Launch} {K : EC} {M0 : Mem} (hI : In Tru M0)  (a0 : Int) (ha0 : (-2147483648) ≤ a0 ∧ a0 ≤ 2147483647)  : Tr l K 0 mX12_isTest 0 [(0, (0, a0))] [] M0 (q_X12_isTest a0 M0) := by
  have hS : St Tru ws_X12_isTest as_X12_isTest M0 M0 := St.rf hI
  refine Tr.iload_n (pc := 0) (i := 0) d_X12_isTest_0 rfl rfl ?_
  refine Tr.iconst (pc := 1) d_X12_isTest_1 (by decide) ?_
  refine Tr.icmp_eq (pc := 2) (tgt := 10) d_X12_isTest_2 rfl (fun c2 => ?_) (fun c2 => ?_)
  · refine Tr.iconst (pc := 10) d_X12_isTest_10 (by decide) ?_
    refine Tr.goto (pc := 11) (tgt := 15) d_X12_isTest_11 rfl ?_
    exact Tr.zret (pc := 15) d_X12_isTest_15 rfl (by omega) ⟨hS, _, rfl, by omega, by omega, by omega⟩
  · refine Tr.iload_n (pc := 5) (i := 0) d_X12_isTest_5 rfl rfl ?_
    refine Tr.iconst (pc := 6) d_X12_isTest_6 (by decide) ?_
    refine Tr.icmp_ne (pc := 7) (tgt := 14) d_X12_isTest_7 rfl (fun c7 => ?_) (fun c7 => ?_)
    · refine Tr.iconst (pc := 14) d_X12_isTest_14 (by decide) ?_
      exact Tr.zret (pc := 15) d_X12_isTest_15 rfl (by omega) ⟨hS, _, rfl, by omega, by omega, by omega⟩
    · refine Tr.iconst (pc := 10) d_X12_isTest_10 (by decide) ?_
      refine Tr.goto (pc := 11) (tgt := 15) d_X12_isTest_11 rfl ?_
      exact Tr.zret (pc := 15) d_X12_isTest_15 rfl (by omega) ⟨hS, _, rfl, by omega, by omega, by omega⟩

def ws_X12_rank : List (Int × Int) := []
def as_X12_rank : List Int := []
def q_X12_rank (M0 M' : Mem) (r : Option PV) : Prop := St Tru ws_X12_rank as_X12_rank M0 M' ∧ ∃ v : Int, r = some (0, v) ∧ 1 ≤ v ∧ v ≤ 6
set_option maxRecDepth 100000 in
set_option maxHeartbeats 4000000 in
theorem sp_X12_rank {l : Launch} {K : EC} {M0 : Mem} (hI : In Tru M0)  (a0 : Int) (ha0 : 0 ≤ a0 ∧ a0 ≤ 20)  : Tr l K 0 mX12_rank 0 [(0, (0, a0))] [] M0 (q_X12_rank M0) := by
  have hS : St Tru ws_X12_rank as_X12_rank M0 M0 := St.rf hI
  refine Tr.iload_n (pc := 0) (i := 0) d_X12_rank_0 rfl rfl ?_
  refine Tr.bipush (pc := 1) d_X12_rank_1 rfl (by decide) ?_
  refine Tr.icmp_ne (pc := 3) (tgt := 10) d_X12_rank_3 rfl (fun c3 => ?_) (fun c3 => ?_)
  · refine Tr.iload_n (pc := 10) (i := 0) d_X12_rank_10 rfl rfl ?_
    refine Tr.bipush (pc := 11) d_X12_rank_11 rfl (by decide) ?_
    refine Tr.icmp_ne (pc := 13) (tgt := 20) d_X12_rank_13 rfl (fun c13 => ?_) (fun c13 => ?_)
    · refine Tr.iload_n (pc := 20) (i := 0) d_X12_rank_20 rfl rfl ?_
      refine Tr.bipush (pc := 21) d_X12_rank_21 rfl (by decide) ?_
      refine Tr.icmp_ne (pc := 23) (tgt := 30) d_X12_rank_23 rfl (fun c23 => ?_) (fun c23 => ?_)
      · refine Tr.iload_n (pc := 30) (i := 0) d_X12_rank_30 rfl rfl ?_
        refine Tr.bipush (pc := 31) d_X12_rank_31 rfl (by decide) ?_
        refine Tr.icmp_eq (pc := 33) (tgt := 48) d_X12_rank_33 rfl (fun c33 => ?_) (fun c33 => ?_)
        · refine Tr.iconst (pc := 48) d_X12_rank_48 (by decide) ?_
          refine Tr.goto (pc := 49) (tgt := 70) d_X12_rank_49 rfl ?_
          exact Tr.iret (pc := 70) d_X12_rank_70 rfl ⟨hS, _, rfl, by omega, by omega⟩
        · refine Tr.iload_n (pc := 36) (i := 0) d_X12_rank_36 rfl rfl ?_
          refine Tr.bipush (pc := 37) d_X12_rank_37 rfl (by decide) ?_
          refine Tr.icmp_eq (pc := 39) (tgt := 48) d_X12_rank_39 rfl (fun c39 => ?_) (fun c39 => ?_)
          · refine Tr.iconst (pc := 48) d_X12_rank_48 (by decide) ?_
            refine Tr.goto (pc := 49) (tgt := 70) d_X12_rank_49 rfl ?_
            exact Tr.iret (pc := 70) d_X12_rank_70 rfl ⟨hS, _, rfl, by omega, by omega⟩
          · refine Tr.iload_n (pc := 42) (i := 0) d_X12_rank_42 rfl rfl ?_
            refine Tr.bipush (pc := 43) d_X12_rank_43 rfl (by decide) ?_
            refine Tr.icmp_ne (pc := 45) (tgt := 52) d_X12_rank_45 rfl (fun c45 => ?_) (fun c45 => ?_)
            · refine Tr.iload_n (pc := 52) (i := 0) d_X12_rank_52 rfl rfl ?_
              refine Tr.bipush (pc := 53) d_X12_rank_53 rfl (by decide) ?_
              refine Tr.icmp_eq (pc := 55) (tgt := 64) d_X12_rank_55 rfl (fun c55 => ?_) (fun c55 => ?_)
              · refine Tr.iconst (pc := 64) d_X12_rank_64 (by decide) ?_
                refine Tr.goto (pc := 65) (tgt := 70) d_X12_rank_65 rfl ?_
                exact Tr.iret (pc := 70) d_X12_rank_70 rfl ⟨hS, _, rfl, by omega, by omega⟩
              · refine Tr.iload_n (pc := 58) (i := 0) d_X12_rank_58 rfl rfl ?_
                refine Tr.bipush (pc := 59) d_X12_rank_59 rfl (by decide) ?_
                refine Tr.icmp_ne (pc := 61) (tgt := 68) d_X12_rank_61 rfl (fun c61 => ?_) (fun c61 => ?_)
                · refine Tr.bipush (pc := 68) d_X12_rank_68 rfl (by decide) ?_
                  exact Tr.iret (pc := 70) d_X12_rank_70 rfl ⟨hS, _, rfl, by omega, by omega⟩
                · refine Tr.iconst (pc := 64) d_X12_rank_64 (by decide) ?_
                  refine Tr.goto (pc := 65) (tgt := 70) d_X12_rank_65 rfl ?_
                  exact Tr.iret (pc := 70) d_X12_rank_70 rfl ⟨hS, _, rfl, by omega, by omega⟩
            · refine Tr.iconst (pc := 48) d_X12_rank_48 (by decide) ?_
              refine Tr.goto (pc := 49) (tgt := 70) d_X12_rank_49 rfl ?_
              exact Tr.iret (pc := 70) d_X12_rank_70 rfl ⟨hS, _, rfl, by omega, by omega⟩
      · refine Tr.iconst (pc := 26) d_X12_rank_26 (by decide) ?_
        refine Tr.goto (pc := 27) (tgt := 70) d_X12_rank_27 rfl ?_
        exact Tr.iret (pc := 70) d_X12_rank_70 rfl ⟨hS, _, rfl, by omega, by omega⟩
    · refine Tr.iconst (pc := 16) d_X12_rank_16 (by decide) ?_
      refine Tr.goto (pc := 17) (tgt := 70) d_X12_rank_17 rfl ?_
      exact Tr.iret (pc := 70) d_X12_rank_70 rfl ⟨hS, _, rfl, by omega, by omega⟩
  · refine Tr.iconst (pc := 6) d_X12_rank_6 (by decide) ?_
    refine Tr.goto (pc := 7) (tgt := 70) d_X12_rank_7 rfl ?_
    exact Tr.iret (pc := 70) d_X12_rank_70 rfl ⟨hS, _, rfl, by omega, by omega⟩
end
/-! 37.hide -/
section
/-! disjunctions are laid aside; how far the reading is -/
def Hd (p : Prop) : Prop := p
theorem hd_i {p : Prop} (h : p) : Hd p := h
theorem hd_o {p : Prop} (h : Hd p) : p := h
theorem ne_o {a b : Int} (h : a ≠ b) : a < b ∨ b < a := by omega
theorem ct_out {x j e a b n i v : Int} {M M2 : Mem} (w : Wr M x i v M2) (hx : x ≠ 120) (h : rd M 120 j = n) (hi : n ≤ i) : ctV x j e a b M2 = ctV x j e a b M := by
  unfold ctV
  rw [show rd M2 120 j = rd M 120 j from w.2 _ _ (fun c => hx c.1.symm)]
  exact ctN_cg fun k k0 k1 => by rw [show rd M2 x k = rd M x k from w.2 _ _ (fun c => by have := c.2; omega)]
def nbf (v : Int) : Int := if v = 18 then 0 else if v ≤ 5 then 2000 else 1
theorem nbf_c (v : Int) : (v = 18 ∧ nbf v = 0) ∨ (v ≤ 5 ∧ nbf v = 2000) ∨ (5 < v ∧ v ≠ 18 ∧ nbf v = 1) := by
  unfold nbf
  split
  · omega
  · split <;> omega
/-- the OPS that wait: 18 counts 0, the others 1 (what can't wait counts too much) -/
def nb2v (M : Mem) : Int := ctN (fun i => nbf (rd M 150 i)) (rd M 120 46).toNat
theorem nb2v_of {M M2 : Mem} (h0 : ∀ i : Int, rd M2 150 i = rd M 150 i) (h1 : rd M2 120 46 = rd M 120 46) : nb2v M2 = nb2v M := by
  unfold nb2v
  rw [h1]
  exact ctN_cg fun i _ _ => by rw [h0]
theorem ctN_k {f : Int → Int} (h : ∀ i : Int, 0 ≤ f i ∧ f i ≤ 2000) (n : Nat) : 0 ≤ ctN f n ∧ ctN f n ≤ 2000 * n := by
  induction n with
  | zero => exact ⟨Int.le_refl 0, Int.le_refl 0⟩
  | succ n ih =>
    have := h n
    rw [ctN]
    omega
theorem nb2v_b {M : Mem} (h : Iv M) : 0 ≤ nb2v M ∧ nb2v M ≤ 1000000 := by
  have h1 := ctN_k (f := fun i => nbf (rd M 150 i)) (fun i => by have := nbf_c (rd M 150 i); omega) (rd M 120 46).toNat
  have h2 := ir_120_46 h
  exact ⟨h1.1, Int.le_trans h1.2 (by omega)⟩
theorem nb2_push {n v : Int} {M M2 : Mem} (h : rd M 120 46 = n) (h2 : rd M2 120 46 = n + 1) (hv : rd M2 150 n = v) (ho : ∀ i : Int, i ≠ n → rd M2 150 i = rd M 150 i) (hn : 0 ≤ n) : (v = 18 ∧ nb2v M2 = nb2v M) ∨ (v ≤ 5 ∧ nb2v M2 = nb2v M + 2000) ∨ (5 < v ∧ v ≠ 18 ∧ nb2v M2 = nb2v M + 1) := by
  obtain ⟨k, rfl⟩ : ∃ k : Nat, n = k := ⟨n.toNat, by omega⟩
  have e1 : nb2v M2 = nb2v M + nbf v := by
    unfold nb2v
    rw [h, h2, show ((k : Int) + 1).toNat = k + 1 by omega, ctN, hv, Int.toNat_natCast]
    congr 1
    exact ctN_cg fun i _ i1 => by rw [ho i (by omega)]
  have h3 := nbf_c v
  omega
theorem nb2_pop {n : Int} {M M2 : Mem} (h : rd M 120 46 = n) (h2 : rd M2 120 46 = n - 1) (ho : ∀ i : Int, rd M2 150 i = rd M 150 i) (hn : 1 ≤ n) : (rd M2 150 (n - 1) = 18 ∧ nb2v M = nb2v M2) ∨ (rd M2 150 (n - 1) ≤ 5 ∧ nb2v M = nb2v M2 + 2000) ∨ (5 < rd M2 150 (n - 1) ∧ rd M2 150 (n - 1) ≠ 18 ∧ nb2v M = nb2v M2 + 1) :=
  nb2_push (M := M2) (M2 := M) h2 (by rw [h]; omega) (ho _).symm (fun i _ => (ho i).symm) (by omega)
theorem nb2_zero {M : Mem} (h : rd M 120 46 = 0) : nb2v M = 0 := by
  unfold nb2v
  rw [h]
  rfl
theorem me_lt {a b : Int} {n : Nat} (h : b.toNat < n + 1) (h1 : a < b) (h2 : 0 < b) : a.toNat < n := by omega
def tav (M : Mem) : Int := 2 * rd M 120 5 - (if rd M 120 3 = 0 then 0 else 1)
theorem tav_of {M M2 : Mem} (h0 : rd M2 120 5 = rd M 120 5) (h1 : rd M2 120 3 = rd M 120 3) : tav M2 = tav M := by unfold tav; rw [h0, h1]
theorem tav_b {M : Mem} (h : Iv M) : -1 ≤ tav M ∧ tav M ≤ 1800 := by
  have h1 := ir_120_5 h
  unfold tav
  split <;> omega
theorem tav_c {M : Mem} {a b : Int} (h0 : rd M 120 5 = a) (h1 : rd M 120 3 = b) : (b = 0 ∧ tav M = 2 * a) ∨ (b ≠ 0 ∧ tav M = 2 * a - 1) := by
  unfold tav
  rw [h0, h1]
  by_cases c : b = 0
  · rw [if_pos c]; exact Or.inl ⟨c, by omega⟩
  · rw [if_neg c]; exact Or.inr ⟨c, rfl⟩

/-! asks put together: how many ways are still to come -/
def shv (M : Mem) : Int := 7776 * (rd M 187 0 - rd M 189 0) + 1296 * (rd M 187 1 - rd M 189 1) + 216 * (rd M 187 2 - rd M 189 2) + 36 * (rd M 187 3 - rd M 189 3) + 6 * (rd M 187 4 - rd M 189 4) + (rd M 187 5 - rd M 189 5)
theorem shv_of {M M2 : Mem} (h0 : ∀ i : Int, rd M2 187 i = rd M 187 i) (h1 : ∀ i : Int, rd M2 189 i = rd M 189 i) : shv M2 = shv M := by unfold shv; simp only [h0, h1]
theorem shv_b {M : Mem} (h : Iv M) : -46655 ≤ shv M ∧ shv M ≤ 46655 := by
  have a0 := ar_187 h 0
  have a1 := ar_187 h 1
  have a2 := ar_187 h 2
  have a3 := ar_187 h 3
  have a4 := ar_187 h 4
  have a5 := ar_187 h 5
  have b0 := ar_189 h 0
  have b1 := ar_189 h 1
  have b2 := ar_189 h 2
  have b3 := ar_189 h 3
  have b4 := ar_189 h 4
  have b5 := ar_189 h 5
  unfold shv
  omega
theorem shv_w {M M2 : Mem} {i v r : Int} (w : Wr M 189 i v M2) (hr : rd M 189 i = r) (i0 : 0 ≤ i) (i1 : i < 6) : (i = 0 ∧ shv M2 = shv M + 7776 * r - 7776 * v) ∨ (i = 1 ∧ shv M2 = shv M + 1296 * r - 1296 * v) ∨ (i = 2 ∧ shv M2 = shv M + 216 * r - 216 * v) ∨ (i = 3 ∧ shv M2 = shv M + 36 * r - 36 * v) ∨ (i = 4 ∧ shv M2 = shv M + 6 * r - 6 * v) ∨ (i = 5 ∧ shv M2 = shv M + r - v) := by
  have a : ∀ j : Int, rd M2 187 j = rd M 187 j := fun j => w.2 _ _ (fun c => absurd c.1 (by decide))
  have b : ∀ j : Int, j ≠ i → rd M2 189 j = rd M 189 j := fun j h => w.2 _ _ (fun c => h c.2)
  have c := w.1
  subst hr
  have hi : i = 0 ∨ i = 1 ∨ i = 2 ∨ i = 3 ∨ i = 4 ∨ i = 5 := by omega
  unfold shv
  simp only [a]
  rcases hi with rfl | rfl | rfl | rfl | rfl | rfl
  · rw [b 1 (by decide), b 2 (by decide), b 3 (by decide), b 4 (by decide), b 5 (by decide), c]; omega
  · rw [b 0 (by decide), b 2 (by decide), b 3 (by decide), b 4 (by decide), b 5 (by decide), c]; omega
  · rw [b 0 (by decide), b 1 (by decide), b 3 (by decide), b 4 (by decide), b 5 (by decide), c]; omega
  · rw [b 0 (by decide), b 1 (by decide), b 2 (by decide), b 4 (by decide), b 5 (by decide), c]; omega
  · rw [b 0 (by decide), b 1 (by decide), b 2 (by decide), b 3 (by decide), b 5 (by decide), c]; omega
  · rw [b 0 (by decide), b 1 (by decide), b 2 (by decide), b 3 (by decide), b 4 (by decide), c]; omega
def Sg (M : Mem) : Prop := ∀ k : Int, 0 ≤ k → k < 6 → rd M 189 k ≤ rd M 187 k
theorem Sg.fr {M M2 : Mem} (h : Sg M) (h0 : ∀ i : Int, rd M2 187 i = rd M 187 i) (h1 : ∀ i : Int, rd M2 189 i = rd M 189 i) : Sg M2 := fun k k0 k1 => by rw [h0, h1]; exact h k k0 k1
theorem Sg.wr {M M2 : Mem} {i v : Int} (h : Sg M) (w : Wr M 189 i v M2) (hv : v ≤ rd M 187 i) : Sg M2 := fun k k0 k1 => by
  rw [show rd M2 187 k = rd M 187 k from w.2 _ _ (fun c => absurd c.1 (by decide))]
  by_cases c : k = i
  · rw [c, w.1]; exact hv
  · rw [w.2 _ _ (fun d => c d.2)]; exact h k k0 k1
def Sz (M : Mem) (n : Int) : Prop := ∀ k : Int, 0 ≤ k → k < n → rd M 189 k = 0
theorem Sz.g {M : Mem} {n : Int} (h : Sz M n) (hV : Iv M) (hn : 6 ≤ n) : Sg M := fun k k0 k1 => by
  rw [h k k0 (by omega)]
  exact (ar_187 hV k).1
theorem Sz.wr {M M2 : Mem} {n : Int} (h : Sz M n) (w : Wr M 189 n 0 M2) : Sz M2 (n + 1) := fun k k0 k1 => by
  by_cases c : k = n
  · rw [c, w.1]
  · rw [w.2 _ _ (fun d => c d.2)]; exact h k k0 (by omega)

/-! never: how many bits came -/
theorem popN_or (k : Nat) : ∀ n m : Nat, n < 2 ^ k → m < 2 ^ k → popN k n ≤ popN k (n ||| m) ∧ (n ||| m ≠ n → popN k n < popN k (n ||| m)) := by
  induction k with
  | zero =>
    intro n m h1 h2
    have e1 : n = 0 := by omega
    have e2 : m = 0 := by omega
    subst e1
    subst e2
    exact ⟨Nat.le_refl _, fun c => absurd (Nat.or_zero 0) c⟩
  | succ k ih =>
    intro n m h1 h2
    have h := ih (n / 2) (m / 2) (by rw [Nat.pow_succ] at h1; omega) (by rw [Nat.pow_succ] at h2; omega)
    have e1 : (n ||| m) / 2 = n / 2 ||| m / 2 := Nat.or_div_two
    have e2 : (n ||| m) % 2 = 1 ↔ n % 2 = 1 ∨ m % 2 = 1 := Nat.or_mod_two_eq_one
    show n % 2 + popN k (n / 2) ≤ (n ||| m) % 2 + popN k ((n ||| m) / 2) ∧ (n ||| m ≠ n → n % 2 + popN k (n / 2) < (n ||| m) % 2 + popN k ((n ||| m) / 2))
    obtain ⟨q, hq⟩ : ∃ q, n ||| m = q := ⟨_, rfl⟩
    rw [hq] at e1 e2 ⊢
    rw [← e1] at h
    refine ⟨by omega, fun c => ?_⟩
    by_cases d : q / 2 = n / 2
    · rw [d]; omega
    · have := h.2 d; omega
theorem u64_lor (a b : Int) : u64 (f_lor a b) = u64 a ||| u64 b := by
  rw [← i64_nat, ← i64_nat, ← i64_nat]
  unfold f_lor
  rw [Int64.ofInt_toInt, Int64.toBitVec_or, BitVec.toNat_or]
theorem pop_lor {a b : Int} (h : -9223372036854775808 ≤ a ∧ a ≤ 9223372036854775807) : pop a ≤ pop (f_lor a b) ∧ (f_lor a b = a ∨ pop a < pop (f_lor a b)) := by
  have h1 := popN_or 64 (u64 a) (u64 b) (u64_lt a) (u64_lt b)
  rw [← u64_lor] at h1
  refine ⟨h1.1, ?_⟩
  by_cases c : u64 (f_lor a b) = u64 a
  · refine Or.inl ?_
    have h2 : -9223372036854775808 ≤ f_lor a b ∧ f_lor a b ≤ 9223372036854775807 := i64_b _
    unfold u64 at c
    omega
  · exact Or.inr (h1.2 c)
theorem ctN_set {f g : Int → Int} {i : Int} {n : Nat} (h : ∀ j : Int, j ≠ i → g j = f j) (i0 : 0 ≤ i) (i1 : i < n) : ctN g n = ctN f n + g i - f i := by
  induction n with
  | zero => omega
  | succ n ih =>
    rw [ctN, ctN]
    by_cases c : i = n
    · rw [ctN_cg (g := f) (n := n) (fun j j0 j1 => h j (by omega)), c]
      omega
    · rw [ih (by omega), h n (fun d => c d.symm)]
      omega
theorem ctN_u {f : Int → Int} {c : Int} (h : ∀ i : Int, 0 ≤ f i ∧ f i ≤ c) (n : Nat) : 0 ≤ ctN f n ∧ ctN f n ≤ c * n := by
  induction n with
  | zero => exact ⟨Int.le_refl 0, by rw [ctN]; omega⟩
  | succ n ih =>
    have h1 := h n
    have h2 : c * ((n + 1 : Nat) : Int) = c * (n : Int) + c := by rw [Int.natCast_add, Int.mul_add]; omega
    rw [ctN]
    omega
def cmv (M : Mem) : Int := ctN (fun k => (pop (rd M 190 k) : Int)) 201
theorem cmv_of {M M2 : Mem} (h : ∀ i : Int, rd M2 190 i = rd M 190 i) : cmv M2 = cmv M := ctN_cg fun i _ _ => by rw [h]
theorem cmv_b {M : Mem} (_ : Iv M) : 0 ≤ cmv M ∧ cmv M ≤ 12864 := by
  have h := ctN_u (f := fun k => (pop (rd M 190 k) : Int)) (c := 64) (fun i => by have := pop_le (rd M 190 i); omega) 201
  unfold cmv
  omega
theorem cm_w {M M2 : Mem} {i v : Int} (w : Wr M 190 i v M2) (i0 : 0 ≤ i) (i1 : i < 201) : cmv M2 = cmv M + pop v - pop (rd M 190 i) := by
  unfold cmv
  rw [ctN_set (f := fun k => (pop (rd M 190 k) : Int)) (g := fun k => (pop (rd M2 190 k) : Int)) (i := i) (fun j hj => by rw [w.2 _ _ (fun c => hj c.2)]) i0 i1, w.1]
def Nv (M : Mem) (i j v : Int) : Prop := f_lor (rd M 190 i) v ≠ rd M 190 i ∨ f_lor (rd M 190 j) v ≠ rd M 190 j
theorem cm_two {M M1 M2 : Mem} {i j v a b q p : Int} (h : q = 0 ∨ p ≠ 0 ∨ Nv M i j v) (w1 : Wr M 190 i a M1) (w2 : Wr M1 190 j b M2) (ha : f_lor (rd M 190 i) v = a) (hb : f_lor (rd M1 190 j) v = b) (V : Iv M) (V1 : Iv M1) (i0 : 0 ≤ i) (i1 : i < 201) (j0 : 0 ≤ j) (j1 : j < 201) : cmv M ≤ cmv M2 ∧ (q = 0 ∨ p ≠ 0 ∨ cmv M < cmv M2) := by
  have p1 := pop_lor (a := rd M 190 i) (b := v) (ar_190 V i)
  have p2 := pop_lor (a := rd M1 190 j) (b := v) (ar_190 V1 j)
  have e1 := cm_w w1 i0 i1
  have e2 := cm_w w2 j0 j1
  rw [ha] at p1
  rw [hb] at p2
  refine ⟨by omega, ?_⟩
  rcases h with h | h | h
  · exact Or.inl h
  · exact Or.inr (Or.inl h)
  refine Or.inr (Or.inr ?_)
  have n1 : a ≠ rd M 190 i ∨ b ≠ rd M1 190 j := by
    by_cases c : a = rd M 190 i
    · refine Or.inr ?_
      have e3 : rd M1 190 j = rd M 190 j := by
        by_cases d : j = i
        · rw [d, w1.1]; exact c
        · exact w1.2 _ _ (fun z => d z.2)
      rcases h with h | h
      · exact absurd (ha.trans c) h
      · rw [← hb, e3]; exact h
    · exact Or.inl c
  rcases n1 with c | c
  · have := p1.2.resolve_left c
    omega
  · have := p2.2.resolve_left c
    omega

/-! byTurns: the LINES of a STRETCH, one by one -/
def tpS (b l : Int) : Int := popN 64 (u64 b / 2 ^ l.toNat)
theorem tpS_0 (b : Int) : tpS b 0 = pop b := by
  unfold tpS pop
  rw [show (0 : Int).toNat = 0 from rfl, Nat.pow_zero, Nat.div_one]
theorem popN_64 (n : Nat) (h : n < 18446744073709551616) : popN 64 n = n % 2 + popN 64 (n / 2) := by
  rw [← popN_ext 64 n (by omega)]
  rfl
theorem tpS_s (b : Int) {l : Int} (h : 0 ≤ l) : tpS b l = ((u64 b / 2 ^ l.toNat % 2 : Nat) : Int) + tpS b (l + 1) ∧ 0 ≤ tpS b (l + 1) := by
  unfold tpS
  rw [show (l + 1).toNat = l.toNat + 1 by omega, Nat.pow_succ, ← Nat.div_div_eq_div_mul, popN_64 (u64 b / 2 ^ l.toNat) (Nat.lt_of_le_of_lt (Nat.div_le_self _ _) (u64_lt b))]
  omega
theorem sshr_k (a : Int) {s : Int} (s0 : 0 ≤ s) (s1 : s < 64) : (f_lshr a s) % 2 = ((u64 a / 2 ^ s.toNat % 2 : Nat) : Int) := by
  obtain ⟨k, rfl⟩ : ∃ k : Nat, s = k := ⟨s.toNat, by omega⟩
  have hk : k < 64 := by omega
  have hs : (((Int32.ofInt (k : Int)).toInt64 &&& 63).toBitVec.smod 64).toNat = k := by
    have : ∀ k : Fin 64, (((Int32.ofInt ((k.val : Nat) : Int)).toInt64 &&& 63).toBitVec.smod 64).toNat = k.val := by decide +kernel
    exact this ⟨k, hk⟩
  obtain ⟨x, hx⟩ : ∃ x : BitVec 64, (Int64.ofInt a).toBitVec = x := ⟨_, rfl⟩
  have hu : u64 a = x.toNat := by rw [← hx, i64_nat]
  have e1 : f_lshr a k = (x.sshiftRight k).toInt := by
    unfold f_lshr
    show BitVec.toInt _ = _
    rw [Int64.toBitVec_shiftRight, hx]
    show (x.sshiftRight (BitVec.toNat _)).toInt = _
    rw [hs]
  obtain ⟨c, hc⟩ : ∃ c : Nat, (2 : Nat) ^ 64 = 2 ^ k * (2 * c) := ⟨2 ^ (63 - k), by
    rw [← Nat.pow_succ', ← Nat.pow_add]
    congr 1
    omega⟩
  have hp : 0 < 2 ^ k := Nat.two_pow_pos k
  rw [e1, hu, Int.toNat_natCast, BitVec.toInt_sshiftRight, Int.shiftRight_eq_div_pow, BitVec.toInt_eq_toNat_cond]
  obtain ⟨y, hy⟩ : ∃ y, x.toNat = y := ⟨_, rfl⟩
  rw [hy]
  have e2 : ((y / 2 ^ k % 2 : Nat) : Int) = (y : Int) / ((2 ^ k : Nat) : Int) % 2 := by
    rw [Int.natCast_emod, Int.natCast_ediv]
    rfl
  rw [e2]
  split
  · rfl
  · have e3 : (y : Int) - ((2 ^ 64 : Nat) : Int) = (y : Int) + ((2 ^ k : Nat) : Int) * (-(2 * (c : Int))) := by
      rw [hc, Int.natCast_mul, Int.natCast_mul, Int.mul_neg]
      rfl
    rw [e3, Int.add_mul_ediv_left _ _ (by omega)]
    omega
theorem tpS_l {b l r : Int} (h : f_lshr b l = r) (l0 : 0 ≤ l) (l1 : l < 64) : (0 ≤ f_land r 1 ∧ f_land r 1 ≤ 1) ∧ tpS b l = f_land r 1 + tpS b (l + 1) ∧ 0 ≤ tpS b (l + 1) := by
  have h1 := tpS_s b l0
  have h2 := sshr_k b l0 l1
  have h3 := f_land_1 r
  rw [h] at h2
  omega
theorem shl_8 {m : Int} (h : 0 ≤ m) (h2 : m ≤ 8) : 1 ≤ f_ishl 1 m ∧ f_ishl 1 m ≤ 256 := by
  have hm : m = 0 ∨ m = 1 ∨ m = 2 ∨ m = 3 ∨ m = 4 ∨ m = 5 ∨ m = 6 ∨ m = 7 ∨ m = 8 := by omega
  rcases hm with rfl | rfl | rfl | rfl | rfl | rfl | rfl | rfl | rfl <;> decide +kernel
theorem shl_7 {m : Int} (h : 0 ≤ m) (h2 : m ≤ 7) : 1 ≤ f_ishl 1 m ∧ f_ishl 1 m ≤ 128 := by
  have hm : m = 0 ∨ m = 1 ∨ m = 2 ∨ m = 3 ∨ m = 4 ∨ m = 5 ∨ m = 6 ∨ m = 7 := by omega
  rcases hm with rfl | rfl | rfl | rfl | rfl | rfl | rfl | rfl <;> decide +kernel
theorem ior_8 {a b : Int} (h : 0 ≤ a ∧ a ≤ 255) (h2 : 0 ≤ b ∧ b ≤ 255) : 0 ≤ f_ior a b ∧ f_ior a b ≤ 255 := by
  have t : ∀ x : Int, 0 ≤ x ∧ x ≤ 255 → (Int32.ofInt x).toBitVec.toNat < 2 ^ 8 := fun x hx => by
    show (BitVec.ofInt 32 x).toNat < _
    rw [BitVec.toNat_ofInt]
    omega
  have h3 : (Int32.ofInt a ||| Int32.ofInt b).toBitVec.toNat < 2 ^ 8 := by
    rw [Int32.toBitVec_or, BitVec.toNat_or]
    exact Nat.or_lt_two_pow (t a h) (t b h2)
  have e : f_ior a b = ((Int32.ofInt a ||| Int32.ofInt b).toBitVec.toNat : Int) := BitVec.toInt_eq_toNat_of_lt (by omega)
  rw [e]
  omega
end
/-! 38.00 -/
section
set_option maxRecDepth 100000 in
set_option maxHeartbeats 4000000 in
theorem ns_X12_isWord_120 {l : Launch} {K : EC} {M0 : Mem} {G120_3 G120_7 : Int} (hI : In Tru M0) (k120_3 : rd M0 120 3 = G120_3) (k120_7 : rd M0 120 7 = G120_7)  (a1 : Int) (ha1 : (-9223372036854775808) ≤ a1 ∧ a1 ≤ 9223372036854775807)  : Tr l K 0 mX12_isWord 0 [(0, (2, 120)), (1, (1, a1))] [] M0 (fun M' r => St Tru ws_X12_isWord_120 as_X12_isWord_120 M0 M' ∧ ∃ v : Int, r = some (0, v) ∧ 0 ≤ v ∧ v ≤ 1 ∧ Hd ((v = 1 ∧ G120_3 = 1 ∧ G120_7 = a1) ∨ (v = 0 ∧ (G120_3 ≠ 1 ∨ G120_7 ≠ a1)))) := by
  subst k120_3
  subst k120_7
  refine Tr.imp (sp_X12_isWord_120 hI a1 ha1) ?_
  rintro M' _ ⟨hS, v, rfl, lr, ur, z0⟩
  rewrite [show rd M' 120 3 = rd M0 120 3 from ((St.kp hS (by decide) (by decide) (by decide)).trans rfl)] at z0
  rewrite [show rd M' 120 7 = rd M0 120 7 from ((St.kp hS (by decide) (by decide) (by decide)).trans rfl)] at z0
  exact ⟨hS, v, rfl, lr, ur, hd_i z0⟩

set_option maxRecDepth 100000 in
set_option maxHeartbeats 4000000 in
theorem ns_X12_isSign_120 {l : Launch} {K : EC} {M0 : Mem} {G120_3 G120_6 : Int} (hI : In Tru M0) (k120_3 : rd M0 120 3 = G120_3) (k120_6 : rd M0 120 6 = G120_6)  (a1 : Int) (ha1 : 0 ≤ a1 ∧ a1 ≤ 300)  : Tr l K 0 mX12_isSign 0 [(0, (2, 120)), (1, (0, a1))] [] M0 (fun M' r => St Tru ws_X12_isSign_120 as_X12_isSign_120 M0 M' ∧ ∃ v : Int, r = some (0, v) ∧ 0 ≤ v ∧ v ≤ 1 ∧ Hd ((v = 1 ∧ G120_3 = 3 ∧ G120_6 = a1) ∨ (v = 0 ∧ (G120_3 ≠ 3 ∨ G120_6 ≠ a1)))) := by
  subst k120_3
  subst k120_6
  refine Tr.imp (sp_X12_isSign_120 hI a1 ha1) ?_
  rintro M' _ ⟨hS, v, rfl, lr, ur, z0⟩
  rewrite [show rd M' 120 3 = rd M0 120 3 from ((St.kp hS (by decide) (by decide) (by decide)).trans rfl)] at z0
  rewrite [show rd M' 120 6 = rd M0 120 6 from ((St.kp hS (by decide) (by decide) (by decide)).trans rfl)] at z0
  exact ⟨hS, v, rfl, lr, ur, hd_i z0⟩

def ws_X12_blame_120 : List (Int × Int) := [(120, 8), (120, 9)]
def as_X12_blame_120 : List Int := []
def q_X12_blame_120 (a1 : Int) (a2 : Int) (M0 M' : Mem) (r : Option PV) : Prop := St Pm1 ws_X12_blame_120 as_X12_blame_120 M0 M' ∧ r = none ∧ ((rd M0 120 8 = 0 ∧ rd M' 120 8 = a1) ∨ (1 ≤ rd M0 120 8 ∧ rd M' 120 8 = rd M0 120 8))
set_option maxRecDepth 100000 in
set_option maxHeartbeats 4000000 in
theorem sp_X12_blame_120 {l : Launch} {K : EC} {M0 : Mem} (hI : In Pm1 M0)  (a1 : Int) (ha1 : 1 ≤ a1 ∧ a1 ≤ 5) (a2 : Int) (ha2 : 0 ≤ a2 ∧ a2 ≤ 900)  : Tr l K 0 mX12_blame 0 [(0, (2, 120)), (1, (0, a1)), (2, (0, a2))] [] M0 (q_X12_blame_120 a1 a2 M0) := by
  have hS : St Pm1 ws_X12_blame_120 as_X12_blame_120 M0 M0 := St.rf hI
  obtain ⟨g120_8, eg120_8⟩ : ∃ v, rd M0 120 8 = v := ⟨_, rfl⟩
  have bg120_8 : 0 ≤ g120_8 ∧ g120_8 ≤ 5 := by rw [← eg120_8]; exact ir_120_8 hI.2.1
  refine Tr.aload_n (pc := 0) (i := 0) d_X12_blame_0 rfl rfl ?_
  refine Tr.getf (pc := 1) d_X12_blame_1 f_12_36 (by decide) (by decide) (ty_120 hS.1.1) ?_
  refine Tr.tp g120_8 eg120_8 ?_
  refine Tr.if_le (pc := 4) (tgt := 8) d_X12_blame_4 rfl (fun c4 => ?_) (fun c4 => ?_)
  · refine Tr.aload_n (pc := 8) (i := 0) d_X12_blame_8 rfl rfl ?_
    refine Tr.iload_n (pc := 9) (i := 1) d_X12_blame_9 rfl rfl ?_
    refine Tr.putfS (pc := 10) (P := St Pm1 ws_X12_blame_120 as_X12_blame_120 M0) d_X12_blame_10 f_12_36 (by decide) (by decide) (ty_120 hS.1.1) (st_120_8 hS (by decide) (by omega) (Pm1_fk hS.1.2.2.2.2 hS.1.2.1 (by omega))) (fun M10 hS w10 => ?_)
    refine Tr.aload_n (pc := 13) (i := 0) d_X12_blame_13 rfl rfl ?_
    refine Tr.iload_n (pc := 14) (i := 2) d_X12_blame_14 rfl rfl ?_
    refine Tr.putfS (pc := 15) (P := St Pm1 ws_X12_blame_120 as_X12_blame_120 M0) d_X12_blame_15 f_12_39 (by decide) (by decide) (ty_120 hS.1.1) (st_120_9 hS (by decide) (by omega) (Pm1.of hS.1.2.2.2.2 (fun _ => rd_wb _ rfl) (fun _ => rd_wb _ rfl) (fun _ => rd_wb _ rfl) (fun _ => rd_wb _ rfl) (fun _ => rd_wb _ rfl) (fun _ => rd_wb _ rfl) (fun _ => rd_wb _ rfl) (fun _ => rd_wb _ rfl) (fun _ => rd_wb _ rfl) (fun _ => rd_wb _ rfl) (rd_wb _ rfl) (rd_wb _ rfl) (rd_wb _ rfl) (rd_wb _ rfl) (rd_wb _ rfl) (rd_wb _ rfl) (rd_wb _ rfl) (rd_wb _ rfl) (rd_wb _ rfl) (rd_wb _ rfl) (rd_wb _ rfl))) (fun M15 hS w15 => ?_)
    have kr_120_8 : rd M15 120 8 = a1 := ((Wr.b w15 rfl).trans w10.1)
    exact Tr.vret (pc := 18) d_X12_blame_18 rfl ⟨hS, rfl, by omega⟩
  · have kr_120_8 : rd M0 120 8 = g120_8 := eg120_8
    exact Tr.vret (pc := 7) d_X12_blame_7 rfl ⟨hS, rfl, by omega⟩

set_option maxRecDepth 100000 in
set_option maxHeartbeats 4000000 in
theorem ns_X12_blame_120 {l : Launch} {K : EC} {M0 : Mem} {G120_8 : Int} (hI : In Pm1 M0) (k120_8 : rd M0 120 8 = G120_8)  (a1 : Int) (ha1 : 1 ≤ a1 ∧ a1 ≤ 5) (a2 : Int) (ha2 : 0 ≤ a2 ∧ a2 ≤ 900)  : Tr l K 0 mX12_blame 0 [(0, (2, 120)), (1, (0, a1)), (2, (0, a2))] [] M0 (fun M' r => St Pm1 ws_X12_blame_120 as_X12_blame_120 M0 M' ∧ ∃ S120_8 : Int, rd M' 120 8 = S120_8 ∧ (0 ≤ S120_8 ∧ S120_8 ≤ 5) ∧ r = none ∧ Hd ((G120_8 = 0 ∧ S120_8 = a1) ∨ (1 ≤ G120_8 ∧ S120_8 = G120_8))) := by
  subst k120_8
  refine Tr.imp (sp_X12_blame_120 hI a1 ha1 a2 ha2) ?_
  rintro M' _ ⟨hS, rfl, z0⟩
  exact ⟨hS, _, rfl, ir_120_8 hS.1.2.1, rfl, hd_i z0⟩

def ws_X12_next_120 : List (Int × Int) := [(120, 3), (120, 4), (120, 5), (120, 6), (120, 7), (120, 8), (120, 9)]
def as_X12_next_120 : List Int := []
def q_X12_next_120 (M0 M' : Mem) (r : Option PV) : Prop := St Pm1 ws_X12_next_120 as_X12_next_120 M0 M' ∧ r = none ∧ (rd M' 120 3 = 0 ∨ rd M' 120 4 + 1 ≤ rd M' 120 5) ∧ (rd M' 120 4 ≤ rd M' 120 5) ∧ (rd M' 120 3 ≠ 1 ∨ rd M' 120 4 + 2 ≤ rd M' 120 5 ∨ rd M' 120 7 < 256) ∧ (rd M0 120 5 ≤ rd M' 120 4) ∧ (tav M0 ≤ tav M') ∧ (rd M0 120 3 = 0 ∨ tav M0 < tav M') ∧ (rd M0 120 8 = 0 ∨ rd M' 120 8 = rd M0 120 8)
theorem ka_X12_isLetter_131 {q : Mem → Prop} {M0 M : Mem} (h : St q ws_X12_isLetter as_X12_isLetter M0 M) (j : Int) : rd M 131 j = rd M0 131 j := St.ka h (by decide) (by decide) (by decide)
theorem ka_X12_isLetter_137 {q : Mem → Prop} {M0 M : Mem} (h : St q ws_X12_isLetter as_X12_isLetter M0 M) (j : Int) : rd M 137 j = rd M0 137 j := St.ka h (by decide) (by decide) (by decide)
theorem ka_X12_isLetter_138 {q : Mem → Prop} {M0 M : Mem} (h : St q ws_X12_isLetter as_X12_isLetter M0 M) (j : Int) : rd M 138 j = rd M0 138 j := St.ka h (by decide) (by decide) (by decide)
theorem ka_X12_isLetter_139 {q : Mem → Prop} {M0 M : Mem} (h : St q ws_X12_isLetter as_X12_isLetter M0 M) (j : Int) : rd M 139 j = rd M0 139 j := St.ka h (by decide) (by decide) (by decide)
theorem ka_X12_isLetter_140 {q : Mem → Prop} {M0 M : Mem} (h : St q ws_X12_isLetter as_X12_isLetter M0 M) (j : Int) : rd M 140 j = rd M0 140 j := St.ka h (by decide) (by decide) (by decide)
theorem ka_X12_isLetter_141 {q : Mem → Prop} {M0 M : Mem} (h : St q ws_X12_isLetter as_X12_isLetter M0 M) (j : Int) : rd M 141 j = rd M0 141 j := St.ka h (by decide) (by decide) (by decide)
theorem ka_X12_isLetter_142 {q : Mem → Prop} {M0 M : Mem} (h : St q ws_X12_isLetter as_X12_isLetter M0 M) (j : Int) : rd M 142 j = rd M0 142 j := St.ka h (by decide) (by decide) (by decide)
theorem ka_X12_isLetter_143 {q : Mem → Prop} {M0 M : Mem} (h : St q ws_X12_isLetter as_X12_isLetter M0 M) (j : Int) : rd M 143 j = rd M0 143 j := St.ka h (by decide) (by decide) (by decide)
theorem ka_X12_isLetter_151 {q : Mem → Prop} {M0 M : Mem} (h : St q ws_X12_isLetter as_X12_isLetter M0 M) (j : Int) : rd M 151 j = rd M0 151 j := St.ka h (by decide) (by decide) (by decide)
theorem ka_X12_isLetter_152 {q : Mem → Prop} {M0 M : Mem} (h : St q ws_X12_isLetter as_X12_isLetter M0 M) (j : Int) : rd M 152 j = rd M0 152 j := St.ka h (by decide) (by decide) (by decide)
theorem kp_X12_isLetter_126_0 {q : Mem → Prop} {M0 M : Mem} (h : St q ws_X12_isLetter as_X12_isLetter M0 M) : rd M 126 0 = rd M0 126 0 := St.kp h (by decide) (by decide) (by decide)
theorem kp_X12_isLetter_126_1 {q : Mem → Prop} {M0 M : Mem} (h : St q ws_X12_isLetter as_X12_isLetter M0 M) : rd M 126 1 = rd M0 126 1 := St.kp h (by decide) (by decide) (by decide)
theorem kp_X12_isLetter_136_0 {q : Mem → Prop} {M0 M : Mem} (h : St q ws_X12_isLetter as_X12_isLetter M0 M) : rd M 136 0 = rd M0 136 0 := St.kp h (by decide) (by decide) (by decide)
theorem kp_X12_isLetter_136_1 {q : Mem → Prop} {M0 M : Mem} (h : St q ws_X12_isLetter as_X12_isLetter M0 M) : rd M 136 1 = rd M0 136 1 := St.kp h (by decide) (by decide) (by decide)
theorem kp_X12_isLetter_123_0 {q : Mem → Prop} {M0 M : Mem} (h : St q ws_X12_isLetter as_X12_isLetter M0 M) : rd M 123 0 = rd M0 123 0 := St.kp h (by decide) (by decide) (by decide)
theorem kp_X12_isLetter_123_1 {q : Mem → Prop} {M0 M : Mem} (h : St q ws_X12_isLetter as_X12_isLetter M0 M) : rd M 123 1 = rd M0 123 1 := St.kp h (by decide) (by decide) (by decide)
theorem kp_X12_isLetter_124_0 {q : Mem → Prop} {M0 M : Mem} (h : St q ws_X12_isLetter as_X12_isLetter M0 M) : rd M 124 0 = rd M0 124 0 := St.kp h (by decide) (by decide) (by decide)
theorem kp_X12_isLetter_124_1 {q : Mem → Prop} {M0 M : Mem} (h : St q ws_X12_isLetter as_X12_isLetter M0 M) : rd M 124 1 = rd M0 124 1 := St.kp h (by decide) (by decide) (by decide)
theorem kp_X12_isLetter_120_8 {q : Mem → Prop} {M0 M : Mem} (h : St q ws_X12_isLetter as_X12_isLetter M0 M) : rd M 120 8 = rd M0 120 8 := St.kp h (by decide) (by decide) (by decide)
theorem kp_X12_isLetter_120_36 {q : Mem → Prop} {M0 M : Mem} (h : St q ws_X12_isLetter as_X12_isLetter M0 M) : rd M 120 36 = rd M0 120 36 := St.kp h (by decide) (by decide) (by decide)
theorem kp_X12_isLetter_120_50 {q : Mem → Prop} {M0 M : Mem} (h : St q ws_X12_isLetter as_X12_isLetter M0 M) : rd M 120 50 = rd M0 120 50 := St.kp h (by decide) (by decide) (by decide)
theorem ka_X12_isLetter_121 {q : Mem → Prop} {M0 M : Mem} (h : St q ws_X12_isLetter as_X12_isLetter M0 M) (j : Int) : rd M 121 j = rd M0 121 j := St.ka h (by decide) (by decide) (by decide)
theorem ka_X12_isDigit_131 {q : Mem → Prop} {M0 M : Mem} (h : St q ws_X12_isDigit as_X12_isDigit M0 M) (j : Int) : rd M 131 j = rd M0 131 j := St.ka h (by decide) (by decide) (by decide)
theorem ka_X12_isDigit_137 {q : Mem → Prop} {M0 M : Mem} (h : St q ws_X12_isDigit as_X12_isDigit M0 M) (j : Int) : rd M 137 j = rd M0 137 j := St.ka h (by decide) (by decide) (by decide)
theorem ka_X12_isDigit_138 {q : Mem → Prop} {M0 M : Mem} (h : St q ws_X12_isDigit as_X12_isDigit M0 M) (j : Int) : rd M 138 j = rd M0 138 j := St.ka h (by decide) (by decide) (by decide)
theorem ka_X12_isDigit_139 {q : Mem → Prop} {M0 M : Mem} (h : St q ws_X12_isDigit as_X12_isDigit M0 M) (j : Int) : rd M 139 j = rd M0 139 j := St.ka h (by decide) (by decide) (by decide)
theorem ka_X12_isDigit_140 {q : Mem → Prop} {M0 M : Mem} (h : St q ws_X12_isDigit as_X12_isDigit M0 M) (j : Int) : rd M 140 j = rd M0 140 j := St.ka h (by decide) (by decide) (by decide)
theorem ka_X12_isDigit_141 {q : Mem → Prop} {M0 M : Mem} (h : St q ws_X12_isDigit as_X12_isDigit M0 M) (j : Int) : rd M 141 j = rd M0 141 j := St.ka h (by decide) (by decide) (by decide)
theorem ka_X12_isDigit_142 {q : Mem → Prop} {M0 M : Mem} (h : St q ws_X12_isDigit as_X12_isDigit M0 M) (j : Int) : rd M 142 j = rd M0 142 j := St.ka h (by decide) (by decide) (by decide)
theorem ka_X12_isDigit_143 {q : Mem → Prop} {M0 M : Mem} (h : St q ws_X12_isDigit as_X12_isDigit M0 M) (j : Int) : rd M 143 j = rd M0 143 j := St.ka h (by decide) (by decide) (by decide)
theorem ka_X12_isDigit_151 {q : Mem → Prop} {M0 M : Mem} (h : St q ws_X12_isDigit as_X12_isDigit M0 M) (j : Int) : rd M 151 j = rd M0 151 j := St.ka h (by decide) (by decide) (by decide)
theorem ka_X12_isDigit_152 {q : Mem → Prop} {M0 M : Mem} (h : St q ws_X12_isDigit as_X12_isDigit M0 M) (j : Int) : rd M 152 j = rd M0 152 j := St.ka h (by decide) (by decide) (by decide)
theorem kp_X12_isDigit_126_0 {q : Mem → Prop} {M0 M : Mem} (h : St q ws_X12_isDigit as_X12_isDigit M0 M) : rd M 126 0 = rd M0 126 0 := St.kp h (by decide) (by decide) (by decide)
theorem kp_X12_isDigit_126_1 {q : Mem → Prop} {M0 M : Mem} (h : St q ws_X12_isDigit as_X12_isDigit M0 M) : rd M 126 1 = rd M0 126 1 := St.kp h (by decide) (by decide) (by decide)
theorem kp_X12_isDigit_136_0 {q : Mem → Prop} {M0 M : Mem} (h : St q ws_X12_isDigit as_X12_isDigit M0 M) : rd M 136 0 = rd M0 136 0 := St.kp h (by decide) (by decide) (by decide)
theorem kp_X12_isDigit_136_1 {q : Mem → Prop} {M0 M : Mem} (h : St q ws_X12_isDigit as_X12_isDigit M0 M) : rd M 136 1 = rd M0 136 1 := St.kp h (by decide) (by decide) (by decide)
theorem kp_X12_isDigit_123_0 {q : Mem → Prop} {M0 M : Mem} (h : St q ws_X12_isDigit as_X12_isDigit M0 M) : rd M 123 0 = rd M0 123 0 := St.kp h (by decide) (by decide) (by decide)
theorem kp_X12_isDigit_123_1 {q : Mem → Prop} {M0 M : Mem} (h : St q ws_X12_isDigit as_X12_isDigit M0 M) : rd M 123 1 = rd M0 123 1 := St.kp h (by decide) (by decide) (by decide)
theorem kp_X12_isDigit_124_0 {q : Mem → Prop} {M0 M : Mem} (h : St q ws_X12_isDigit as_X12_isDigit M0 M) : rd M 124 0 = rd M0 124 0 := St.kp h (by decide) (by decide) (by decide)
theorem kp_X12_isDigit_124_1 {q : Mem → Prop} {M0 M : Mem} (h : St q ws_X12_isDigit as_X12_isDigit M0 M) : rd M 124 1 = rd M0 124 1 := St.kp h (by decide) (by decide) (by decide)
theorem kp_X12_isDigit_120_8 {q : Mem → Prop} {M0 M : Mem} (h : St q ws_X12_isDigit as_X12_isDigit M0 M) : rd M 120 8 = rd M0 120 8 := St.kp h (by decide) (by decide) (by decide)
theorem kp_X12_isDigit_120_36 {q : Mem → Prop} {M0 M : Mem} (h : St q ws_X12_isDigit as_X12_isDigit M0 M) : rd M 120 36 = rd M0 120 36 := St.kp h (by decide) (by decide) (by decide)
theorem kp_X12_isDigit_120_50 {q : Mem → Prop} {M0 M : Mem} (h : St q ws_X12_isDigit as_X12_isDigit M0 M) : rd M 120 50 = rd M0 120 50 := St.kp h (by decide) (by decide) (by decide)
theorem kp_X12_blame_120_120_2 {q : Mem → Prop} {M0 M : Mem} (h : St q ws_X12_blame_120 as_X12_blame_120 M0 M) : rd M 120 2 = rd M0 120 2 := St.kp h (by decide) (by decide) (by decide)
theorem kp_X12_blame_120_120_3 {q : Mem → Prop} {M0 M : Mem} (h : St q ws_X12_blame_120 as_X12_blame_120 M0 M) : rd M 120 3 = rd M0 120 3 := St.kp h (by decide) (by decide) (by decide)
theorem kp_X12_blame_120_120_4 {q : Mem → Prop} {M0 M : Mem} (h : St q ws_X12_blame_120 as_X12_blame_120 M0 M) : rd M 120 4 = rd M0 120 4 := St.kp h (by decide) (by decide) (by decide)
theorem kp_X12_blame_120_120_5 {q : Mem → Prop} {M0 M : Mem} (h : St q ws_X12_blame_120 as_X12_blame_120 M0 M) : rd M 120 5 = rd M0 120 5 := St.kp h (by decide) (by decide) (by decide)
theorem kp_X12_blame_120_120_7 {q : Mem → Prop} {M0 M : Mem} (h : St q ws_X12_blame_120 as_X12_blame_120 M0 M) : rd M 120 7 = rd M0 120 7 := St.kp h (by decide) (by decide) (by decide)
theorem ka_X12_blame_120_121 {q : Mem → Prop} {M0 M : Mem} (h : St q ws_X12_blame_120 as_X12_blame_120 M0 M) (j : Int) : rd M 121 j = rd M0 121 j := St.ka h (by decide) (by decide) (by decide)
theorem kp_X12_isDigit_120_3 {q : Mem → Prop} {M0 M : Mem} (h : St q ws_X12_isDigit as_X12_isDigit M0 M) : rd M 120 3 = rd M0 120 3 := St.kp h (by decide) (by decide) (by decide)
theorem kp_X12_isDigit_120_4 {q : Mem → Prop} {M0 M : Mem} (h : St q ws_X12_isDigit as_X12_isDigit M0 M) : rd M 120 4 = rd M0 120 4 := St.kp h (by decide) (by decide) (by decide)
theorem kp_X12_isDigit_120_7 {q : Mem → Prop} {M0 M : Mem} (h : St q ws_X12_isDigit as_X12_isDigit M0 M) : rd M 120 7 = rd M0 120 7 := St.kp h (by decide) (by decide) (by decide)
theorem ka_X12_isDigit_121 {q : Mem → Prop} {M0 M : Mem} (h : St q ws_X12_isDigit as_X12_isDigit M0 M) (j : Int) : rd M 121 j = rd M0 121 j := St.ka h (by decide) (by decide) (by decide)
theorem kp_X12_isDigit_120_2 {q : Mem → Prop} {M0 M : Mem} (h : St q ws_X12_isDigit as_X12_isDigit M0 M) : rd M 120 2 = rd M0 120 2 := St.kp h (by decide) (by decide) (by decide)
theorem kp_X12_isDigit_120_5 {q : Mem → Prop} {M0 M : Mem} (h : St q ws_X12_isDigit as_X12_isDigit M0 M) : rd M 120 5 = rd M0 120 5 := St.kp h (by decide) (by decide) (by decide)
theorem kp_X12_isLetter_120_3 {q : Mem → Prop} {M0 M : Mem} (h : St q ws_X12_isLetter as_X12_isLetter M0 M) : rd M 120 3 = rd M0 120 3 := St.kp h (by decide) (by decide) (by decide)
theorem kp_X12_isLetter_120_4 {q : Mem → Prop} {M0 M : Mem} (h : St q ws_X12_isLetter as_X12_isLetter M0 M) : rd M 120 4 = rd M0 120 4 := St.kp h (by decide) (by decide) (by decide)
theorem kp_X12_isLetter_120_7 {q : Mem → Prop} {M0 M : Mem} (h : St q ws_X12_isLetter as_X12_isLetter M0 M) : rd M 120 7 = rd M0 120 7 := St.kp h (by decide) (by decide) (by decide)
theorem kp_X12_isLetter_120_2 {q : Mem → Prop} {M0 M : Mem} (h : St q ws_X12_isLetter as_X12_isLetter M0 M) : rd M 120 2 = rd M0 120 2 := St.kp h (by decide) (by decide) (by decide)
theorem kp_X12_isLetter_120_5 {q : Mem → Prop} {M0 M : Mem} (h : St q ws_X12_isLetter as_X12_isLetter M0 M) : rd M 120 5 = rd M0 120 5 := St.kp h (by decide) (by decide) (by decide)
set_option maxRecDepth 100000 in
set_option maxHeartbeats 4000000 in
theorem sp_X12_next_120 {l : Launch} {K : EC} {M0 : Mem} (hI : In Pm1 M0)    : Tr l K 1 mX12_next 0 [(0, (2, 120))] [] M0 (q_X12_next_120 M0) := by
  have hS : St Pm1 ws_X12_next_120 as_X12_next_120 M0 M0 := St.rf hI
  obtain ⟨g120_8, eg120_8⟩ : ∃ v, rd M0 120 8 = v := ⟨_, rfl⟩
  have bg120_8 : 0 ≤ g120_8 ∧ g120_8 ≤ 5 := by rw [← eg120_8]; exact ir_120_8 hI.2.1
  obtain ⟨g120_3, eg120_3⟩ : ∃ v, rd M0 120 3 = v := ⟨_, rfl⟩
  have bg120_3 : 0 ≤ g120_3 ∧ g120_3 ≤ 3 := by rw [← eg120_3]; exact ir_120_3 hI.2.1
  obtain ⟨g120_4, eg120_4⟩ : ∃ v, rd M0 120 4 = v := ⟨_, rfl⟩
  have bg120_4 : 0 ≤ g120_4 ∧ g120_4 ≤ 900 := by rw [← eg120_4]; exact ir_120_4 hI.2.1
  obtain ⟨g120_5, eg120_5⟩ : ∃ v, rd M0 120 5 = v := ⟨_, rfl⟩
  have bg120_5 : 0 ≤ g120_5 ∧ g120_5 ≤ 900 := by rw [← eg120_5]; exact ir_120_5 hI.2.1
  obtain ⟨g120_7, eg120_7⟩ : ∃ v, rd M0 120 7 = v := ⟨_, rfl⟩
  have bg120_7 : (-9223372036854775808) ≤ g120_7 ∧ g120_7 ≤ 9223372036854775807 := by rw [← eg120_7]; exact ir_120_7 hI.2.1
  obtain ⟨g9010_0, eg9010_0⟩ : ∃ v, tav M0 = v := ⟨_, rfl⟩
  have bg9010_0 : (-1) ≤ g9010_0 ∧ g9010_0 ≤ 1800 := by rw [← eg9010_0]; exact (tav_b hI.2.1)
  have jt0 := tav_c eg120_5 eg120_3
  rw [eg9010_0] at jt0
  replace jt0 := hd_i jt0
  refine Tr.aload_n (pc := 0) (i := 0) d_X12_next_0 rfl rfl ?_
  refine Tr.getf (pc := 1) d_X12_next_1 f_12_26 (by decide) (by decide) (ty_120 hS.1.1) ?_
  refine Tr.tp g120_5 eg120_5 ?_
  refine Tr.istore_n (pc := 4) (i := 1) (ls2 := [(1, (0, g120_5)), (0, (2, 120))]) d_X12_next_4 rfl (by decide) rfl ?_
  have J5 : ∀ (n5 : Nat) (M : Mem) (p5_1 : Int), St Pm1 ws_X12_next_120 as_X12_next_120 M0 M → (0 ≤ p5_1 ∧ p5_1 ≤ 900) → rd M 120 3 = g120_3 → rd M 120 4 = g120_4 → rd M 120 5 = g120_5 → rd M 120 7 = g120_7 → rd M 120 8 = g120_8 → tav M = g9010_0 → (g120_5 ≤ p5_1 ∧ g120_8 = g120_8) → (900 - p5_1).toNat < n5 → Tr l K 1 mX12_next 5 [(0, (2, 120)), (1, (0, p5_1))] [] M (q_X12_next_120 M0) := by
    intro n5
    induction n5 with
    | zero => intro M p5_1 hS bp5_1 k5_120_3 k5_120_4 k5_120_5 k5_120_7 k5_120_8 k5_9010_0 t5_0 hm5; exact absurd hm5 (Nat.not_lt_zero _)
    | succ n5 J5 =>
      intro M p5_1 hS bp5_1 k5_120_3 k5_120_4 k5_120_5 k5_120_7 k5_120_8 k5_9010_0 t5_0 hm5
      refine Tr.iload_n (pc := 5) (i := 1) d_X12_next_5 rfl rfl ?_
      refine Tr.aload_n (pc := 6) (i := 0) d_X12_next_6 rfl rfl ?_
      refine Tr.getf (pc := 7) d_X12_next_7 f_12_17 (by decide) (by decide) (ty_120 hS.1.1) ?_
      refine Tr.gen (P := fun v => 0 ≤ v ∧ v ≤ 900) (ir_120_2 hS.1.2.1) (fun r7 er7 br7 => ?_)
      have J41 : ∀ (M : Mem), St Pm1 ws_X12_next_120 as_X12_next_120 M0 M → rd M 120 2 = r7 → rd M 120 3 = g120_3 → rd M 120 4 = g120_4 → rd M 120 5 = g120_5 → rd M 120 7 = g120_7 → rd M 120 8 = g120_8 → tav M = g9010_0 → (g120_5 ≤ p5_1 ∧ g120_8 = g120_8) → Tr l K 1 mX12_next 41 [(0, (2, 120)), (1, (0, p5_1))] [] M (q_X12_next_120 M0) := by
        intro M  hS  k41_120_2 k41_120_3 k41_120_4 k41_120_5 k41_120_7 k41_120_8 k41_9010_0 t41_0
        clear k5_120_3 k5_120_4 k5_120_5 k5_120_7 k5_120_8 k5_9010_0 er7
        refine Tr.aload_n (pc := 41) (i := 0) d_X12_next_41 rfl rfl ?_
        refine Tr.iload_n (pc := 42) (i := 1) d_X12_next_42 rfl rfl ?_
        refine Tr.putfS (pc := 43) (P := St Pm1 ws_X12_next_120 as_X12_next_120 M0) d_X12_next_43 f_12_23 (by decide) (by decide) (ty_120 hS.1.1) (st_120_4 hS (by decide) (by and_intros <;> omega) (Pm1.of hS.1.2.2.2.2 (fun _ => rd_wb _ rfl) (fun _ => rd_wb _ rfl) (fun _ => rd_wb _ rfl) (fun _ => rd_wb _ rfl) (fun _ => rd_wb _ rfl) (fun _ => rd_wb _ rfl) (fun _ => rd_wb _ rfl) (fun _ => rd_wb _ rfl) (fun _ => rd_wb _ rfl) (fun _ => rd_wb _ rfl) (rd_wb _ rfl) (rd_wb _ rfl) (rd_wb _ rfl) (rd_wb _ rfl) (rd_wb _ rfl) (rd_wb _ rfl) (rd_wb _ rfl) (rd_wb _ rfl) (rd_wb _ rfl) (rd_wb _ rfl) (rd_wb _ rfl))) (fun M43 hS w43 => ?_)
        refine Tr.aload_n (pc := 46) (i := 0) d_X12_next_46 rfl rfl ?_
        refine Tr.iload_n (pc := 47) (i := 1) d_X12_next_47 rfl rfl ?_
        refine Tr.putfS (pc := 48) (P := St Pm1 ws_X12_next_120 as_X12_next_120 M0) d_X12_next_48 f_12_26 (by decide) (by decide) (ty_120 hS.1.1) (st_120_5 hS (by decide) (by and_intros <;> omega) (Pm1.of hS.1.2.2.2.2 (fun _ => rd_wb _ rfl) (fun _ => rd_wb _ rfl) (fun _ => rd_wb _ rfl) (fun _ => rd_wb _ rfl) (fun _ => rd_wb _ rfl) (fun _ => rd_wb _ rfl) (fun _ => rd_wb _ rfl) (fun _ => rd_wb _ rfl) (fun _ => rd_wb _ rfl) (fun _ => rd_wb _ rfl) (rd_wb _ rfl) (rd_wb _ rfl) (rd_wb _ rfl) (rd_wb _ rfl) (rd_wb _ rfl) (rd_wb _ rfl) (rd_wb _ rfl) (rd_wb _ rfl) (rd_wb _ rfl) (rd_wb _ rfl) (rd_wb _ rfl))) (fun M48 hS w48 => ?_)
        refine Tr.aload_n (pc := 51) (i := 0) d_X12_next_51 rfl rfl ?_
        refine Tr.iconst (pc := 52) d_X12_next_52 (by decide) ?_
        refine Tr.putfS (pc := 53) (P := St Pm1 ws_X12_next_120 as_X12_next_120 M0) d_X12_next_53 f_12_20 (by decide) (by decide) (ty_120 hS.1.1) (st_120_3 hS (by decide) (by omega) (Pm1.of hS.1.2.2.2.2 (fun _ => rd_wb _ rfl) (fun _ => rd_wb _ rfl) (fun _ => rd_wb _ rfl) (fun _ => rd_wb _ rfl) (fun _ => rd_wb _ rfl) (fun _ => rd_wb _ rfl) (fun _ => rd_wb _ rfl) (fun _ => rd_wb _ rfl) (fun _ => rd_wb _ rfl) (fun _ => rd_wb _ rfl) (rd_wb _ rfl) (rd_wb _ rfl) (rd_wb _ rfl) (rd_wb _ rfl) (rd_wb _ rfl) (rd_wb _ rfl) (rd_wb _ rfl) (rd_wb _ rfl) (rd_wb _ rfl) (rd_wb _ rfl) (rd_wb _ rfl))) (fun M53 hS w53 => ?_)
        refine Tr.iload_n (pc := 56) (i := 1) d_X12_next_56 rfl rfl ?_
        refine Tr.aload_n (pc := 57) (i := 0) d_X12_next_57 rfl rfl ?_
        refine Tr.getf (pc := 58) d_X12_next_58 f_12_17 (by decide) (by decide) (ty_120 hS.1.1) ?_
        refine Tr.tp r7 ((Wr.b w53 rfl).trans ((Wr.b w48 rfl).trans ((Wr.b w43 rfl).trans k41_120_2))) ?_
        refine Tr.icmp_lt (pc := 61) (tgt := 65) d_X12_next_61 rfl (fun c61 => ?_) (fun c61 => ?_)
        · refine Tr.aload_n (pc := 65) (i := 0) d_X12_next_65 rfl rfl ?_
          refine Tr.getf (pc := 66) d_X12_next_66 f_12_7 (by decide) (by decide) (ty_120 hS.1.1) ?_
          refine Tr.tp 121 (fx_120_0 hS.1.1) ?_
          refine Tr.iload_n (pc := 69) (i := 1) d_X12_next_69 rfl rfl ?_
          refine Tr.iald (pc := 70) d_X12_next_70 (ty_121 hS.1.1) (by omega) (by omega) ?_
          refine Tr.gen (P := fun v => (-2147483648) ≤ v ∧ v ≤ 2147483647) (ar_121 hS.1.2.1 _) (fun r70 er70 br70 => ?_)
          refine Tr.callS (pc := 71) (as := [_]) d_X12_next_71 s_12_382 ok_X12_isLetter rfl rfl (Nat.le_of_ble_eq_true rfl) (Nat.le_of_ble_eq_true rfl) ?_
          refine Tr.imp (Tr.deep (by decide) (sp_X12_isLetter hS.1.wk r70 (by and_intros <;> omega))) ?_
          rintro M71 _ ⟨h71, r71, rfl, lr71, ur71, wr71⟩
          have h71 := St.rn h71 (Pm1.of hS.1.2.2.2.2 (fun _ => (ka_X12_isLetter_131 h71 _)) (fun _ => (ka_X12_isLetter_137 h71 _)) (fun _ => (ka_X12_isLetter_138 h71 _)) (fun _ => (ka_X12_isLetter_139 h71 _)) (fun _ => (ka_X12_isLetter_140 h71 _)) (fun _ => (ka_X12_isLetter_141 h71 _)) (fun _ => (ka_X12_isLetter_142 h71 _)) (fun _ => (ka_X12_isLetter_143 h71 _)) (fun _ => (ka_X12_isLetter_151 h71 _)) (fun _ => (ka_X12_isLetter_152 h71 _)) (kp_X12_isLetter_126_0 h71) (kp_X12_isLetter_126_1 h71) (kp_X12_isLetter_136_0 h71) (kp_X12_isLetter_136_1 h71) (kp_X12_isLetter_123_0 h71) (kp_X12_isLetter_123_1 h71) (kp_X12_isLetter_124_0 h71) (kp_X12_isLetter_124_1 h71) (kp_X12_isLetter_120_8 h71) (kp_X12_isLetter_120_36 h71) (kp_X12_isLetter_120_50 h71))
          have hS := St.tr hS h71 (by decide) (by decide)
          replace wr71 := hd_i wr71
          refine Tr.sc [(0, r71)] rfl ?_
          refine Tr.istore_n (pc := 74) (i := 2) (ls2 := [(2, (0, r71)), (0, (2, 120)), (1, (0, p5_1))]) d_X12_next_74 rfl (by decide) rfl ?_
          refine Tr.aload_n (pc := 75) (i := 0) d_X12_next_75 rfl rfl ?_
          refine Tr.getf (pc := 76) d_X12_next_76 f_12_7 (by decide) (by decide) (ty_120 hS.1.1) ?_
          refine Tr.tp 121 (fx_120_0 hS.1.1) ?_
          refine Tr.iload_n (pc := 79) (i := 1) d_X12_next_79 rfl rfl ?_
          refine Tr.iald (pc := 80) d_X12_next_80 (ty_121 hS.1.1) (by omega) (by omega) ?_
          refine Tr.tp r70 ((ka_X12_isLetter_121 h71 _).trans er70) ?_
          refine Tr.callS (pc := 81) (as := [_]) d_X12_next_81 s_12_386 ok_X12_isDigit rfl rfl (Nat.le_of_ble_eq_true rfl) (Nat.le_of_ble_eq_true rfl) ?_
          refine Tr.imp (Tr.deep (by decide) (sp_X12_isDigit hS.1.wk r70 (by and_intros <;> omega))) ?_
          rintro M81 _ ⟨h81, r81, rfl, lr81, ur81, wr81⟩
          have h81 := St.rn h81 (Pm1.of hS.1.2.2.2.2 (fun _ => (ka_X12_isDigit_131 h81 _)) (fun _ => (ka_X12_isDigit_137 h81 _)) (fun _ => (ka_X12_isDigit_138 h81 _)) (fun _ => (ka_X12_isDigit_139 h81 _)) (fun _ => (ka_X12_isDigit_140 h81 _)) (fun _ => (ka_X12_isDigit_141 h81 _)) (fun _ => (ka_X12_isDigit_142 h81 _)) (fun _ => (ka_X12_isDigit_143 h81 _)) (fun _ => (ka_X12_isDigit_151 h81 _)) (fun _ => (ka_X12_isDigit_152 h81 _)) (kp_X12_isDigit_126_0 h81) (kp_X12_isDigit_126_1 h81) (kp_X12_isDigit_136_0 h81) (kp_X12_isDigit_136_1 h81) (kp_X12_isDigit_123_0 h81) (kp_X12_isDigit_123_1 h81) (kp_X12_isDigit_124_0 h81) (kp_X12_isDigit_124_1 h81) (kp_X12_isDigit_120_8 h81) (kp_X12_isDigit_120_36 h81) (kp_X12_isDigit_120_50 h81))
          have hS := St.tr hS h81 (by decide) (by decide)
          replace wr81 := hd_i wr81
          refine Tr.sc [(0, r81)] rfl ?_
          refine Tr.istore_n (pc := 84) (i := 3) (ls2 := [(3, (0, r81)), (2, (0, r71)), (0, (2, 120)), (1, (0, p5_1))]) d_X12_next_84 rfl (by decide) rfl ?_
          refine Tr.iload_n (pc := 85) (i := 2) d_X12_next_85 rfl rfl ?_
          have J131 : ∀ (M : Mem) (u131_120_8 u131_9010_0 : Int), St Pm1 ws_X12_next_120 as_X12_next_120 M0 M → (0 ≤ u131_120_8 ∧ u131_120_8 ≤ 5) → ((-1) ≤ u131_9010_0 ∧ u131_9010_0 ≤ 1800) → rd M 120 2 = r7 → rd M 120 3 = 0 → rd M 120 4 = p5_1 → rd M 120 5 = p5_1 → rd M 120 7 = g120_7 → rd M 120 8 = u131_120_8 → rd M 121 p5_1 = r70 → tav M = u131_9010_0 → (g120_5 ≤ p5_1) → (p5_1 = p5_1) → (g120_8 = 0 ∨ u131_120_8 = g120_8) → ((r71 = 1 ∧ 97 ≤ rd M 121 p5_1 ∧ rd M 121 p5_1 ≤ 122) ∨ (r71 = 0 ∧ (rd M 121 p5_1 < 97 ∨ 122 < rd M 121 p5_1))) → ((r81 = 1 ∧ 48 ≤ rd M 121 p5_1 ∧ rd M 121 p5_1 ≤ 57) ∨ (r81 = 0 ∧ (rd M 121 p5_1 < 48 ∨ 57 < rd M 121 p5_1))) → Tr l K 1 mX12_next 131 [(0, (2, 120)), (1, (0, p5_1)), (2, (0, r71)), (3, (0, r81))] [] M (q_X12_next_120 M0) := by
            intro M u131_120_8 u131_9010_0 hS bu131_120_8 bu131_9010_0 k131_120_2 k131_120_3 k131_120_4 k131_120_5 k131_120_7 k131_120_8 k131_121_p5_110 k131_9010_0 t131_0 t131_1 t131_2 t131_3 t131_4
            clear k41_120_2 k41_120_3 k41_120_4 k41_120_5 k41_120_7 k41_120_8 k41_9010_0 w43 w48 w53 er70
            replace t131_2 := hd_i t131_2
            replace t131_3 := hd_i t131_3
            replace t131_4 := hd_i t131_4
            refine Tr.aload_n (pc := 131) (i := 0) d_X12_next_131 rfl rfl ?_
            refine Tr.iconst (pc := 132) d_X12_next_132 (by decide) ?_
            refine Tr.putfS (pc := 133) (P := St Pm1 ws_X12_next_120 as_X12_next_120 M0) d_X12_next_133 f_12_29 (by decide) (by decide) (ty_120 hS.1.1) (st_120_6 hS (by decide) (by omega) (Pm1.of hS.1.2.2.2.2 (fun _ => rd_wb _ rfl) (fun _ => rd_wb _ rfl) (fun _ => rd_wb _ rfl) (fun _ => rd_wb _ rfl) (fun _ => rd_wb _ rfl) (fun _ => rd_wb _ rfl) (fun _ => rd_wb _ rfl) (fun _ => rd_wb _ rfl) (fun _ => rd_wb _ rfl) (fun _ => rd_wb _ rfl) (rd_wb _ rfl) (rd_wb _ rfl) (rd_wb _ rfl) (rd_wb _ rfl) (rd_wb _ rfl) (rd_wb _ rfl) (rd_wb _ rfl) (rd_wb _ rfl) (rd_wb _ rfl) (rd_wb _ rfl) (rd_wb _ rfl))) (fun M133 hS w133 => ?_)
            refine Tr.aload_n (pc := 136) (i := 0) d_X12_next_136 rfl rfl ?_
            refine Tr.lconst (pc := 137) (v := 0) d_X12_next_137 rfl (by decide) ?_
            refine Tr.putfS (pc := 138) (P := St Pm1 ws_X12_next_120 as_X12_next_120 M0) d_X12_next_138 f_12_32 (by decide) (by decide) (ty_120 hS.1.1) (st_120_7 hS (by decide) (by omega) (Pm1.of hS.1.2.2.2.2 (fun _ => rd_wb _ rfl) (fun _ => rd_wb _ rfl) (fun _ => rd_wb _ rfl) (fun _ => rd_wb _ rfl) (fun _ => rd_wb _ rfl) (fun _ => rd_wb _ rfl) (fun _ => rd_wb _ rfl) (fun _ => rd_wb _ rfl) (fun _ => rd_wb _ rfl) (fun _ => rd_wb _ rfl) (rd_wb _ rfl) (rd_wb _ rfl) (rd_wb _ rfl) (rd_wb _ rfl) (rd_wb _ rfl) (rd_wb _ rfl) (rd_wb _ rfl) (rd_wb _ rfl) (rd_wb _ rfl) (rd_wb _ rfl) (rd_wb _ rfl))) (fun M138 hS w138 => ?_)
            refine Tr.aload_n (pc := 141) (i := 0) d_X12_next_141 rfl rfl ?_
            refine Tr.iconst (pc := 142) d_X12_next_142 (by decide) ?_
            refine Tr.putfS (pc := 143) (P := St Pm1 ws_X12_next_120 as_X12_next_120 M0) d_X12_next_143 f_12_20 (by decide) (by decide) (ty_120 hS.1.1) (st_120_3 hS (by decide) (by omega) (Pm1.of hS.1.2.2.2.2 (fun _ => rd_wb _ rfl) (fun _ => rd_wb _ rfl) (fun _ => rd_wb _ rfl) (fun _ => rd_wb _ rfl) (fun _ => rd_wb _ rfl) (fun _ => rd_wb _ rfl) (fun _ => rd_wb _ rfl) (fun _ => rd_wb _ rfl) (fun _ => rd_wb _ rfl) (fun _ => rd_wb _ rfl) (rd_wb _ rfl) (rd_wb _ rfl) (rd_wb _ rfl) (rd_wb _ rfl) (rd_wb _ rfl) (rd_wb _ rfl) (rd_wb _ rfl) (rd_wb _ rfl) (rd_wb _ rfl) (rd_wb _ rfl) (rd_wb _ rfl))) (fun M143 hS w143 => ?_)
            refine Tr.aload_n (pc := 146) (i := 0) d_X12_next_146 rfl rfl ?_
            refine Tr.iload_n (pc := 147) (i := 1) d_X12_next_147 rfl rfl ?_
            refine Tr.iconst (pc := 148) d_X12_next_148 (by decide) ?_
            refine Tr.iadd (pc := 149) d_X12_next_149 ?_
            refine Tr.tp (p5_1 + 1) ((w32_id (by and_intros <;> omega)).trans (by omega)) ?_
            refine Tr.putfS (pc := 150) (P := St Pm1 ws_X12_next_120 as_X12_next_120 M0) d_X12_next_150 f_12_26 (by decide) (by decide) (ty_120 hS.1.1) (st_120_5 hS (by decide) (by and_intros <;> omega) (Pm1.of hS.1.2.2.2.2 (fun _ => rd_wb _ rfl) (fun _ => rd_wb _ rfl) (fun _ => rd_wb _ rfl) (fun _ => rd_wb _ rfl) (fun _ => rd_wb _ rfl) (fun _ => rd_wb _ rfl) (fun _ => rd_wb _ rfl) (fun _ => rd_wb _ rfl) (fun _ => rd_wb _ rfl) (fun _ => rd_wb _ rfl) (rd_wb _ rfl) (rd_wb _ rfl) (rd_wb _ rfl) (rd_wb _ rfl) (rd_wb _ rfl) (rd_wb _ rfl) (rd_wb _ rfl) (rd_wb _ rfl) (rd_wb _ rfl) (rd_wb _ rfl) (rd_wb _ rfl))) (fun M150 hS w150 => ?_)
            refine Tr.iload_n (pc := 153) (i := 2) d_X12_next_153 rfl rfl ?_
            have J172 : ∀ (M : Mem) (u172_9010_0 : Int), St Pm1 ws_X12_next_120 as_X12_next_120 M0 M → ((-1) ≤ u172_9010_0 ∧ u172_9010_0 ≤ 1800) → rd M 120 2 = r7 → rd M 120 3 = 3 → rd M 120 4 = p5_1 → rd M 120 5 = (p5_1 + 1) → rd M 120 6 = 0 → rd M 120 7 = 0 → rd M 120 8 = u131_120_8 → rd M 121 p5_1 = r70 → tav M = u172_9010_0 → (g120_5 ≤ p5_1) → (p5_1 = p5_1) → (g120_8 = 0 ∨ u131_120_8 = g120_8) → ((r71 = 1 ∧ 97 ≤ rd M 121 p5_1 ∧ rd M 121 p5_1 ≤ 122) ∨ (r71 = 0 ∧ (rd M 121 p5_1 < 97 ∨ 122 < rd M 121 p5_1))) → ((r81 = 1 ∧ 48 ≤ rd M 121 p5_1 ∧ rd M 121 p5_1 ≤ 57) ∨ (r81 = 0 ∧ (rd M 121 p5_1 < 48 ∨ 57 < rd M 121 p5_1))) → (r71 = 1 ∨ r81 = 1) → Tr l K 1 mX12_next 172 [(0, (2, 120)), (1, (0, p5_1)), (2, (0, r71)), (3, (0, r81))] [] M (q_X12_next_120 M0) := by
              intro M u172_9010_0 hS bu172_9010_0 k172_120_2 k172_120_3 k172_120_4 k172_120_5 k172_120_6 k172_120_7 k172_120_8 k172_121_p5_110 k172_9010_0 t172_0 t172_1 t172_2 t172_3 t172_4 t172_5
              clear k131_120_2 k131_120_3 k131_120_4 k131_120_5 k131_120_7 k131_120_8 k131_121_p5_110 k131_9010_0 w133 w138 w143 w150
              replace t172_2 := hd_i t172_2
              replace t172_3 := hd_i t172_3
              replace t172_4 := hd_i t172_4
              replace t172_5 := hd_i t172_5
              refine Tr.aload_n (pc := 172) (i := 0) d_X12_next_172 rfl rfl ?_
              refine Tr.iload_n (pc := 173) (i := 2) d_X12_next_173 rfl rfl ?_
              have J182 : ∀ (M : Mem) (q182_1 : Int), St Pm1 ws_X12_next_120 as_X12_next_120 M0 M → (1 ≤ q182_1 ∧ q182_1 ≤ 2) → rd M 120 2 = r7 → rd M 120 3 = 3 → rd M 120 4 = p5_1 → rd M 120 5 = (p5_1 + 1) → rd M 120 6 = 0 → rd M 120 7 = 0 → rd M 120 8 = u131_120_8 → rd M 121 p5_1 = r70 → tav M = u172_9010_0 → (g120_5 ≤ p5_1) → (p5_1 = p5_1) → (g120_8 = 0 ∨ u131_120_8 = g120_8) → ((r71 = 1 ∧ 97 ≤ rd M 121 p5_1 ∧ rd M 121 p5_1 ≤ 122) ∨ (r71 = 0 ∧ (rd M 121 p5_1 < 97 ∨ 122 < rd M 121 p5_1))) → ((r81 = 1 ∧ 48 ≤ rd M 121 p5_1 ∧ rd M 121 p5_1 ≤ 57) ∨ (r81 = 0 ∧ (rd M 121 p5_1 < 48 ∨ 57 < rd M 121 p5_1))) → (r71 = 1 ∨ r81 = 1) → ((r71 = 1 ∧ q182_1 = 1) ∨ (r71 = 0 ∧ q182_1 = 2)) → Tr l K 1 mX12_next 182 [(0, (2, 120)), (1, (0, p5_1)), (2, (0, r71)), (3, (0, r81))] [(0, q182_1), (2, 120)] M (q_X12_next_120 M0) := by
                intro M q182_1 hS bq182_1 k182_120_2 k182_120_3 k182_120_4 k182_120_5 k182_120_6 k182_120_7 k182_120_8 k182_121_p5_110 k182_9010_0 t182_0 t182_1 t182_2 t182_3 t182_4 t182_5 t182_6
                clear k172_120_2 k172_120_3 k172_120_4 k172_120_5 k172_120_6 k172_120_7 k172_120_8 k172_121_p5_110 k172_9010_0
                replace t182_2 := hd_i t182_2
                replace t182_3 := hd_i t182_3
                replace t182_4 := hd_i t182_4
                replace t182_5 := hd_i t182_5
                replace t182_6 := hd_i t182_6
                refine Tr.putfS (pc := 182) (P := St Pm1 ws_X12_next_120 as_X12_next_120 M0) d_X12_next_182 f_12_20 (by decide) (by decide) (ty_120 hS.1.1) (st_120_3 hS (by decide) (by and_intros <;> omega) (Pm1.of hS.1.2.2.2.2 (fun _ => rd_wb _ rfl) (fun _ => rd_wb _ rfl) (fun _ => rd_wb _ rfl) (fun _ => rd_wb _ rfl) (fun _ => rd_wb _ rfl) (fun _ => rd_wb _ rfl) (fun _ => rd_wb _ rfl) (fun _ => rd_wb _ rfl) (fun _ => rd_wb _ rfl) (fun _ => rd_wb _ rfl) (rd_wb _ rfl) (rd_wb _ rfl) (rd_wb _ rfl) (rd_wb _ rfl) (rd_wb _ rfl) (rd_wb _ rfl) (rd_wb _ rfl) (rd_wb _ rfl) (rd_wb _ rfl) (rd_wb _ rfl) (rd_wb _ rfl))) (fun M182 hS w182 => ?_)
                refine Tr.iload_n (pc := 185) (i := 2) d_X12_next_185 rfl rfl ?_
                have J195 : ∀ (M : Mem) (q195_0 u195_9010_0 : Int), St Pm1 ws_X12_next_120 as_X12_next_120 M0 M → (4 ≤ q195_0 ∧ q195_0 ≤ 6) → ((-1) ≤ u195_9010_0 ∧ u195_9010_0 ≤ 1800) → rd M 120 2 = r7 → rd M 120 3 = q182_1 → rd M 120 4 = p5_1 → rd M 120 5 = (p5_1 + 1) → rd M 120 6 = 0 → rd M 120 7 = 0 → rd M 120 8 = u131_120_8 → rd M 121 p5_1 = r70 → tav M = u195_9010_0 → (g120_5 ≤ p5_1) → (p5_1 = p5_1) → (g120_8 = 0 ∨ u131_120_8 = g120_8) → ((r71 = 1 ∧ 97 ≤ rd M 121 p5_1 ∧ rd M 121 p5_1 ≤ 122) ∨ (r71 = 0 ∧ (rd M 121 p5_1 < 97 ∨ 122 < rd M 121 p5_1))) → ((r81 = 1 ∧ 48 ≤ rd M 121 p5_1 ∧ rd M 121 p5_1 ≤ 57) ∨ (r81 = 0 ∧ (rd M 121 p5_1 < 48 ∨ 57 < rd M 121 p5_1))) → (r71 = 1 ∨ r81 = 1) → ((r71 = 1 ∧ q195_0 = 6 ∧ q182_1 = 1) ∨ (r71 = 0 ∧ q195_0 = 4 ∧ q182_1 = 2)) → Tr l K 1 mX12_next 195 [(0, (2, 120)), (1, (0, p5_1)), (2, (0, r71)), (3, (0, r81))] [(0, q195_0)] M (q_X12_next_120 M0) := by
                  intro M q195_0 u195_9010_0 hS bq195_0 bu195_9010_0 k195_120_2 k195_120_3 k195_120_4 k195_120_5 k195_120_6 k195_120_7 k195_120_8 k195_121_p5_110 k195_9010_0 t195_0 t195_1 t195_2 t195_3 t195_4 t195_5 t195_6
                  clear k182_120_2 k182_120_3 k182_120_4 k182_120_5 k182_120_6 k182_120_7 k182_120_8 k182_121_p5_110 k182_9010_0 w182
                  replace t195_2 := hd_i t195_2
                  replace t195_3 := hd_i t195_3
                  replace t195_4 := hd_i t195_4
                  replace t195_5 := hd_i t195_5
                  replace t195_6 := hd_i t195_6
                  refine Tr.istore (pc := 195) (i := 4) (ls2 := [(4, (0, q195_0)), (0, (2, 120)), (1, (0, p5_1)), (2, (0, r71)), (3, (0, r81))]) d_X12_next_195 (by decide) rfl ?_
                  refine Tr.iconst (pc := 197) d_X12_next_197 (by decide) ?_
                  refine Tr.istore (pc := 198) (i := 5) (ls2 := [(5, (0, 0)), (4, (0, q195_0)), (0, (2, 120)), (1, (0, p5_1)), (2, (0, r71)), (3, (0, r81))]) d_X12_next_198 (by decide) rfl ?_
                  have J200 : ∀ (n200 : Nat) (M : Mem) (p200_1 p200_5 u200_120_7 u200_120_8 : Int), St Pm1 ws_X12_next_120 as_X12_next_120 M0 M → (0 ≤ p200_1 ∧ p200_1 ≤ 900) → (0 ≤ p200_5 ∧ p200_5 ≤ 2147483647) → ((-9223372036854775808) ≤ u200_120_7 ∧ u200_120_7 ≤ 9223372036854775807) → (0 ≤ u200_120_8 ∧ u200_120_8 ≤ 5) → rd M 120 2 = r7 → rd M 120 3 = q182_1 → rd M 120 4 = p5_1 → rd M 120 5 = (p5_1 + 1) → rd M 120 7 = u200_120_7 → rd M 120 8 = u200_120_8 → rd M 121 p5_1 = r70 → tav M = u195_9010_0 → (g120_5 ≤ p5_1) → (p200_1 = p5_1 + p200_5 ∧ 0 ≤ p200_5) → (g120_8 = 0 ∨ u200_120_8 = g120_8) → (q182_1 = 1 ∨ q182_1 = 2) → ((r71 = 1 ∧ q195_0 = 6 ∧ q182_1 = 1) ∨ (r71 = 0 ∧ q195_0 = 4 ∧ q182_1 = 2)) → (q182_1 ≠ 1 ∨ p200_5 ≥ 2 ∨ (p200_5 = 1 ∧ 0 ≤ u200_120_7 ∧ u200_120_7 < 256) ∨ (p200_5 = 0 ∧ u200_120_7 = 0)) → (p200_5 ≠ 0 ∨ (r71 = 1 ∧ 97 ≤ rd M 121 p200_1 ∧ rd M 121 p200_1 ≤ 122) ∨ (r71 = 0 ∧ 48 ≤ rd M 121 p200_1 ∧ rd M 121 p200_1 ≤ 57)) → (900 - p200_1).toNat < n200 → Tr l K 1 mX12_next 200 [(0, (2, 120)), (1, (0, p200_1)), (2, (0, r71)), (3, (0, r81)), (4, (0, q195_0)), (5, (0, p200_5))] [] M (q_X12_next_120 M0) := by
                    intro n200
                    induction n200 with
                    | zero => intro M p200_1 p200_5 u200_120_7 u200_120_8 hS bp200_1 bp200_5 bu200_120_7 bu200_120_8 k200_120_2 k200_120_3 k200_120_4 k200_120_5 k200_120_7 k200_120_8 k200_121_p5_110 k200_9010_0 t200_0 t200_1 t200_2 t200_3 t200_4 t200_5 t200_6 hm200; exact absurd hm200 (Nat.not_lt_zero _)
                    | succ n200 J200 =>
                      intro M p200_1 p200_5 u200_120_7 u200_120_8 hS bp200_1 bp200_5 bu200_120_7 bu200_120_8 k200_120_2 k200_120_3 k200_120_4 k200_120_5 k200_120_7 k200_120_8 k200_121_p5_110 k200_9010_0 t200_0 t200_1 t200_2 t200_3 t200_4 t200_5 t200_6 hm200
                      clear k195_120_2 k195_120_3 k195_120_4 k195_120_5 k195_120_6 k195_120_7 k195_120_8 k195_121_p5_110 k195_9010_0
                      replace t200_2 := hd_i t200_2
                      replace t200_3 := hd_i t200_3
                      replace t200_4 := hd_i t200_4
                      replace t200_5 := hd_i t200_5
                      replace t200_6 := hd_i t200_6
                      refine Tr.iload_n (pc := 200) (i := 1) d_X12_next_200 rfl rfl ?_
                      refine Tr.aload_n (pc := 201) (i := 0) d_X12_next_201 rfl rfl ?_
                      refine Tr.getf (pc := 202) d_X12_next_202 f_12_17 (by decide) (by decide) (ty_120 hS.1.1) ?_
                      refine Tr.tp r7 k200_120_2 ?_
                      refine Tr.icmp_ge (pc := 205) (tgt := 323) d_X12_next_205 rfl (fun c205 => ?_) (fun c205 => ?_)
                      · refine Tr.aload_n (pc := 323) (i := 0) d_X12_next_323 rfl rfl ?_
                        refine Tr.iload_n (pc := 324) (i := 1) d_X12_next_324 rfl rfl ?_
                        refine Tr.putfS (pc := 325) (P := St Pm1 ws_X12_next_120 as_X12_next_120 M0) d_X12_next_325 f_12_26 (by decide) (by decide) (ty_120 hS.1.1) (st_120_5 hS (by decide) (by and_intros <;> omega) (Pm1.of hS.1.2.2.2.2 (fun _ => rd_wb _ rfl) (fun _ => rd_wb _ rfl) (fun _ => rd_wb _ rfl) (fun _ => rd_wb _ rfl) (fun _ => rd_wb _ rfl) (fun _ => rd_wb _ rfl) (fun _ => rd_wb _ rfl) (fun _ => rd_wb _ rfl) (fun _ => rd_wb _ rfl) (fun _ => rd_wb _ rfl) (rd_wb _ rfl) (rd_wb _ rfl) (rd_wb _ rfl) (rd_wb _ rfl) (rd_wb _ rfl) (rd_wb _ rfl) (rd_wb _ rfl) (rd_wb _ rfl) (rd_wb _ rfl) (rd_wb _ rfl) (rd_wb _ rfl))) (fun M325 hS w325 => ?_)
                        obtain ⟨w328_9010_0, ew328_9010_0⟩ : ∃ v, tav M325 = v := ⟨_, rfl⟩
                        have bw328_9010_0 : (-1) ≤ w328_9010_0 ∧ w328_9010_0 ≤ 1800 := by rw [← ew328_9010_0]; exact (tav_b hS.1.2.1)
                        have jt := tav_c (w325.1) (((Wr.b w325 rfl).trans k200_120_3))
                        rw [ew328_9010_0] at jt
                        replace jt := hd_i jt
                        have kr_120_3 : rd M325 120 3 = q182_1 := ((Wr.b w325 rfl).trans k200_120_3)
                        have kr_120_4 : rd M325 120 4 = p5_1 := ((Wr.b w325 rfl).trans k200_120_4)
                        have kr_120_5 : rd M325 120 5 = p200_1 := w325.1
                        have kr_120_7 : rd M325 120 7 = u200_120_7 := ((Wr.b w325 rfl).trans k200_120_7)
                        have kr_120_8 : rd M325 120 8 = u200_120_8 := ((Wr.b w325 rfl).trans k200_120_8)
                        have kr_9010_0 : tav M325 = w328_9010_0 := ew328_9010_0
                        exact Tr.vret (pc := 328) d_X12_next_328 rfl ⟨hS, rfl, (by omega), (by omega), (by exact (hd_o t200_5).elim (fun h1 => (ne_o h1).elim (fun h2 => by omega) (fun h2 => by omega)) (fun h1 => h1.elim (fun h1 => by omega) (fun h1 => h1.elim (fun h1 => by omega) (fun h1 => by omega)))), (by omega), (by exact (hd_o jt).elim (fun h1 => by omega) (fun h1 => (hd_o jt0).elim (fun h2 => by omega) (fun h2 => by omega))), (by exact (hd_o jt).elim (fun h1 => by omega) (fun h1 => (hd_o jt0).elim (fun h2 => by omega) (fun h2 => by omega))), (by first | exact (hd_o t200_2) | exact (hd_o t200_2).elim (fun h1 => by omega) (fun h1 => by omega))⟩
                      · refine Tr.iload_n (pc := 208) (i := 2) d_X12_next_208 rfl rfl ?_
                        have J239 : ∀ (M : Mem), St Pm1 ws_X12_next_120 as_X12_next_120 M0 M → rd M 120 2 = r7 → rd M 120 3 = q182_1 → rd M 120 4 = p5_1 → rd M 120 5 = (p5_1 + 1) → rd M 120 7 = u200_120_7 → rd M 120 8 = u200_120_8 → rd M 121 p5_1 = r70 → tav M = u195_9010_0 → (g120_5 ≤ p5_1) → (p200_1 = p5_1 + p200_5 ∧ 0 ≤ p200_5) → (g120_8 = 0 ∨ u200_120_8 = g120_8) → (q182_1 = 1 ∨ q182_1 = 2) → ((r71 = 1 ∧ q195_0 = 6 ∧ q182_1 = 1) ∨ (r71 = 0 ∧ q195_0 = 4 ∧ q182_1 = 2)) → (q182_1 ≠ 1 ∨ p200_5 ≥ 2 ∨ (p200_5 = 1 ∧ 0 ≤ u200_120_7 ∧ u200_120_7 < 256) ∨ (p200_5 = 0 ∧ u200_120_7 = 0)) → (p200_5 ≠ 0 ∨ (r71 = 1 ∧ 97 ≤ rd M 121 p200_1 ∧ rd M 121 p200_1 ≤ 122) ∨ (r71 = 0 ∧ 48 ≤ rd M 121 p200_1 ∧ rd M 121 p200_1 ≤ 57)) → Tr l K 1 mX12_next 239 [(0, (2, 120)), (1, (0, p200_1)), (2, (0, r71)), (3, (0, r81)), (4, (0, q195_0)), (5, (0, p200_5))] [] M (q_X12_next_120 M0) := by
                          intro M  hS  k239_120_2 k239_120_3 k239_120_4 k239_120_5 k239_120_7 k239_120_8 k239_121_p5_110 k239_9010_0 t239_0 t239_1 t239_2 t239_3 t239_4 t239_5 t239_6
                          clear k200_120_2 k200_120_3 k200_120_4 k200_120_5 k200_120_7 k200_120_8 k200_121_p5_110 k200_9010_0
                          replace t239_2 := hd_i t239_2
                          replace t239_3 := hd_i t239_3
                          replace t239_4 := hd_i t239_4
                          replace t239_5 := hd_i t239_5
                          replace t239_6 := hd_i t239_6
                          refine Tr.iload (pc := 239) (i := 5) d_X12_next_239 rfl ?_
                          refine Tr.iload (pc := 241) (i := 4) d_X12_next_241 rfl ?_
                          have J252 : ∀ (M : Mem) (u252_120_8 : Int), St Pm1 ws_X12_next_120 as_X12_next_120 M0 M → (0 ≤ u252_120_8 ∧ u252_120_8 ≤ 5) → rd M 120 2 = r7 → rd M 120 3 = q182_1 → rd M 120 4 = p5_1 → rd M 120 5 = (p5_1 + 1) → rd M 120 7 = u200_120_7 → rd M 120 8 = u252_120_8 → rd M 121 p5_1 = r70 → tav M = u195_9010_0 → (g120_5 ≤ p5_1) → (p200_1 = p5_1 + p200_5 ∧ 0 ≤ p200_5) → (g120_8 = 0 ∨ u252_120_8 = g120_8) → (q182_1 = 1 ∨ q182_1 = 2) → ((r71 = 1 ∧ q195_0 = 6 ∧ q182_1 = 1) ∨ (r71 = 0 ∧ q195_0 = 4 ∧ q182_1 = 2)) → (q182_1 ≠ 1 ∨ p200_5 ≥ 2 ∨ (p200_5 = 1 ∧ 0 ≤ u200_120_7 ∧ u200_120_7 < 256) ∨ (p200_5 = 0 ∧ u200_120_7 = 0)) → (p200_5 ≠ 0 ∨ (r71 = 1 ∧ 97 ≤ rd M 121 p200_1 ∧ rd M 121 p200_1 ≤ 122) ∨ (r71 = 0 ∧ 48 ≤ rd M 121 p200_1 ∧ rd M 121 p200_1 ≤ 57)) → Tr l K 1 mX12_next 252 [(0, (2, 120)), (1, (0, p200_1)), (2, (0, r71)), (3, (0, r81)), (4, (0, q195_0)), (5, (0, p200_5))] [] M (q_X12_next_120 M0) := by
                            intro M u252_120_8 hS bu252_120_8 k252_120_2 k252_120_3 k252_120_4 k252_120_5 k252_120_7 k252_120_8 k252_121_p5_110 k252_9010_0 t252_0 t252_1 t252_2 t252_3 t252_4 t252_5 t252_6
                            clear k239_120_2 k239_120_3 k239_120_4 k239_120_5 k239_120_7 k239_120_8 k239_121_p5_110 k239_9010_0
                            replace t252_2 := hd_i t252_2
                            replace t252_3 := hd_i t252_3
                            replace t252_4 := hd_i t252_4
                            replace t252_5 := hd_i t252_5
                            replace t252_6 := hd_i t252_6
                            refine Tr.iload (pc := 252) (i := 5) d_X12_next_252 rfl ?_
                            refine Tr.iload (pc := 254) (i := 4) d_X12_next_254 rfl ?_
                            have J282 : ∀ (M : Mem) (u282_120_7 : Int), St Pm1 ws_X12_next_120 as_X12_next_120 M0 M → ((-9223372036854775808) ≤ u282_120_7 ∧ u282_120_7 ≤ 9223372036854775807) → rd M 120 2 = r7 → rd M 120 3 = q182_1 → rd M 120 4 = p5_1 → rd M 120 5 = (p5_1 + 1) → rd M 120 7 = u282_120_7 → rd M 120 8 = u252_120_8 → rd M 121 p5_1 = r70 → tav M = u195_9010_0 → (g120_5 ≤ p5_1) → (p200_1 = p5_1 + p200_5 ∧ 0 ≤ p200_5) → (g120_8 = 0 ∨ u252_120_8 = g120_8) → (q182_1 = 1 ∨ q182_1 = 2) → ((r71 = 1 ∧ q195_0 = 6 ∧ q182_1 = 1) ∨ (r71 = 0 ∧ q195_0 = 4 ∧ q182_1 = 2)) → (q182_1 ≠ 1 ∨ p200_5 ≥ 1 ∨ (0 ≤ u282_120_7 ∧ u282_120_7 < 256)) → Tr l K 1 mX12_next 282 [(0, (2, 120)), (1, (0, p200_1)), (2, (0, r71)), (3, (0, r81)), (4, (0, q195_0)), (5, (0, p200_5))] [] M (q_X12_next_120 M0) := by
                              intro M u282_120_7 hS bu282_120_7 k282_120_2 k282_120_3 k282_120_4 k282_120_5 k282_120_7 k282_120_8 k282_121_p5_110 k282_9010_0 t282_0 t282_1 t282_2 t282_3 t282_4 t282_5
                              clear k252_120_2 k252_120_3 k252_120_4 k252_120_5 k252_120_7 k252_120_8 k252_121_p5_110 k252_9010_0
                              replace t282_2 := hd_i t282_2
                              replace t282_3 := hd_i t282_3
                              replace t282_4 := hd_i t282_4
                              replace t282_5 := hd_i t282_5
                              refine Tr.iload (pc := 282) (i := 5) d_X12_next_282 rfl ?_
                              refine Tr.iload (pc := 284) (i := 4) d_X12_next_284 rfl ?_
                              have J314 : ∀ (M : Mem), St Pm1 ws_X12_next_120 as_X12_next_120 M0 M → rd M 120 2 = r7 → rd M 120 3 = q182_1 → rd M 120 4 = p5_1 → rd M 120 5 = (p5_1 + 1) → rd M 120 7 = u282_120_7 → rd M 120 8 = u252_120_8 → rd M 121 p5_1 = r70 → tav M = u195_9010_0 → (g120_5 ≤ p5_1) → (p200_1 = p5_1 + p200_5 ∧ 0 ≤ p200_5) → (g120_8 = 0 ∨ u252_120_8 = g120_8) → (q182_1 = 1 ∨ q182_1 = 2) → ((r71 = 1 ∧ q195_0 = 6 ∧ q182_1 = 1) ∨ (r71 = 0 ∧ q195_0 = 4 ∧ q182_1 = 2)) → (q182_1 ≠ 1 ∨ p200_5 ≥ 1 ∨ (0 ≤ u282_120_7 ∧ u282_120_7 < 256)) → Tr l K 1 mX12_next 314 [(0, (2, 120)), (1, (0, p200_1)), (2, (0, r71)), (3, (0, r81)), (4, (0, q195_0)), (5, (0, p200_5))] [] M (q_X12_next_120 M0) := by
                                intro M  hS  k314_120_2 k314_120_3 k314_120_4 k314_120_5 k314_120_7 k314_120_8 k314_121_p5_110 k314_9010_0 t314_0 t314_1 t314_2 t314_3 t314_4 t314_5
                                clear k282_120_2 k282_120_3 k282_120_4 k282_120_5 k282_120_7 k282_120_8 k282_121_p5_110 k282_9010_0
                                replace t314_2 := hd_i t314_2
                                replace t314_3 := hd_i t314_3
                                replace t314_4 := hd_i t314_4
                                replace t314_5 := hd_i t314_5
                                refine Tr.iincV (pc := 314) (n2 := (p200_5 + 1)) (ls2 := [(5, (0, (p200_5 + 1))), (0, (2, 120)), (1, (0, p200_1)), (2, (0, r71)), (3, (0, r81)), (4, (0, q195_0))]) d_X12_next_314 rfl (by decide) ((w32_id (by and_intros <;> omega)).trans (by omega)) rfl ?_
                                refine Tr.iincV (pc := 317) (n2 := (p200_1 + 1)) (ls2 := [(1, (0, (p200_1 + 1))), (5, (0, (p200_5 + 1))), (0, (2, 120)), (2, (0, r71)), (3, (0, r81)), (4, (0, q195_0))]) d_X12_next_317 rfl (by decide) ((w32_id (by and_intros <;> omega)).trans (by omega)) rfl ?_
                                refine Tr.goto (pc := 320) (tgt := 200) d_X12_next_320 rfl ?_
                                refine Tr.pick [2, 0, 3, 4, 5, 1] (ls2 := [(0, (2, 120)), (1, (0, (p200_1 + 1))), (2, (0, r71)), (3, (0, r81)), (4, (0, q195_0)), (5, (0, (p200_5 + 1)))]) rfl ?_
                                exact J200 _ _ _ _ _ hS (by and_intros <;> omega) (by and_intros <;> omega) (by omega) (by and_intros <;> omega) k314_120_2 k314_120_3 k314_120_4 k314_120_5 k314_120_7 k314_120_8 k314_121_p5_110 k314_9010_0 (by omega) (by and_intros <;> omega) (by first | exact (hd_o t314_2) | exact (hd_o t314_2).elim (fun h1 => by omega) (fun h1 => by omega)) (by first | exact (hd_o t314_3) | exact (hd_o t314_3).elim (fun h1 => by omega) (fun h1 => by omega)) (by first | exact (hd_o t314_4) | exact (hd_o t314_4).elim (fun h1 => by omega) (fun h1 => by omega)) (by exact (hd_o t314_5).elim (fun h1 => (ne_o h1).elim (fun h2 => by omega) (fun h2 => by omega)) (fun h1 => h1.elim (fun h1 => by omega) (fun h1 => by omega))) (by omega) (me_lt hm200 (by omega) (by omega))
                              refine Tr.icmp_ge (pc := 286) (tgt := 314) d_X12_next_286 rfl (fun c286 => ?_) (fun c286 => ?_)
                              · refine Tr.pick [0, 1, 2, 3, 4, 5] (ls2 := [(0, (2, 120)), (1, (0, p200_1)), (2, (0, r71)), (3, (0, r81)), (4, (0, q195_0)), (5, (0, p200_5))]) rfl ?_
                                exact J314 _ hS k282_120_2 k282_120_3 k282_120_4 k282_120_5 k282_120_7 k282_120_8 k282_121_p5_110 k282_9010_0 (by omega) (by and_intros <;> omega) (by first | exact (hd_o t282_2) | exact (hd_o t282_2).elim (fun h1 => by omega) (fun h1 => by omega)) (by first | exact (hd_o t282_3) | exact (hd_o t282_3).elim (fun h1 => by omega) (fun h1 => by omega)) (by first | exact (hd_o t282_4) | exact (hd_o t282_4).elim (fun h1 => by omega) (fun h1 => by omega)) (by first | exact (hd_o t282_5) | exact (hd_o t282_5).elim (fun h1 => by omega) (fun h1 => h1.elim (fun h1 => by omega) (fun h1 => by omega)))
                              · refine Tr.iload_n (pc := 289) (i := 3) d_X12_next_289 rfl rfl ?_
                                refine Tr.if_eq (pc := 290) (tgt := 314) d_X12_next_290 rfl (fun c290 => ?_) (fun c290 => ?_)
                                · refine Tr.pick [0, 1, 2, 3, 4, 5] (ls2 := [(0, (2, 120)), (1, (0, p200_1)), (2, (0, r71)), (3, (0, r81)), (4, (0, q195_0)), (5, (0, p200_5))]) rfl ?_
                                  exact J314 _ hS k282_120_2 k282_120_3 k282_120_4 k282_120_5 k282_120_7 k282_120_8 k282_121_p5_110 k282_9010_0 (by omega) (by and_intros <;> omega) (by first | exact (hd_o t282_2) | exact (hd_o t282_2).elim (fun h1 => by omega) (fun h1 => by omega)) (by first | exact (hd_o t282_3) | exact (hd_o t282_3).elim (fun h1 => by omega) (fun h1 => by omega)) (by first | exact (hd_o t282_4) | exact (hd_o t282_4).elim (fun h1 => by omega) (fun h1 => by omega)) (by first | exact (hd_o t282_5) | exact (hd_o t282_5).elim (fun h1 => by omega) (fun h1 => h1.elim (fun h1 => by omega) (fun h1 => by omega)))
                                · have c290b : 1 ≤ r81 ∧ r81 ≤ 1 := by omega
                                  replace c290 := hd_i c290
                                  refine Tr.aload_n (pc := 293) (i := 0) d_X12_next_293 rfl rfl ?_
                                  refine Tr.bipush (pc := 294) d_X12_next_294 rfl (by decide) ?_
                                  refine Tr.aload_n (pc := 296) (i := 0) d_X12_next_296 rfl rfl ?_
                                  refine Tr.getf (pc := 297) d_X12_next_297 f_12_29 (by decide) (by decide) (ty_120 hS.1.1) ?_
                                  refine Tr.gen (P := fun v => (-2147483648) ≤ v ∧ v ≤ 2147483647) (ir_120_6 hS.1.2.1) (fun r297 er297 br297 => ?_)
                                  refine Tr.imul (pc := 300) d_X12_next_300 ?_
                                  refine Tr.gen (P := fun v => (-2147483648) ≤ v ∧ v ≤ 2147483647) (w32_b _) (fun r300 er300 br300 => ?_)
                                  refine Tr.aload_n (pc := 301) (i := 0) d_X12_next_301 rfl rfl ?_
                                  refine Tr.getf (pc := 302) d_X12_next_302 f_12_7 (by decide) (by decide) (ty_120 hS.1.1) ?_
                                  refine Tr.tp 121 (fx_120_0 hS.1.1) ?_
                                  refine Tr.iload_n (pc := 305) (i := 1) d_X12_next_305 rfl rfl ?_
                                  refine Tr.iald (pc := 306) d_X12_next_306 (ty_121 hS.1.1) (by omega) (by omega) ?_
                                  refine Tr.gen (P := fun v => (-2147483648) ≤ v ∧ v ≤ 2147483647) (ar_121 hS.1.2.1 _) (fun r306 er306 br306 => ?_)
                                  refine Tr.iadd (pc := 307) d_X12_next_307 ?_
                                  refine Tr.gen (P := fun v => (-2147483648) ≤ v ∧ v ≤ 2147483647) (w32_b _) (fun r307 er307 br307 => ?_)
                                  refine Tr.bipush (pc := 308) d_X12_next_308 rfl (by decide) ?_
                                  refine Tr.isub (pc := 310) d_X12_next_310 ?_
                                  refine Tr.gen (P := fun v => (-2147483648) ≤ v ∧ v ≤ 2147483647) (w32_b _) (fun r310 er310 br310 => ?_)
                                  refine Tr.putfS (pc := 311) (P := St Pm1 ws_X12_next_120 as_X12_next_120 M0) d_X12_next_311 f_12_29 (by decide) (by decide) (ty_120 hS.1.1) (st_120_6 hS (by decide) (by and_intros <;> omega) (Pm1.of hS.1.2.2.2.2 (fun _ => rd_wb _ rfl) (fun _ => rd_wb _ rfl) (fun _ => rd_wb _ rfl) (fun _ => rd_wb _ rfl) (fun _ => rd_wb _ rfl) (fun _ => rd_wb _ rfl) (fun _ => rd_wb _ rfl) (fun _ => rd_wb _ rfl) (fun _ => rd_wb _ rfl) (fun _ => rd_wb _ rfl) (rd_wb _ rfl) (rd_wb _ rfl) (rd_wb _ rfl) (rd_wb _ rfl) (rd_wb _ rfl) (rd_wb _ rfl) (rd_wb _ rfl) (rd_wb _ rfl) (rd_wb _ rfl) (rd_wb _ rfl) (rd_wb _ rfl))) (fun M311 hS w311 => ?_)
                                  refine Tr.pick [0, 1, 2, 3, 4, 5] (ls2 := [(0, (2, 120)), (1, (0, p200_1)), (2, (0, r71)), (3, (0, r81)), (4, (0, q195_0)), (5, (0, p200_5))]) rfl ?_
                                  exact J314 _ hS ((Wr.b w311 rfl).trans k282_120_2) ((Wr.b w311 rfl).trans k282_120_3) ((Wr.b w311 rfl).trans k282_120_4) ((Wr.b w311 rfl).trans k282_120_5) ((Wr.b w311 rfl).trans k282_120_7) ((Wr.b w311 rfl).trans k282_120_8) ((Wr.b w311 rfl).trans k282_121_p5_110) ((tav_of ((Wr.b w311 rfl).trans rfl) ((Wr.b w311 rfl).trans rfl)).trans k282_9010_0) (by omega) (by and_intros <;> omega) (by first | exact (hd_o t282_2) | exact (hd_o t282_2).elim (fun h1 => by omega) (fun h1 => by omega)) (by first | exact (hd_o t282_3) | exact (hd_o t282_3).elim (fun h1 => by omega) (fun h1 => by omega)) (by first | exact (hd_o t282_4) | exact (hd_o t282_4).elim (fun h1 => by omega) (fun h1 => by omega)) (by first | exact (hd_o t282_5) | exact (hd_o t282_5).elim (fun h1 => by omega) (fun h1 => h1.elim (fun h1 => by omega) (fun h1 => by omega)))
                            refine Tr.icmp_ge (pc := 256) (tgt := 282) d_X12_next_256 rfl (fun c256 => ?_) (fun c256 => ?_)
                            · refine Tr.pick [0, 1, 2, 3, 4, 5] (ls2 := [(0, (2, 120)), (1, (0, p200_1)), (2, (0, r71)), (3, (0, r81)), (4, (0, q195_0)), (5, (0, p200_5))]) rfl ?_
                              exact J282 _ _ hS (by omega) k252_120_2 k252_120_3 k252_120_4 k252_120_5 k252_120_7 k252_120_8 k252_121_p5_110 k252_9010_0 (by omega) (by and_intros <;> omega) (by first | exact (hd_o t252_2) | exact (hd_o t252_2).elim (fun h1 => by omega) (fun h1 => by omega)) (by first | exact (hd_o t252_3) | exact (hd_o t252_3).elim (fun h1 => by omega) (fun h1 => by omega)) (by first | exact (hd_o t252_4) | exact (hd_o t252_4).elim (fun h1 => by omega) (fun h1 => by omega)) (by omega)
                            · refine Tr.iload_n (pc := 259) (i := 2) d_X12_next_259 rfl rfl ?_
                              refine Tr.if_eq (pc := 260) (tgt := 282) d_X12_next_260 rfl (fun c260 => ?_) (fun c260 => ?_)
                              · refine Tr.pick [0, 1, 2, 3, 4, 5] (ls2 := [(0, (2, 120)), (1, (0, p200_1)), (2, (0, r71)), (3, (0, r81)), (4, (0, q195_0)), (5, (0, p200_5))]) rfl ?_
                                exact J282 _ _ hS (by omega) k252_120_2 k252_120_3 k252_120_4 k252_120_5 k252_120_7 k252_120_8 k252_121_p5_110 k252_9010_0 (by omega) (by and_intros <;> omega) (by first | exact (hd_o t252_2) | exact (hd_o t252_2).elim (fun h1 => by omega) (fun h1 => by omega)) (by first | exact (hd_o t252_3) | exact (hd_o t252_3).elim (fun h1 => by omega) (fun h1 => by omega)) (by first | exact (hd_o t252_4) | exact (hd_o t252_4).elim (fun h1 => by omega) (fun h1 => by omega)) (by exact (hd_o t252_4).elim (fun h1 => by omega) (fun h1 => by omega))
                              · have c260b : 1 ≤ r71 ∧ r71 ≤ 1 := by omega
                                replace c260 := hd_i c260
                                refine Tr.aload_n (pc := 263) (i := 0) d_X12_next_263 rfl rfl ?_
                                refine Tr.aload_n (pc := 264) (i := 0) d_X12_next_264 rfl rfl ?_
                                refine Tr.getf (pc := 265) d_X12_next_265 f_12_32 (by decide) (by decide) (ty_120 hS.1.1) ?_
                                refine Tr.tp u200_120_7 k252_120_7 ?_
                                refine Tr.bipush (pc := 268) d_X12_next_268 rfl (by decide) ?_
                                refine Tr.lshl (pc := 270) d_X12_next_270 ?_
                                refine Tr.gen (P := fun v => ((-9223372036854775808) ≤ v ∧ v ≤ 9223372036854775807) ∧ (u200_120_7 ≠ 0 ∨ v = 0)) (lshl_z _ _) (fun r270 er270 br270 => ?_)
                                have br270d0 := hd_i br270.2
                                replace br270 := And.intro br270.1.1  (br270.1.2)
                                refine Tr.aload_n (pc := 271) (i := 0) d_X12_next_271 rfl rfl ?_
                                refine Tr.getf (pc := 272) d_X12_next_272 f_12_7 (by decide) (by decide) (ty_120 hS.1.1) ?_
                                refine Tr.tp 121 (fx_120_0 hS.1.1) ?_
                                refine Tr.iload_n (pc := 275) (i := 1) d_X12_next_275 rfl rfl ?_
                                refine Tr.iald (pc := 276) d_X12_next_276 (ty_121 hS.1.1) (by omega) (by omega) ?_
                                refine Tr.gen (P := fun v => (-2147483648) ≤ v ∧ v ≤ 2147483647) (ar_121 hS.1.2.1 _) (fun r276 er276 br276 => ?_)
                                refine Tr.i2l (pc := 277) d_X12_next_277 ?_
                                refine Tr.lor (pc := 278) d_X12_next_278 ?_
                                refine Tr.gen (P := fun v => ((-9223372036854775808) ≤ v ∧ v ≤ 9223372036854775807) ∧ (r270 ≠ 0 ∨ v = r276)) (lor_z _ (by omega)) (fun r278 er278 br278 => ?_)
                                have br278d0 := hd_i br278.2
                                replace br278 := And.intro br278.1.1  (br278.1.2)
                                refine Tr.putfS (pc := 279) (P := St Pm1 ws_X12_next_120 as_X12_next_120 M0) d_X12_next_279 f_12_32 (by decide) (by decide) (ty_120 hS.1.1) (st_120_7 hS (by decide) (by omega) (Pm1.of hS.1.2.2.2.2 (fun _ => rd_wb _ rfl) (fun _ => rd_wb _ rfl) (fun _ => rd_wb _ rfl) (fun _ => rd_wb _ rfl) (fun _ => rd_wb _ rfl) (fun _ => rd_wb _ rfl) (fun _ => rd_wb _ rfl) (fun _ => rd_wb _ rfl) (fun _ => rd_wb _ rfl) (fun _ => rd_wb _ rfl) (rd_wb _ rfl) (rd_wb _ rfl) (rd_wb _ rfl) (rd_wb _ rfl) (rd_wb _ rfl) (rd_wb _ rfl) (rd_wb _ rfl) (rd_wb _ rfl) (rd_wb _ rfl) (rd_wb _ rfl) (rd_wb _ rfl))) (fun M279 hS w279 => ?_)
                                refine Tr.pick [0, 1, 2, 3, 4, 5] (ls2 := [(0, (2, 120)), (1, (0, p200_1)), (2, (0, r71)), (3, (0, r81)), (4, (0, q195_0)), (5, (0, p200_5))]) rfl ?_
                                exact J282 _ _ hS (by omega) ((Wr.b w279 rfl).trans k252_120_2) ((Wr.b w279 rfl).trans k252_120_3) ((Wr.b w279 rfl).trans k252_120_4) ((Wr.b w279 rfl).trans k252_120_5) w279.1 ((Wr.b w279 rfl).trans k252_120_8) ((Wr.b w279 rfl).trans k252_121_p5_110) ((tav_of ((Wr.b w279 rfl).trans rfl) ((Wr.b w279 rfl).trans rfl)).trans k252_9010_0) (by omega) (by and_intros <;> omega) (by first | exact (hd_o t252_2) | exact (hd_o t252_2).elim (fun h1 => by omega) (fun h1 => by omega)) (by first | exact (hd_o t252_3) | exact (hd_o t252_3).elim (fun h1 => by omega) (fun h1 => by omega)) (by first | exact (hd_o t252_4) | exact (hd_o t252_4).elim (fun h1 => by omega) (fun h1 => by omega)) (by exact (hd_o br278d0).elim (fun h1 => (ne_o h1).elim (fun h2 => (hd_o br270d0).elim (fun h3 => (ne_o h3).elim (fun h4 => (hd_o t252_5).elim (fun h5 => (ne_o h5).elim (fun h6 => by omega) (fun h6 => by omega)) (fun h5 => h5.elim (fun h5 => by omega) (fun h5 => h5.elim (fun h5 => by omega) (fun h5 => by omega)))) (fun h4 => (hd_o t252_5).elim (fun h5 => (ne_o h5).elim (fun h6 => by omega) (fun h6 => by omega)) (fun h5 => h5.elim (fun h5 => by omega) (fun h5 => h5.elim (fun h5 => by omega) (fun h5 => by omega))))) (fun h3 => by omega)) (fun h2 => (hd_o br270d0).elim (fun h3 => (ne_o h3).elim (fun h4 => (hd_o t252_5).elim (fun h5 => (ne_o h5).elim (fun h6 => by omega) (fun h6 => by omega)) (fun h5 => h5.elim (fun h5 => by omega) (fun h5 => h5.elim (fun h5 => by omega) (fun h5 => by omega)))) (fun h4 => (hd_o t252_5).elim (fun h5 => (ne_o h5).elim (fun h6 => by omega) (fun h6 => by omega)) (fun h5 => h5.elim (fun h5 => by omega) (fun h5 => h5.elim (fun h5 => by omega) (fun h5 => by omega))))) (fun h3 => by omega))) (fun h1 => (hd_o t252_6).elim (fun h2 => (ne_o h2).elim (fun h3 => by omega) (fun h3 => by omega)) (fun h2 => h2.elim (fun h2 => by omega) (fun h2 => by omega))))
                          refine Tr.icmp_ne (pc := 243) (tgt := 252) d_X12_next_243 rfl (fun c243 => ?_) (fun c243 => ?_)
                          · replace c243 := hd_i c243
                            refine Tr.pick [0, 1, 2, 3, 4, 5] (ls2 := [(0, (2, 120)), (1, (0, p200_1)), (2, (0, r71)), (3, (0, r81)), (4, (0, q195_0)), (5, (0, p200_5))]) rfl ?_
                            exact J252 _ _ hS (by and_intros <;> omega) k239_120_2 k239_120_3 k239_120_4 k239_120_5 k239_120_7 k239_120_8 k239_121_p5_110 k239_9010_0 (by omega) (by and_intros <;> omega) (by first | exact (hd_o t239_2) | exact (hd_o t239_2).elim (fun h1 => by omega) (fun h1 => by omega)) (by first | exact (hd_o t239_3) | exact (hd_o t239_3).elim (fun h1 => by omega) (fun h1 => by omega)) (by first | exact (hd_o t239_4) | exact (hd_o t239_4).elim (fun h1 => by omega) (fun h1 => by omega)) (by first | exact (hd_o t239_5) | exact (hd_o t239_5).elim (fun h1 => by omega) (fun h1 => h1.elim (fun h1 => by omega) (fun h1 => h1.elim (fun h1 => by omega) (fun h1 => by omega)))) (by first | exact (hd_o t239_6) | exact (hd_o t239_6).elim (fun h1 => by omega) (fun h1 => h1.elim (fun h1 => by omega) (fun h1 => by omega)))
                          · refine Tr.aload_n (pc := 246) (i := 0) d_X12_next_246 rfl rfl ?_
                            refine Tr.iconst (pc := 247) d_X12_next_247 (by decide) ?_
                            refine Tr.iload_n (pc := 248) (i := 1) d_X12_next_248 rfl rfl ?_
                            refine Tr.callV (pc := 249) (as := [_, _]) d_X12_next_249 s_12_389 ok_X12_blame rfl rfl (Nat.le_of_ble_eq_true rfl) (Nat.le_of_ble_eq_true rfl) (by decide) (ty_120 hS.1.1) ?_
                            refine Tr.imp (Tr.deep (by decide) (ns_X12_blame_120 (G120_8 := u200_120_8) hS.1 (k239_120_8) 1 (by omega) p200_1 (by and_intros <;> omega))) ?_
                            rintro M249 _ ⟨h249, s249_120_8, es249_120_8, bs249_120_8, rfl, z249_0⟩
                            have hS := St.tr hS h249 (by decide) (by decide)
                            refine Tr.sc [] rfl ?_
                            refine Tr.pick [0, 1, 2, 3, 4, 5] (ls2 := [(0, (2, 120)), (1, (0, p200_1)), (2, (0, r71)), (3, (0, r81)), (4, (0, q195_0)), (5, (0, p200_5))]) rfl ?_
                            exact J252 _ _ hS (by and_intros <;> omega) ((kp_X12_blame_120_120_2 h249).trans k239_120_2) ((kp_X12_blame_120_120_3 h249).trans k239_120_3) ((kp_X12_blame_120_120_4 h249).trans k239_120_4) ((kp_X12_blame_120_120_5 h249).trans k239_120_5) ((kp_X12_blame_120_120_7 h249).trans k239_120_7) es249_120_8 ((ka_X12_blame_120_121 h249 _).trans k239_121_p5_110) ((tav_of ((kp_X12_blame_120_120_5 h249).trans rfl) ((kp_X12_blame_120_120_3 h249).trans rfl)).trans k239_9010_0) (by omega) (by and_intros <;> omega) (by exact (hd_o t239_2).elim (fun h1 => by omega) (fun h1 => (hd_o z249_0).elim (fun h2 => by omega) (fun h2 => by omega))) (by first | exact (hd_o t239_3) | exact (hd_o t239_3).elim (fun h1 => by omega) (fun h1 => by omega)) (by first | exact (hd_o t239_4) | exact (hd_o t239_4).elim (fun h1 => by omega) (fun h1 => by omega)) (by first | exact (hd_o t239_5) | exact (hd_o t239_5).elim (fun h1 => by omega) (fun h1 => h1.elim (fun h1 => by omega) (fun h1 => h1.elim (fun h1 => by omega) (fun h1 => by omega)))) (by omega)
                        refine Tr.if_eq (pc := 209) (tgt := 227) d_X12_next_209 rfl (fun c209 => ?_) (fun c209 => ?_)
                        · refine Tr.aload_n (pc := 227) (i := 0) d_X12_next_227 rfl rfl ?_
                          refine Tr.getf (pc := 228) d_X12_next_228 f_12_7 (by decide) (by decide) (ty_120 hS.1.1) ?_
                          refine Tr.tp 121 (fx_120_0 hS.1.1) ?_
                          refine Tr.iload_n (pc := 231) (i := 1) d_X12_next_231 rfl rfl ?_
                          refine Tr.iald (pc := 232) d_X12_next_232 (ty_121 hS.1.1) (by omega) (by omega) ?_
                          refine Tr.gen (P := fun v => (-2147483648) ≤ v ∧ v ≤ 2147483647) (ar_121 hS.1.2.1 _) (fun r232 er232 br232 => ?_)
                          refine Tr.callS (pc := 233) (as := [_]) d_X12_next_233 s_12_386 ok_X12_isDigit rfl rfl (Nat.le_of_ble_eq_true rfl) (Nat.le_of_ble_eq_true rfl) ?_
                          refine Tr.imp (Tr.deep (by decide) (sp_X12_isDigit hS.1.wk r232 (by and_intros <;> omega))) ?_
                          rintro M233 _ ⟨h233, r233, rfl, lr233, ur233, wr233⟩
                          have h233 := St.rn h233 (Pm1.of hS.1.2.2.2.2 (fun _ => (ka_X12_isDigit_131 h233 _)) (fun _ => (ka_X12_isDigit_137 h233 _)) (fun _ => (ka_X12_isDigit_138 h233 _)) (fun _ => (ka_X12_isDigit_139 h233 _)) (fun _ => (ka_X12_isDigit_140 h233 _)) (fun _ => (ka_X12_isDigit_141 h233 _)) (fun _ => (ka_X12_isDigit_142 h233 _)) (fun _ => (ka_X12_isDigit_143 h233 _)) (fun _ => (ka_X12_isDigit_151 h233 _)) (fun _ => (ka_X12_isDigit_152 h233 _)) (kp_X12_isDigit_126_0 h233) (kp_X12_isDigit_126_1 h233) (kp_X12_isDigit_136_0 h233) (kp_X12_isDigit_136_1 h233) (kp_X12_isDigit_123_0 h233) (kp_X12_isDigit_123_1 h233) (kp_X12_isDigit_124_0 h233) (kp_X12_isDigit_124_1 h233) (kp_X12_isDigit_120_8 h233) (kp_X12_isDigit_120_36 h233) (kp_X12_isDigit_120_50 h233))
                          have hS := St.tr hS h233 (by decide) (by decide)
                          replace wr233 := hd_i wr233
                          refine Tr.sc [(0, r233)] rfl ?_
                          refine Tr.if_eq (pc := 236) (tgt := 323) d_X12_next_236 rfl (fun c236 => ?_) (fun c236 => ?_)
                          · refine Tr.aload_n (pc := 323) (i := 0) d_X12_next_323 rfl rfl ?_
                            refine Tr.iload_n (pc := 324) (i := 1) d_X12_next_324 rfl rfl ?_
                            refine Tr.putfS (pc := 325) (P := St Pm1 ws_X12_next_120 as_X12_next_120 M0) d_X12_next_325 f_12_26 (by decide) (by decide) (ty_120 hS.1.1) (st_120_5 hS (by decide) (by and_intros <;> omega) (Pm1.of hS.1.2.2.2.2 (fun _ => rd_wb _ rfl) (fun _ => rd_wb _ rfl) (fun _ => rd_wb _ rfl) (fun _ => rd_wb _ rfl) (fun _ => rd_wb _ rfl) (fun _ => rd_wb _ rfl) (fun _ => rd_wb _ rfl) (fun _ => rd_wb _ rfl) (fun _ => rd_wb _ rfl) (fun _ => rd_wb _ rfl) (rd_wb _ rfl) (rd_wb _ rfl) (rd_wb _ rfl) (rd_wb _ rfl) (rd_wb _ rfl) (rd_wb _ rfl) (rd_wb _ rfl) (rd_wb _ rfl) (rd_wb _ rfl) (rd_wb _ rfl) (rd_wb _ rfl))) (fun M325 hS w325 => ?_)
                            obtain ⟨w328_9010_0, ew328_9010_0⟩ : ∃ v, tav M325 = v := ⟨_, rfl⟩
                            have bw328_9010_0 : (-1) ≤ w328_9010_0 ∧ w328_9010_0 ≤ 1800 := by rw [← ew328_9010_0]; exact (tav_b hS.1.2.1)
                            have jt := tav_c (w325.1) (((Wr.b w325 rfl).trans ((kp_X12_isDigit_120_3 h233).trans k200_120_3)))
                            rw [ew328_9010_0] at jt
                            replace jt := hd_i jt
                            have kr_120_3 : rd M325 120 3 = q182_1 := ((Wr.b w325 rfl).trans ((kp_X12_isDigit_120_3 h233).trans k200_120_3))
                            have kr_120_4 : rd M325 120 4 = p5_1 := ((Wr.b w325 rfl).trans ((kp_X12_isDigit_120_4 h233).trans k200_120_4))
                            have kr_120_5 : rd M325 120 5 = p200_1 := w325.1
                            have kr_120_7 : rd M325 120 7 = u200_120_7 := ((Wr.b w325 rfl).trans ((kp_X12_isDigit_120_7 h233).trans k200_120_7))
                            have kr_120_8 : rd M325 120 8 = u200_120_8 := ((Wr.b w325 rfl).trans ((kp_X12_isDigit_120_8 h233).trans k200_120_8))
                            have kr_9010_0 : tav M325 = w328_9010_0 := ew328_9010_0
                            exact Tr.vret (pc := 328) d_X12_next_328 rfl ⟨hS, rfl, (by exact (hd_o t200_6).elim (fun h1 => (ne_o h1).elim (fun h2 => by omega) (fun h2 => by omega)) (fun h1 => h1.elim (fun h1 => by omega) (fun h1 => (hd_o wr233).elim (fun h2 => by omega) (fun h2 => h2.2.elim (fun h3 => by omega) (fun h3 => by omega))))), (by omega), (by exact (hd_o t200_4).elim (fun h1 => by omega) (fun h1 => by omega)), (by omega), (by exact (hd_o jt0).elim (fun h1 => (hd_o jt).elim (fun h2 => by omega) (fun h2 => (hd_o t200_6).elim (fun h3 => (ne_o h3).elim (fun h4 => by omega) (fun h4 => by omega)) (fun h3 => h3.elim (fun h3 => by omega) (fun h3 => (hd_o wr233).elim (fun h4 => by omega) (fun h4 => h4.2.elim (fun h5 => by omega) (fun h5 => by omega)))))) (fun h1 => (hd_o jt).elim (fun h2 => by omega) (fun h2 => by omega))), (by exact (hd_o jt0).elim (fun h1 => by omega) (fun h1 => (hd_o jt).elim (fun h2 => by omega) (fun h2 => (hd_o t200_6).elim (fun h3 => (ne_o h3).elim (fun h4 => by omega) (fun h4 => by omega)) (fun h3 => h3.elim (fun h3 => by omega) (fun h3 => (hd_o wr233).elim (fun h4 => by omega) (fun h4 => h4.2.elim (fun h5 => by omega) (fun h5 => by omega))))))), (by first | exact (hd_o t200_2) | exact (hd_o t200_2).elim (fun h1 => by omega) (fun h1 => by omega))⟩
                          · have c236b : 1 ≤ r233 ∧ r233 ≤ 1 := by omega
                            replace c236 := hd_i c236
                            refine Tr.pick [0, 1, 2, 3, 4, 5] (ls2 := [(0, (2, 120)), (1, (0, p200_1)), (2, (0, r71)), (3, (0, r81)), (4, (0, q195_0)), (5, (0, p200_5))]) rfl ?_
                            have jr239_0 : rd M233 121 p200_1 = r232 := ((ka_X12_isDigit_121 h233 _).trans er232)
                            exact J239 _ hS ((kp_X12_isDigit_120_2 h233).trans k200_120_2) ((kp_X12_isDigit_120_3 h233).trans k200_120_3) ((kp_X12_isDigit_120_4 h233).trans k200_120_4) ((kp_X12_isDigit_120_5 h233).trans k200_120_5) ((kp_X12_isDigit_120_7 h233).trans k200_120_7) ((kp_X12_isDigit_120_8 h233).trans k200_120_8) ((ka_X12_isDigit_121 h233 _).trans k200_121_p5_110) ((tav_of ((kp_X12_isDigit_120_5 h233).trans rfl) ((kp_X12_isDigit_120_3 h233).trans rfl)).trans k200_9010_0) (by omega) (by and_intros <;> omega) (by first | exact (hd_o t200_2) | exact (hd_o t200_2).elim (fun h1 => by omega) (fun h1 => by omega)) (by first | exact (hd_o t200_3) | exact (hd_o t200_3).elim (fun h1 => by omega) (fun h1 => by omega)) (by first | exact (hd_o t200_4) | exact (hd_o t200_4).elim (fun h1 => by omega) (fun h1 => by omega)) (by first | exact (hd_o t200_5) | exact (hd_o t200_5).elim (fun h1 => by omega) (fun h1 => h1.elim (fun h1 => by omega) (fun h1 => h1.elim (fun h1 => by omega) (fun h1 => by omega)))) (by exact (hd_o wr233).elim (fun h1 => by omega) (fun h1 => by omega))
                        · have c209b : 1 ≤ r71 ∧ r71 ≤ 1 := by omega
                          replace c209 := hd_i c209
                          refine Tr.aload_n (pc := 212) (i := 0) d_X12_next_212 rfl rfl ?_
                          refine Tr.getf (pc := 213) d_X12_next_213 f_12_7 (by decide) (by decide) (ty_120 hS.1.1) ?_
                          refine Tr.tp 121 (fx_120_0 hS.1.1) ?_
                          refine Tr.iload_n (pc := 216) (i := 1) d_X12_next_216 rfl rfl ?_
                          refine Tr.iald (pc := 217) d_X12_next_217 (ty_121 hS.1.1) (by omega) (by omega) ?_
                          refine Tr.gen (P := fun v => (-2147483648) ≤ v ∧ v ≤ 2147483647) (ar_121 hS.1.2.1 _) (fun r217 er217 br217 => ?_)
                          refine Tr.callS (pc := 218) (as := [_]) d_X12_next_218 s_12_382 ok_X12_isLetter rfl rfl (Nat.le_of_ble_eq_true rfl) (Nat.le_of_ble_eq_true rfl) ?_
                          refine Tr.imp (Tr.deep (by decide) (sp_X12_isLetter hS.1.wk r217 (by and_intros <;> omega))) ?_
                          rintro M218 _ ⟨h218, r218, rfl, lr218, ur218, wr218⟩
                          have h218 := St.rn h218 (Pm1.of hS.1.2.2.2.2 (fun _ => (ka_X12_isLetter_131 h218 _)) (fun _ => (ka_X12_isLetter_137 h218 _)) (fun _ => (ka_X12_isLetter_138 h218 _)) (fun _ => (ka_X12_isLetter_139 h218 _)) (fun _ => (ka_X12_isLetter_140 h218 _)) (fun _ => (ka_X12_isLetter_141 h218 _)) (fun _ => (ka_X12_isLetter_142 h218 _)) (fun _ => (ka_X12_isLetter_143 h218 _)) (fun _ => (ka_X12_isLetter_151 h218 _)) (fun _ => (ka_X12_isLetter_152 h218 _)) (kp_X12_isLetter_126_0 h218) (kp_X12_isLetter_126_1 h218) (kp_X12_isLetter_136_0 h218) (kp_X12_isLetter_136_1 h218) (kp_X12_isLetter_123_0 h218) (kp_X12_isLetter_123_1 h218) (kp_X12_isLetter_124_0 h218) (kp_X12_isLetter_124_1 h218) (kp_X12_isLetter_120_8 h218) (kp_X12_isLetter_120_36 h218) (kp_X12_isLetter_120_50 h218))
                          have hS := St.tr hS h218 (by decide) (by decide)
                          replace wr218 := hd_i wr218
                          refine Tr.sc [(0, r218)] rfl ?_
                          refine Tr.if_eq (pc := 221) (tgt := 323) d_X12_next_221 rfl (fun c221 => ?_) (fun c221 => ?_)
                          · refine Tr.aload_n (pc := 323) (i := 0) d_X12_next_323 rfl rfl ?_
                            refine Tr.iload_n (pc := 324) (i := 1) d_X12_next_324 rfl rfl ?_
                            refine Tr.putfS (pc := 325) (P := St Pm1 ws_X12_next_120 as_X12_next_120 M0) d_X12_next_325 f_12_26 (by decide) (by decide) (ty_120 hS.1.1) (st_120_5 hS (by decide) (by and_intros <;> omega) (Pm1.of hS.1.2.2.2.2 (fun _ => rd_wb _ rfl) (fun _ => rd_wb _ rfl) (fun _ => rd_wb _ rfl) (fun _ => rd_wb _ rfl) (fun _ => rd_wb _ rfl) (fun _ => rd_wb _ rfl) (fun _ => rd_wb _ rfl) (fun _ => rd_wb _ rfl) (fun _ => rd_wb _ rfl) (fun _ => rd_wb _ rfl) (rd_wb _ rfl) (rd_wb _ rfl) (rd_wb _ rfl) (rd_wb _ rfl) (rd_wb _ rfl) (rd_wb _ rfl) (rd_wb _ rfl) (rd_wb _ rfl) (rd_wb _ rfl) (rd_wb _ rfl) (rd_wb _ rfl))) (fun M325 hS w325 => ?_)
                            obtain ⟨w328_9010_0, ew328_9010_0⟩ : ∃ v, tav M325 = v := ⟨_, rfl⟩
                            have bw328_9010_0 : (-1) ≤ w328_9010_0 ∧ w328_9010_0 ≤ 1800 := by rw [← ew328_9010_0]; exact (tav_b hS.1.2.1)
                            have jt := tav_c (w325.1) (((Wr.b w325 rfl).trans ((kp_X12_isLetter_120_3 h218).trans k200_120_3)))
                            rw [ew328_9010_0] at jt
                            replace jt := hd_i jt
                            have kr_120_3 : rd M325 120 3 = q182_1 := ((Wr.b w325 rfl).trans ((kp_X12_isLetter_120_3 h218).trans k200_120_3))
                            have kr_120_4 : rd M325 120 4 = p5_1 := ((Wr.b w325 rfl).trans ((kp_X12_isLetter_120_4 h218).trans k200_120_4))
                            have kr_120_5 : rd M325 120 5 = p200_1 := w325.1
                            have kr_120_7 : rd M325 120 7 = u200_120_7 := ((Wr.b w325 rfl).trans ((kp_X12_isLetter_120_7 h218).trans k200_120_7))
                            have kr_120_8 : rd M325 120 8 = u200_120_8 := ((Wr.b w325 rfl).trans ((kp_X12_isLetter_120_8 h218).trans k200_120_8))
                            have kr_9010_0 : tav M325 = w328_9010_0 := ew328_9010_0
                            exact Tr.vret (pc := 328) d_X12_next_328 rfl ⟨hS, rfl, (by exact (hd_o t200_6).elim (fun h1 => (ne_o h1).elim (fun h2 => by omega) (fun h2 => by omega)) (fun h1 => h1.elim (fun h1 => (hd_o wr218).elim (fun h2 => by omega) (fun h2 => h2.2.elim (fun h3 => by omega) (fun h3 => by omega))) (fun h1 => by omega))), (by omega), (by exact (hd_o t200_5).elim (fun h1 => (ne_o h1).elim (fun h2 => by omega) (fun h2 => by omega)) (fun h1 => h1.elim (fun h1 => by omega) (fun h1 => h1.elim (fun h1 => by omega) (fun h1 => by omega)))), (by omega), (by exact (hd_o jt0).elim (fun h1 => (hd_o jt).elim (fun h2 => by omega) (fun h2 => (hd_o t200_6).elim (fun h3 => (ne_o h3).elim (fun h4 => by omega) (fun h4 => by omega)) (fun h3 => h3.elim (fun h3 => (hd_o wr218).elim (fun h4 => by omega) (fun h4 => h4.2.elim (fun h5 => by omega) (fun h5 => by omega))) (fun h3 => by omega)))) (fun h1 => (hd_o jt).elim (fun h2 => by omega) (fun h2 => by omega))), (by exact (hd_o jt0).elim (fun h1 => by omega) (fun h1 => (hd_o jt).elim (fun h2 => by omega) (fun h2 => (hd_o t200_6).elim (fun h3 => (ne_o h3).elim (fun h4 => by omega) (fun h4 => by omega)) (fun h3 => h3.elim (fun h3 => (hd_o wr218).elim (fun h4 => by omega) (fun h4 => h4.2.elim (fun h5 => by omega) (fun h5 => by omega))) (fun h3 => by omega))))), (by first | exact (hd_o t200_2) | exact (hd_o t200_2).elim (fun h1 => by omega) (fun h1 => by omega))⟩
                          · have c221b : 1 ≤ r218 ∧ r218 ≤ 1 := by omega
                            replace c221 := hd_i c221
                            refine Tr.goto (pc := 224) (tgt := 239) d_X12_next_224 rfl ?_
                            refine Tr.pick [0, 1, 2, 3, 4, 5] (ls2 := [(0, (2, 120)), (1, (0, p200_1)), (2, (0, r71)), (3, (0, r81)), (4, (0, q195_0)), (5, (0, p200_5))]) rfl ?_
                            have jr239_0 : rd M218 121 p200_1 = r217 := ((ka_X12_isLetter_121 h218 _).trans er217)
                            exact J239 _ hS ((kp_X12_isLetter_120_2 h218).trans k200_120_2) ((kp_X12_isLetter_120_3 h218).trans k200_120_3) ((kp_X12_isLetter_120_4 h218).trans k200_120_4) ((kp_X12_isLetter_120_5 h218).trans k200_120_5) ((kp_X12_isLetter_120_7 h218).trans k200_120_7) ((kp_X12_isLetter_120_8 h218).trans k200_120_8) ((ka_X12_isLetter_121 h218 _).trans k200_121_p5_110) ((tav_of ((kp_X12_isLetter_120_5 h218).trans rfl) ((kp_X12_isLetter_120_3 h218).trans rfl)).trans k200_9010_0) (by omega) (by and_intros <;> omega) (by first | exact (hd_o t200_2) | exact (hd_o t200_2).elim (fun h1 => by omega) (fun h1 => by omega)) (by first | exact (hd_o t200_3) | exact (hd_o t200_3).elim (fun h1 => by omega) (fun h1 => by omega)) (by first | exact (hd_o t200_4) | exact (hd_o t200_4).elim (fun h1 => by omega) (fun h1 => by omega)) (by first | exact (hd_o t200_5) | exact (hd_o t200_5).elim (fun h1 => by omega) (fun h1 => h1.elim (fun h1 => by omega) (fun h1 => h1.elim (fun h1 => by omega) (fun h1 => by omega)))) (by exact (hd_o wr218).elim (fun h1 => by omega) (fun h1 => by omega))
                  refine Tr.pick [2, 3, 4, 5, 1, 0] (ls2 := [(0, (2, 120)), (1, (0, p5_1)), (2, (0, r71)), (3, (0, r81)), (4, (0, q195_0)), (5, (0, 0))]) rfl ?_
                  have jr200_0 : rd M 121 p5_1 = r70 := k195_121_p5_110
                  exact J200 _ _ _ _ _ _ hS (by and_intros <;> omega) (by omega) (by omega) (by and_intros <;> omega) k195_120_2 k195_120_3 k195_120_4 k195_120_5 k195_120_7 k195_120_8 k195_121_p5_110 k195_9010_0 (by omega) (by and_intros <;> omega) (by first | exact (hd_o t195_2) | exact (hd_o t195_2).elim (fun h1 => by omega) (fun h1 => by omega)) (by omega) (by first | exact (hd_o t195_6) | exact (hd_o t195_6).elim (fun h1 => by omega) (fun h1 => by omega)) (by omega) (by exact (hd_o t195_5).elim (fun h1 => (hd_o wr71).elim (fun h2 => by omega) (fun h2 => by omega)) (fun h1 => (hd_o wr81).elim (fun h2 => (hd_o wr71).elim (fun h3 => by omega) (fun h3 => by omega)) (fun h2 => by omega))) (Nat.lt_succ_self _)
                refine Tr.if_eq (pc := 186) (tgt := 194) d_X12_next_186 rfl (fun c186 => ?_) (fun c186 => ?_)
                · refine Tr.iconst (pc := 194) d_X12_next_194 (by decide) ?_
                  refine Tr.pick [0, 1, 2, 3] (ls2 := [(0, (2, 120)), (1, (0, p5_1)), (2, (0, r71)), (3, (0, r81))]) rfl ?_
                  obtain ⟨w195p194_9010_0, ew195p194_9010_0⟩ : ∃ v, tav M182 = v := ⟨_, rfl⟩
                  have bw195p194_9010_0 : (-1) ≤ w195p194_9010_0 ∧ w195p194_9010_0 ≤ 1800 := by rw [← ew195p194_9010_0]; exact (tav_b hS.1.2.1)
                  have jr195_0 : rd M182 121 p5_1 = r70 := ((Wr.b w182 rfl).trans k182_121_p5_110)
                  have jr195_1 : rd M182 121 p5_1 = r70 := ((Wr.b w182 rfl).trans k182_121_p5_110)
                  exact J195 _ _ _ hS (by omega) (by and_intros <;> omega) ((Wr.b w182 rfl).trans k182_120_2) w182.1 ((Wr.b w182 rfl).trans k182_120_4) ((Wr.b w182 rfl).trans k182_120_5) ((Wr.b w182 rfl).trans k182_120_6) ((Wr.b w182 rfl).trans k182_120_7) ((Wr.b w182 rfl).trans k182_120_8) ((Wr.b w182 rfl).trans k182_121_p5_110) ew195p194_9010_0 (by omega) (by omega) (by first | exact (hd_o t182_2) | exact (hd_o t182_2).elim (fun h1 => by omega) (fun h1 => by omega)) (by first | exact (hd_o wr71) | exact (hd_o wr71).elim (fun h1 => by omega) (fun h1 => by omega)) (by first | exact (hd_o wr81) | exact (hd_o wr81).elim (fun h1 => by omega) (fun h1 => by omega)) (by first | exact (hd_o t182_5) | exact (hd_o t182_5).elim (fun h1 => by omega) (fun h1 => by omega)) (by exact (hd_o t182_6).elim (fun h1 => by omega) (fun h1 => by omega))
                · have c186b : 1 ≤ r71 ∧ r71 ≤ 1 := by omega
                  replace c186 := hd_i c186
                  refine Tr.bipush (pc := 189) d_X12_next_189 rfl (by decide) ?_
                  refine Tr.goto (pc := 191) (tgt := 195) d_X12_next_191 rfl ?_
                  refine Tr.pick [0, 1, 2, 3] (ls2 := [(0, (2, 120)), (1, (0, p5_1)), (2, (0, r71)), (3, (0, r81))]) rfl ?_
                  obtain ⟨w195p191_9010_0, ew195p191_9010_0⟩ : ∃ v, tav M182 = v := ⟨_, rfl⟩
                  have bw195p191_9010_0 : (-1) ≤ w195p191_9010_0 ∧ w195p191_9010_0 ≤ 1800 := by rw [← ew195p191_9010_0]; exact (tav_b hS.1.2.1)
                  have jr195_0 : rd M182 121 p5_1 = r70 := ((Wr.b w182 rfl).trans k182_121_p5_110)
                  have jr195_1 : rd M182 121 p5_1 = r70 := ((Wr.b w182 rfl).trans k182_121_p5_110)
                  exact J195 _ _ _ hS (by omega) (by and_intros <;> omega) ((Wr.b w182 rfl).trans k182_120_2) w182.1 ((Wr.b w182 rfl).trans k182_120_4) ((Wr.b w182 rfl).trans k182_120_5) ((Wr.b w182 rfl).trans k182_120_6) ((Wr.b w182 rfl).trans k182_120_7) ((Wr.b w182 rfl).trans k182_120_8) ((Wr.b w182 rfl).trans k182_121_p5_110) ew195p191_9010_0 (by omega) (by omega) (by first | exact (hd_o t182_2) | exact (hd_o t182_2).elim (fun h1 => by omega) (fun h1 => by omega)) (by first | exact (hd_o wr71) | exact (hd_o wr71).elim (fun h1 => by omega) (fun h1 => by omega)) (by first | exact (hd_o wr81) | exact (hd_o wr81).elim (fun h1 => by omega) (fun h1 => by omega)) (by first | exact (hd_o t182_5) | exact (hd_o t182_5).elim (fun h1 => by omega) (fun h1 => by omega)) (by exact (hd_o t182_6).elim (fun h1 => by omega) (fun h1 => by omega))
              refine Tr.if_eq (pc := 174) (tgt := 181) d_X12_next_174 rfl (fun c174 => ?_) (fun c174 => ?_)
              · refine Tr.iconst (pc := 181) d_X12_next_181 (by decide) ?_
                refine Tr.pick [0, 1, 2, 3] (ls2 := [(0, (2, 120)), (1, (0, p5_1)), (2, (0, r71)), (3, (0, r81))]) rfl ?_
                have jr182_0 : rd M 121 p5_1 = r70 := k172_121_p5_110
                have jr182_1 : rd M 121 p5_1 = r70 := k172_121_p5_110
                exact J182 _ _ hS (by omega) k172_120_2 k172_120_3 k172_120_4 k172_120_5 k172_120_6 k172_120_7 k172_120_8 k172_121_p5_110 k172_9010_0 (by omega) (by omega) (by first | exact (hd_o t172_2) | exact (hd_o t172_2).elim (fun h1 => by omega) (fun h1 => by omega)) (by first | exact (hd_o wr71) | exact (hd_o wr71).elim (fun h1 => by omega) (fun h1 => by omega)) (by first | exact (hd_o wr81) | exact (hd_o wr81).elim (fun h1 => by omega) (fun h1 => by omega)) (by first | exact (hd_o t172_5) | exact (hd_o t172_5).elim (fun h1 => by omega) (fun h1 => by omega)) (by omega)
              · have c174b : 1 ≤ r71 ∧ r71 ≤ 1 := by omega
                replace c174 := hd_i c174
                refine Tr.iconst (pc := 177) d_X12_next_177 (by decide) ?_
                refine Tr.goto (pc := 178) (tgt := 182) d_X12_next_178 rfl ?_
                refine Tr.pick [0, 1, 2, 3] (ls2 := [(0, (2, 120)), (1, (0, p5_1)), (2, (0, r71)), (3, (0, r81))]) rfl ?_
                have jr182_0 : rd M 121 p5_1 = r70 := k172_121_p5_110
                have jr182_1 : rd M 121 p5_1 = r70 := k172_121_p5_110
                exact J182 _ _ hS (by omega) k172_120_2 k172_120_3 k172_120_4 k172_120_5 k172_120_6 k172_120_7 k172_120_8 k172_121_p5_110 k172_9010_0 (by omega) (by omega) (by first | exact (hd_o t172_2) | exact (hd_o t172_2).elim (fun h1 => by omega) (fun h1 => by omega)) (by first | exact (hd_o wr71) | exact (hd_o wr71).elim (fun h1 => by omega) (fun h1 => by omega)) (by first | exact (hd_o wr81) | exact (hd_o wr81).elim (fun h1 => by omega) (fun h1 => by omega)) (by first | exact (hd_o t172_5) | exact (hd_o t172_5).elim (fun h1 => by omega) (fun h1 => by omega)) (by omega)
            refine Tr.if_ne (pc := 154) (tgt := 172) d_X12_next_154 rfl (fun c154 => ?_) (fun c154 => ?_)
            · have c154b : 1 ≤ r71 ∧ r71 ≤ 1 := by omega
              replace c154 := hd_i c154
              refine Tr.pick [0, 1, 2, 3] (ls2 := [(0, (2, 120)), (1, (0, p5_1)), (2, (0, r71)), (3, (0, r81))]) rfl ?_
              obtain ⟨w172p154_9010_0, ew172p154_9010_0⟩ : ∃ v, tav M150 = v := ⟨_, rfl⟩
              have bw172p154_9010_0 : (-1) ≤ w172p154_9010_0 ∧ w172p154_9010_0 ≤ 1800 := by rw [← ew172p154_9010_0]; exact (tav_b hS.1.2.1)
              have jr172_0 : rd M150 121 p5_1 = r70 := ((Wr.b w150 rfl).trans ((Wr.b w143 rfl).trans ((Wr.b w138 rfl).trans ((Wr.b w133 rfl).trans k131_121_p5_110))))
              have jr172_1 : rd M150 121 p5_1 = r70 := ((Wr.b w150 rfl).trans ((Wr.b w143 rfl).trans ((Wr.b w138 rfl).trans ((Wr.b w133 rfl).trans k131_121_p5_110))))
              exact J172 _ _ hS (by and_intros <;> omega) ((Wr.b w150 rfl).trans ((Wr.b w143 rfl).trans ((Wr.b w138 rfl).trans ((Wr.b w133 rfl).trans k131_120_2)))) ((Wr.b w150 rfl).trans w143.1) ((Wr.b w150 rfl).trans ((Wr.b w143 rfl).trans ((Wr.b w138 rfl).trans ((Wr.b w133 rfl).trans k131_120_4)))) w150.1 ((Wr.b w150 rfl).trans ((Wr.b w143 rfl).trans ((Wr.b w138 rfl).trans w133.1))) ((Wr.b w150 rfl).trans ((Wr.b w143 rfl).trans w138.1)) ((Wr.b w150 rfl).trans ((Wr.b w143 rfl).trans ((Wr.b w138 rfl).trans ((Wr.b w133 rfl).trans k131_120_8)))) ((Wr.b w150 rfl).trans ((Wr.b w143 rfl).trans ((Wr.b w138 rfl).trans ((Wr.b w133 rfl).trans k131_121_p5_110)))) ew172p154_9010_0 (by omega) (by omega) (by first | exact (hd_o t131_2) | exact (hd_o t131_2).elim (fun h1 => by omega) (fun h1 => by omega)) (by first | exact (hd_o wr71) | exact (hd_o wr71).elim (fun h1 => by omega) (fun h1 => by omega)) (by first | exact (hd_o wr81) | exact (hd_o wr81).elim (fun h1 => by omega) (fun h1 => by omega)) (by omega)
            · refine Tr.iload_n (pc := 157) (i := 3) d_X12_next_157 rfl rfl ?_
              refine Tr.if_ne (pc := 158) (tgt := 172) d_X12_next_158 rfl (fun c158 => ?_) (fun c158 => ?_)
              · have c158b : 1 ≤ r81 ∧ r81 ≤ 1 := by omega
                replace c158 := hd_i c158
                refine Tr.pick [0, 1, 2, 3] (ls2 := [(0, (2, 120)), (1, (0, p5_1)), (2, (0, r71)), (3, (0, r81))]) rfl ?_
                obtain ⟨w172p158_9010_0, ew172p158_9010_0⟩ : ∃ v, tav M150 = v := ⟨_, rfl⟩
                have bw172p158_9010_0 : (-1) ≤ w172p158_9010_0 ∧ w172p158_9010_0 ≤ 1800 := by rw [← ew172p158_9010_0]; exact (tav_b hS.1.2.1)
                have jr172_0 : rd M150 121 p5_1 = r70 := ((Wr.b w150 rfl).trans ((Wr.b w143 rfl).trans ((Wr.b w138 rfl).trans ((Wr.b w133 rfl).trans k131_121_p5_110))))
                have jr172_1 : rd M150 121 p5_1 = r70 := ((Wr.b w150 rfl).trans ((Wr.b w143 rfl).trans ((Wr.b w138 rfl).trans ((Wr.b w133 rfl).trans k131_121_p5_110))))
                exact J172 _ _ hS (by and_intros <;> omega) ((Wr.b w150 rfl).trans ((Wr.b w143 rfl).trans ((Wr.b w138 rfl).trans ((Wr.b w133 rfl).trans k131_120_2)))) ((Wr.b w150 rfl).trans w143.1) ((Wr.b w150 rfl).trans ((Wr.b w143 rfl).trans ((Wr.b w138 rfl).trans ((Wr.b w133 rfl).trans k131_120_4)))) w150.1 ((Wr.b w150 rfl).trans ((Wr.b w143 rfl).trans ((Wr.b w138 rfl).trans w133.1))) ((Wr.b w150 rfl).trans ((Wr.b w143 rfl).trans w138.1)) ((Wr.b w150 rfl).trans ((Wr.b w143 rfl).trans ((Wr.b w138 rfl).trans ((Wr.b w133 rfl).trans k131_120_8)))) ((Wr.b w150 rfl).trans ((Wr.b w143 rfl).trans ((Wr.b w138 rfl).trans ((Wr.b w133 rfl).trans k131_121_p5_110)))) ew172p158_9010_0 (by omega) (by omega) (by first | exact (hd_o t131_2) | exact (hd_o t131_2).elim (fun h1 => by omega) (fun h1 => by omega)) (by first | exact (hd_o wr71) | exact (hd_o wr71).elim (fun h1 => by omega) (fun h1 => by omega)) (by first | exact (hd_o wr81) | exact (hd_o wr81).elim (fun h1 => by omega) (fun h1 => by omega)) (by omega)
              · refine Tr.aload_n (pc := 161) (i := 0) d_X12_next_161 rfl rfl ?_
                refine Tr.aload_n (pc := 162) (i := 0) d_X12_next_162 rfl rfl ?_
                refine Tr.getf (pc := 163) d_X12_next_163 f_12_7 (by decide) (by decide) (ty_120 hS.1.1) ?_
                refine Tr.tp 121 (fx_120_0 hS.1.1) ?_
                refine Tr.iload_n (pc := 166) (i := 1) d_X12_next_166 rfl rfl ?_
                refine Tr.iald (pc := 167) d_X12_next_167 (ty_121 hS.1.1) (by omega) (by omega) ?_
                refine Tr.tp r70 ((Wr.b w150 rfl).trans ((Wr.b w143 rfl).trans ((Wr.b w138 rfl).trans ((Wr.b w133 rfl).trans k131_121_p5_110)))) ?_
                refine Tr.putfS (pc := 168) (P := St Pm1 ws_X12_next_120 as_X12_next_120 M0) d_X12_next_168 f_12_29 (by decide) (by decide) (ty_120 hS.1.1) (st_120_6 hS (by decide) (by and_intros <;> omega) (Pm1.of hS.1.2.2.2.2 (fun _ => rd_wb _ rfl) (fun _ => rd_wb _ rfl) (fun _ => rd_wb _ rfl) (fun _ => rd_wb _ rfl) (fun _ => rd_wb _ rfl) (fun _ => rd_wb _ rfl) (fun _ => rd_wb _ rfl) (fun _ => rd_wb _ rfl) (fun _ => rd_wb _ rfl) (fun _ => rd_wb _ rfl) (rd_wb _ rfl) (rd_wb _ rfl) (rd_wb _ rfl) (rd_wb _ rfl) (rd_wb _ rfl) (rd_wb _ rfl) (rd_wb _ rfl) (rd_wb _ rfl) (rd_wb _ rfl) (rd_wb _ rfl) (rd_wb _ rfl))) (fun M168 hS w168 => ?_)
                obtain ⟨w171_9010_0, ew171_9010_0⟩ : ∃ v, tav M168 = v := ⟨_, rfl⟩
                have bw171_9010_0 : (-1) ≤ w171_9010_0 ∧ w171_9010_0 ≤ 1800 := by rw [← ew171_9010_0]; exact (tav_b hS.1.2.1)
                have jt := tav_c (((Wr.b w168 rfl).trans w150.1)) (((Wr.b w168 rfl).trans ((Wr.b w150 rfl).trans w143.1)))
                rw [ew171_9010_0] at jt
                replace jt := hd_i jt
                have kr_120_3 : rd M168 120 3 = 3 := ((Wr.b w168 rfl).trans ((Wr.b w150 rfl).trans w143.1))
                have kr_120_4 : rd M168 120 4 = p5_1 := ((Wr.b w168 rfl).trans ((Wr.b w150 rfl).trans ((Wr.b w143 rfl).trans ((Wr.b w138 rfl).trans ((Wr.b w133 rfl).trans k131_120_4)))))
                have kr_120_5 : rd M168 120 5 = (p5_1 + 1) := ((Wr.b w168 rfl).trans w150.1)
                have kr_120_7 : rd M168 120 7 = 0 := ((Wr.b w168 rfl).trans ((Wr.b w150 rfl).trans ((Wr.b w143 rfl).trans w138.1)))
                have kr_120_8 : rd M168 120 8 = u131_120_8 := ((Wr.b w168 rfl).trans ((Wr.b w150 rfl).trans ((Wr.b w143 rfl).trans ((Wr.b w138 rfl).trans ((Wr.b w133 rfl).trans k131_120_8)))))
                have kr_9010_0 : tav M168 = w171_9010_0 := ew171_9010_0
                exact Tr.vret (pc := 171) d_X12_next_171 rfl ⟨hS, rfl, (by omega), (by omega), (by omega), (by omega), (by exact (hd_o jt).elim (fun h1 => by omega) (fun h1 => (hd_o jt0).elim (fun h2 => by omega) (fun h2 => by omega))), (by exact (hd_o jt).elim (fun h1 => by omega) (fun h1 => (hd_o jt0).elim (fun h2 => by omega) (fun h2 => by omega))), (by first | exact (hd_o t131_2) | exact (hd_o t131_2).elim (fun h1 => by omega) (fun h1 => by omega))⟩
          have J93 : ∀ (M : Mem) (u93_9010_0 : Int), St Pm1 ws_X12_next_120 as_X12_next_120 M0 M → ((-1) ≤ u93_9010_0 ∧ u93_9010_0 ≤ 1800) → rd M 120 2 = r7 → rd M 120 3 = 0 → rd M 120 4 = p5_1 → rd M 120 5 = p5_1 → rd M 120 7 = g120_7 → rd M 120 8 = g120_8 → rd M 121 p5_1 = r70 → tav M = u93_9010_0 → (g120_5 ≤ p5_1) → (p5_1 = p5_1) → (g120_8 = 0 ∨ g120_8 = g120_8) → ((r71 = 1 ∧ 97 ≤ rd M 121 p5_1 ∧ rd M 121 p5_1 ≤ 122) ∨ (r71 = 0 ∧ (rd M 121 p5_1 < 97 ∨ 122 < rd M 121 p5_1))) → ((r81 = 1 ∧ 48 ≤ rd M 121 p5_1 ∧ rd M 121 p5_1 ≤ 57) ∨ (r81 = 0 ∧ (rd M 121 p5_1 < 48 ∨ 57 < rd M 121 p5_1))) → Tr l K 1 mX12_next 93 [(0, (2, 120)), (1, (0, p5_1)), (2, (0, r71)), (3, (0, r81))] [] M (q_X12_next_120 M0) := by
            intro M u93_9010_0 hS bu93_9010_0 k93_120_2 k93_120_3 k93_120_4 k93_120_5 k93_120_7 k93_120_8 k93_121_p5_110 k93_9010_0 t93_0 t93_1 t93_2 t93_3 t93_4
            clear k41_120_2 k41_120_3 k41_120_4 k41_120_5 k41_120_7 k41_120_8 k41_9010_0 w43 w48 w53 er70
            replace t93_2 := hd_i t93_2
            replace t93_3 := hd_i t93_3
            replace t93_4 := hd_i t93_4
            refine Tr.iload_n (pc := 93) (i := 1) d_X12_next_93 rfl rfl ?_
            refine Tr.if_le (pc := 94) (tgt := 131) d_X12_next_94 rfl (fun c94 => ?_) (fun c94 => ?_)
            · refine Tr.pick [0, 1, 2, 3] (ls2 := [(0, (2, 120)), (1, (0, p5_1)), (2, (0, r71)), (3, (0, r81))]) rfl ?_
              have jr131_0 : rd M 121 p5_1 = r70 := k93_121_p5_110
              have jr131_1 : rd M 121 p5_1 = r70 := k93_121_p5_110
              exact J131 _ _ _ hS (by and_intros <;> omega) (by and_intros <;> omega) k93_120_2 k93_120_3 k93_120_4 k93_120_5 k93_120_7 k93_120_8 k93_121_p5_110 k93_9010_0 (by omega) (by omega) (by first | exact (hd_o t93_2) | exact (hd_o t93_2).elim (fun h1 => by omega) (fun h1 => by omega)) (by first | exact (hd_o wr71) | exact (hd_o wr71).elim (fun h1 => by omega) (fun h1 => by omega)) (by first | exact (hd_o wr81) | exact (hd_o wr81).elim (fun h1 => by omega) (fun h1 => by omega))
            · refine Tr.aload_n (pc := 97) (i := 0) d_X12_next_97 rfl rfl ?_
              refine Tr.getf (pc := 98) d_X12_next_98 f_12_7 (by decide) (by decide) (ty_120 hS.1.1) ?_
              refine Tr.tp 121 (fx_120_0 hS.1.1) ?_
              refine Tr.iload_n (pc := 101) (i := 1) d_X12_next_101 rfl rfl ?_
              refine Tr.iconst (pc := 102) d_X12_next_102 (by decide) ?_
              refine Tr.isub (pc := 103) d_X12_next_103 ?_
              refine Tr.tp (p5_1 - 1) ((w32_id (by and_intros <;> omega)).trans (by omega)) ?_
              refine Tr.iald (pc := 104) d_X12_next_104 (ty_121 hS.1.1) (by omega) (by omega) ?_
              refine Tr.gen (P := fun v => (-2147483648) ≤ v ∧ v ≤ 2147483647) (ar_121 hS.1.2.1 _) (fun r104 er104 br104 => ?_)
              refine Tr.callS (pc := 105) (as := [_]) d_X12_next_105 s_12_382 ok_X12_isLetter rfl rfl (Nat.le_of_ble_eq_true rfl) (Nat.le_of_ble_eq_true rfl) ?_
              refine Tr.imp (Tr.deep (by decide) (sp_X12_isLetter hS.1.wk r104 (by and_intros <;> omega))) ?_
              rintro M105 _ ⟨h105, r105, rfl, lr105, ur105, wr105⟩
              have h105 := St.rn h105 (Pm1.of hS.1.2.2.2.2 (fun _ => (ka_X12_isLetter_131 h105 _)) (fun _ => (ka_X12_isLetter_137 h105 _)) (fun _ => (ka_X12_isLetter_138 h105 _)) (fun _ => (ka_X12_isLetter_139 h105 _)) (fun _ => (ka_X12_isLetter_140 h105 _)) (fun _ => (ka_X12_isLetter_141 h105 _)) (fun _ => (ka_X12_isLetter_142 h105 _)) (fun _ => (ka_X12_isLetter_143 h105 _)) (fun _ => (ka_X12_isLetter_151 h105 _)) (fun _ => (ka_X12_isLetter_152 h105 _)) (kp_X12_isLetter_126_0 h105) (kp_X12_isLetter_126_1 h105) (kp_X12_isLetter_136_0 h105) (kp_X12_isLetter_136_1 h105) (kp_X12_isLetter_123_0 h105) (kp_X12_isLetter_123_1 h105) (kp_X12_isLetter_124_0 h105) (kp_X12_isLetter_124_1 h105) (kp_X12_isLetter_120_8 h105) (kp_X12_isLetter_120_36 h105) (kp_X12_isLetter_120_50 h105))
              have hS := St.tr hS h105 (by decide) (by decide)
              replace wr105 := hd_i wr105
              refine Tr.sc [(0, r105)] rfl ?_
              have J125 : ∀ (M : Mem), St Pm1 ws_X12_next_120 as_X12_next_120 M0 M → rd M 120 2 = r7 → rd M 120 3 = 0 → rd M 120 4 = p5_1 → rd M 120 5 = p5_1 → rd M 120 7 = g120_7 → rd M 120 8 = g120_8 → rd M 121 (p5_1 - 1) = r104 → rd M 121 p5_1 = r70 → tav M = u93_9010_0 → (g120_5 ≤ p5_1) → (p5_1 = p5_1) → (g120_8 = 0 ∨ g120_8 = g120_8) → ((r71 = 1 ∧ 97 ≤ rd M 121 p5_1 ∧ rd M 121 p5_1 ≤ 122) ∨ (r71 = 0 ∧ (rd M 121 p5_1 < 97 ∨ 122 < rd M 121 p5_1))) → ((r81 = 1 ∧ 48 ≤ rd M 121 p5_1 ∧ rd M 121 p5_1 ≤ 57) ∨ (r81 = 0 ∧ (rd M 121 p5_1 < 48 ∨ 57 < rd M 121 p5_1))) → Tr l K 1 mX12_next 125 [(0, (2, 120)), (1, (0, p5_1)), (2, (0, r71)), (3, (0, r81))] [] M (q_X12_next_120 M0) := by
                intro M  hS  k125_120_2 k125_120_3 k125_120_4 k125_120_5 k125_120_7 k125_120_8 k125_121_p5_11n1 k125_121_p5_110 k125_9010_0 t125_0 t125_1 t125_2 t125_3 t125_4
                clear k93_120_2 k93_120_3 k93_120_4 k93_120_5 k93_120_7 k93_120_8 k93_121_p5_110 k93_9010_0 er104
                replace t125_2 := hd_i t125_2
                replace t125_3 := hd_i t125_3
                replace t125_4 := hd_i t125_4
                refine Tr.aload_n (pc := 125) (i := 0) d_X12_next_125 rfl rfl ?_
                refine Tr.iconst (pc := 126) d_X12_next_126 (by decide) ?_
                refine Tr.iload_n (pc := 127) (i := 1) d_X12_next_127 rfl rfl ?_
                refine Tr.callV (pc := 128) (as := [_, _]) d_X12_next_128 s_12_389 ok_X12_blame rfl rfl (Nat.le_of_ble_eq_true rfl) (Nat.le_of_ble_eq_true rfl) (by decide) (ty_120 hS.1.1) ?_
                refine Tr.imp (Tr.deep (by decide) (ns_X12_blame_120 (G120_8 := g120_8) hS.1 (k125_120_8) 1 (by omega) p5_1 (by and_intros <;> omega))) ?_
                rintro M128 _ ⟨h128, s128_120_8, es128_120_8, bs128_120_8, rfl, z128_0⟩
                have hS := St.tr hS h128 (by decide) (by decide)
                refine Tr.sc [] rfl ?_
                refine Tr.pick [0, 1, 2, 3] (ls2 := [(0, (2, 120)), (1, (0, p5_1)), (2, (0, r71)), (3, (0, r81))]) rfl ?_
                have jr131_0 : rd M128 121 p5_1 = r70 := ((ka_X12_blame_120_121 h128 _).trans k125_121_p5_110)
                have jr131_1 : rd M128 121 p5_1 = r70 := ((ka_X12_blame_120_121 h128 _).trans k125_121_p5_110)
                exact J131 _ _ _ hS (by and_intros <;> omega) (by and_intros <;> omega) ((kp_X12_blame_120_120_2 h128).trans k125_120_2) ((kp_X12_blame_120_120_3 h128).trans k125_120_3) ((kp_X12_blame_120_120_4 h128).trans k125_120_4) ((kp_X12_blame_120_120_5 h128).trans k125_120_5) ((kp_X12_blame_120_120_7 h128).trans k125_120_7) es128_120_8 ((ka_X12_blame_120_121 h128 _).trans k125_121_p5_110) ((tav_of ((kp_X12_blame_120_120_5 h128).trans rfl) ((kp_X12_blame_120_120_3 h128).trans rfl)).trans k125_9010_0) (by omega) (by omega) (by exact (hd_o z128_0).elim (fun h1 => by omega) (fun h1 => by omega)) (by first | exact (hd_o wr71) | exact (hd_o wr71).elim (fun h1 => by omega) (fun h1 => by omega)) (by first | exact (hd_o wr81) | exact (hd_o wr81).elim (fun h1 => by omega) (fun h1 => by omega))
              refine Tr.if_ne (pc := 108) (tgt := 125) d_X12_next_108 rfl (fun c108 => ?_) (fun c108 => ?_)
              · have c108b : 1 ≤ r105 ∧ r105 ≤ 1 := by omega
                replace c108 := hd_i c108
                refine Tr.pick [0, 1, 2, 3] (ls2 := [(0, (2, 120)), (1, (0, p5_1)), (2, (0, r71)), (3, (0, r81))]) rfl ?_
                have jr125_0 : rd M105 121 p5_1 = r70 := ((ka_X12_isLetter_121 h105 _).trans k93_121_p5_110)
                have jr125_1 : rd M105 121 p5_1 = r70 := ((ka_X12_isLetter_121 h105 _).trans k93_121_p5_110)
                exact J125 _ hS ((kp_X12_isLetter_120_2 h105).trans k93_120_2) ((kp_X12_isLetter_120_3 h105).trans k93_120_3) ((kp_X12_isLetter_120_4 h105).trans k93_120_4) ((kp_X12_isLetter_120_5 h105).trans k93_120_5) ((kp_X12_isLetter_120_7 h105).trans k93_120_7) ((kp_X12_isLetter_120_8 h105).trans k93_120_8) ((ka_X12_isLetter_121 h105 _).trans er104) ((ka_X12_isLetter_121 h105 _).trans k93_121_p5_110) ((tav_of ((kp_X12_isLetter_120_5 h105).trans rfl) ((kp_X12_isLetter_120_3 h105).trans rfl)).trans k93_9010_0) (by omega) (by omega) (by first | exact (hd_o t93_2) | exact (hd_o t93_2).elim (fun h1 => by omega) (fun h1 => by omega)) (by first | exact (hd_o wr71) | exact (hd_o wr71).elim (fun h1 => by omega) (fun h1 => by omega)) (by first | exact (hd_o wr81) | exact (hd_o wr81).elim (fun h1 => by omega) (fun h1 => by omega))
              · refine Tr.aload_n (pc := 111) (i := 0) d_X12_next_111 rfl rfl ?_
                refine Tr.getf (pc := 112) d_X12_next_112 f_12_7 (by decide) (by decide) (ty_120 hS.1.1) ?_
                refine Tr.tp 121 (fx_120_0 hS.1.1) ?_
                refine Tr.iload_n (pc := 115) (i := 1) d_X12_next_115 rfl rfl ?_
                refine Tr.iconst (pc := 116) d_X12_next_116 (by decide) ?_
                refine Tr.isub (pc := 117) d_X12_next_117 ?_
                refine Tr.tp (p5_1 - 1) ((w32_id (by and_intros <;> omega)).trans (by omega)) ?_
                refine Tr.iald (pc := 118) d_X12_next_118 (ty_121 hS.1.1) (by omega) (by omega) ?_
                refine Tr.tp r104 ((ka_X12_isLetter_121 h105 _).trans er104) ?_
                refine Tr.callS (pc := 119) (as := [_]) d_X12_next_119 s_12_386 ok_X12_isDigit rfl rfl (Nat.le_of_ble_eq_true rfl) (Nat.le_of_ble_eq_true rfl) ?_
                refine Tr.imp (Tr.deep (by decide) (sp_X12_isDigit hS.1.wk r104 (by and_intros <;> omega))) ?_
                rintro M119 _ ⟨h119, r119, rfl, lr119, ur119, wr119⟩
                have h119 := St.rn h119 (Pm1.of hS.1.2.2.2.2 (fun _ => (ka_X12_isDigit_131 h119 _)) (fun _ => (ka_X12_isDigit_137 h119 _)) (fun _ => (ka_X12_isDigit_138 h119 _)) (fun _ => (ka_X12_isDigit_139 h119 _)) (fun _ => (ka_X12_isDigit_140 h119 _)) (fun _ => (ka_X12_isDigit_141 h119 _)) (fun _ => (ka_X12_isDigit_142 h119 _)) (fun _ => (ka_X12_isDigit_143 h119 _)) (fun _ => (ka_X12_isDigit_151 h119 _)) (fun _ => (ka_X12_isDigit_152 h119 _)) (kp_X12_isDigit_126_0 h119) (kp_X12_isDigit_126_1 h119) (kp_X12_isDigit_136_0 h119) (kp_X12_isDigit_136_1 h119) (kp_X12_isDigit_123_0 h119) (kp_X12_isDigit_123_1 h119) (kp_X12_isDigit_124_0 h119) (kp_X12_isDigit_124_1 h119) (kp_X12_isDigit_120_8 h119) (kp_X12_isDigit_120_36 h119) (kp_X12_isDigit_120_50 h119))
                have hS := St.tr hS h119 (by decide) (by decide)
                replace wr119 := hd_i wr119
                refine Tr.sc [(0, r119)] rfl ?_
                refine Tr.if_eq (pc := 122) (tgt := 131) d_X12_next_122 rfl (fun c122 => ?_) (fun c122 => ?_)
                · refine Tr.pick [0, 1, 2, 3] (ls2 := [(0, (2, 120)), (1, (0, p5_1)), (2, (0, r71)), (3, (0, r81))]) rfl ?_
                  have jr131_0 : rd M119 121 p5_1 = r70 := ((ka_X12_isDigit_121 h119 _).trans ((ka_X12_isLetter_121 h105 _).trans k93_121_p5_110))
                  have jr131_1 : rd M119 121 p5_1 = r70 := ((ka_X12_isDigit_121 h119 _).trans ((ka_X12_isLetter_121 h105 _).trans k93_121_p5_110))
                  exact J131 _ _ _ hS (by and_intros <;> omega) (by and_intros <;> omega) ((kp_X12_isDigit_120_2 h119).trans ((kp_X12_isLetter_120_2 h105).trans k93_120_2)) ((kp_X12_isDigit_120_3 h119).trans ((kp_X12_isLetter_120_3 h105).trans k93_120_3)) ((kp_X12_isDigit_120_4 h119).trans ((kp_X12_isLetter_120_4 h105).trans k93_120_4)) ((kp_X12_isDigit_120_5 h119).trans ((kp_X12_isLetter_120_5 h105).trans k93_120_5)) ((kp_X12_isDigit_120_7 h119).trans ((kp_X12_isLetter_120_7 h105).trans k93_120_7)) ((kp_X12_isDigit_120_8 h119).trans ((kp_X12_isLetter_120_8 h105).trans k93_120_8)) ((ka_X12_isDigit_121 h119 _).trans ((ka_X12_isLetter_121 h105 _).trans k93_121_p5_110)) ((tav_of ((kp_X12_isDigit_120_5 h119).trans ((kp_X12_isLetter_120_5 h105).trans rfl)) ((kp_X12_isDigit_120_3 h119).trans ((kp_X12_isLetter_120_3 h105).trans rfl))).trans k93_9010_0) (by omega) (by omega) (by first | exact (hd_o t93_2) | exact (hd_o t93_2).elim (fun h1 => by omega) (fun h1 => by omega)) (by first | exact (hd_o wr71) | exact (hd_o wr71).elim (fun h1 => by omega) (fun h1 => by omega)) (by first | exact (hd_o wr81) | exact (hd_o wr81).elim (fun h1 => by omega) (fun h1 => by omega))
                · have c122b : 1 ≤ r119 ∧ r119 ≤ 1 := by omega
                  replace c122 := hd_i c122
                  refine Tr.pick [0, 1, 2, 3] (ls2 := [(0, (2, 120)), (1, (0, p5_1)), (2, (0, r71)), (3, (0, r81))]) rfl ?_
                  have jr125_0 : rd M119 121 p5_1 = r70 := ((ka_X12_isDigit_121 h119 _).trans ((ka_X12_isLetter_121 h105 _).trans k93_121_p5_110))
                  have jr125_1 : rd M119 121 p5_1 = r70 := ((ka_X12_isDigit_121 h119 _).trans ((ka_X12_isLetter_121 h105 _).trans k93_121_p5_110))
                  exact J125 _ hS ((kp_X12_isDigit_120_2 h119).trans ((kp_X12_isLetter_120_2 h105).trans k93_120_2)) ((kp_X12_isDigit_120_3 h119).trans ((kp_X12_isLetter_120_3 h105).trans k93_120_3)) ((kp_X12_isDigit_120_4 h119).trans ((kp_X12_isLetter_120_4 h105).trans k93_120_4)) ((kp_X12_isDigit_120_5 h119).trans ((kp_X12_isLetter_120_5 h105).trans k93_120_5)) ((kp_X12_isDigit_120_7 h119).trans ((kp_X12_isLetter_120_7 h105).trans k93_120_7)) ((kp_X12_isDigit_120_8 h119).trans ((kp_X12_isLetter_120_8 h105).trans k93_120_8)) ((ka_X12_isDigit_121 h119 _).trans ((ka_X12_isLetter_121 h105 _).trans er104)) ((ka_X12_isDigit_121 h119 _).trans ((ka_X12_isLetter_121 h105 _).trans k93_121_p5_110)) ((tav_of ((kp_X12_isDigit_120_5 h119).trans ((kp_X12_isLetter_120_5 h105).trans rfl)) ((kp_X12_isDigit_120_3 h119).trans ((kp_X12_isLetter_120_3 h105).trans rfl))).trans k93_9010_0) (by omega) (by omega) (by first | exact (hd_o t93_2) | exact (hd_o t93_2).elim (fun h1 => by omega) (fun h1 => by omega)) (by first | exact (hd_o wr71) | exact (hd_o wr71).elim (fun h1 => by omega) (fun h1 => by omega)) (by first | exact (hd_o wr81) | exact (hd_o wr81).elim (fun h1 => by omega) (fun h1 => by omega))
          refine Tr.if_ne (pc := 86) (tgt := 93) d_X12_next_86 rfl (fun c86 => ?_) (fun c86 => ?_)
          · have c86b : 1 ≤ r71 ∧ r71 ≤ 1 := by omega
            replace c86 := hd_i c86
            refine Tr.pick [2, 3, 1, 0] (ls2 := [(0, (2, 120)), (1, (0, p5_1)), (2, (0, r71)), (3, (0, r81))]) rfl ?_
            obtain ⟨w93p86_9010_0, ew93p86_9010_0⟩ : ∃ v, tav M81 = v := ⟨_, rfl⟩
            have bw93p86_9010_0 : (-1) ≤ w93p86_9010_0 ∧ w93p86_9010_0 ≤ 1800 := by rw [← ew93p86_9010_0]; exact (tav_b hS.1.2.1)
            have jr93_0 : rd M81 121 p5_1 = r70 := ((ka_X12_isDigit_121 h81 _).trans ((ka_X12_isLetter_121 h71 _).trans er70))
            have jr93_1 : rd M81 121 p5_1 = r70 := ((ka_X12_isDigit_121 h81 _).trans ((ka_X12_isLetter_121 h71 _).trans er70))
            exact J93 _ _ hS (by and_intros <;> omega) ((kp_X12_isDigit_120_2 h81).trans ((kp_X12_isLetter_120_2 h71).trans ((Wr.b w53 rfl).trans ((Wr.b w48 rfl).trans ((Wr.b w43 rfl).trans k41_120_2))))) ((kp_X12_isDigit_120_3 h81).trans ((kp_X12_isLetter_120_3 h71).trans w53.1)) ((kp_X12_isDigit_120_4 h81).trans ((kp_X12_isLetter_120_4 h71).trans ((Wr.b w53 rfl).trans ((Wr.b w48 rfl).trans w43.1)))) ((kp_X12_isDigit_120_5 h81).trans ((kp_X12_isLetter_120_5 h71).trans ((Wr.b w53 rfl).trans w48.1))) ((kp_X12_isDigit_120_7 h81).trans ((kp_X12_isLetter_120_7 h71).trans ((Wr.b w53 rfl).trans ((Wr.b w48 rfl).trans ((Wr.b w43 rfl).trans k41_120_7))))) ((kp_X12_isDigit_120_8 h81).trans ((kp_X12_isLetter_120_8 h71).trans ((Wr.b w53 rfl).trans ((Wr.b w48 rfl).trans ((Wr.b w43 rfl).trans k41_120_8))))) ((ka_X12_isDigit_121 h81 _).trans ((ka_X12_isLetter_121 h71 _).trans er70)) ew93p86_9010_0 (by omega) (by omega) (by omega) (by first | exact (hd_o wr71) | exact (hd_o wr71).elim (fun h1 => by omega) (fun h1 => by omega)) (by first | exact (hd_o wr81) | exact (hd_o wr81).elim (fun h1 => by omega) (fun h1 => by omega))
          · refine Tr.iload_n (pc := 89) (i := 3) d_X12_next_89 rfl rfl ?_
            refine Tr.if_eq (pc := 90) (tgt := 131) d_X12_next_90 rfl (fun c90 => ?_) (fun c90 => ?_)
            · refine Tr.pick [2, 3, 1, 0] (ls2 := [(0, (2, 120)), (1, (0, p5_1)), (2, (0, r71)), (3, (0, r81))]) rfl ?_
              obtain ⟨w131p90_9010_0, ew131p90_9010_0⟩ : ∃ v, tav M81 = v := ⟨_, rfl⟩
              have bw131p90_9010_0 : (-1) ≤ w131p90_9010_0 ∧ w131p90_9010_0 ≤ 1800 := by rw [← ew131p90_9010_0]; exact (tav_b hS.1.2.1)
              have jr131_0 : rd M81 121 p5_1 = r70 := ((ka_X12_isDigit_121 h81 _).trans ((ka_X12_isLetter_121 h71 _).trans er70))
              have jr131_1 : rd M81 121 p5_1 = r70 := ((ka_X12_isDigit_121 h81 _).trans ((ka_X12_isLetter_121 h71 _).trans er70))
              exact J131 _ _ _ hS (by and_intros <;> omega) (by and_intros <;> omega) ((kp_X12_isDigit_120_2 h81).trans ((kp_X12_isLetter_120_2 h71).trans ((Wr.b w53 rfl).trans ((Wr.b w48 rfl).trans ((Wr.b w43 rfl).trans k41_120_2))))) ((kp_X12_isDigit_120_3 h81).trans ((kp_X12_isLetter_120_3 h71).trans w53.1)) ((kp_X12_isDigit_120_4 h81).trans ((kp_X12_isLetter_120_4 h71).trans ((Wr.b w53 rfl).trans ((Wr.b w48 rfl).trans w43.1)))) ((kp_X12_isDigit_120_5 h81).trans ((kp_X12_isLetter_120_5 h71).trans ((Wr.b w53 rfl).trans w48.1))) ((kp_X12_isDigit_120_7 h81).trans ((kp_X12_isLetter_120_7 h71).trans ((Wr.b w53 rfl).trans ((Wr.b w48 rfl).trans ((Wr.b w43 rfl).trans k41_120_7))))) ((kp_X12_isDigit_120_8 h81).trans ((kp_X12_isLetter_120_8 h71).trans ((Wr.b w53 rfl).trans ((Wr.b w48 rfl).trans ((Wr.b w43 rfl).trans k41_120_8))))) ((ka_X12_isDigit_121 h81 _).trans ((ka_X12_isLetter_121 h71 _).trans er70)) ew131p90_9010_0 (by omega) (by omega) (by omega) (by first | exact (hd_o wr71) | exact (hd_o wr71).elim (fun h1 => by omega) (fun h1 => by omega)) (by first | exact (hd_o wr81) | exact (hd_o wr81).elim (fun h1 => by omega) (fun h1 => by omega))
            · have c90b : 1 ≤ r81 ∧ r81 ≤ 1 := by omega
              replace c90 := hd_i c90
              refine Tr.pick [2, 3, 1, 0] (ls2 := [(0, (2, 120)), (1, (0, p5_1)), (2, (0, r71)), (3, (0, r81))]) rfl ?_
              obtain ⟨w93p90_9010_0, ew93p90_9010_0⟩ : ∃ v, tav M81 = v := ⟨_, rfl⟩
              have bw93p90_9010_0 : (-1) ≤ w93p90_9010_0 ∧ w93p90_9010_0 ≤ 1800 := by rw [← ew93p90_9010_0]; exact (tav_b hS.1.2.1)
              have jr93_0 : rd M81 121 p5_1 = r70 := ((ka_X12_isDigit_121 h81 _).trans ((ka_X12_isLetter_121 h71 _).trans er70))
              have jr93_1 : rd M81 121 p5_1 = r70 := ((ka_X12_isDigit_121 h81 _).trans ((ka_X12_isLetter_121 h71 _).trans er70))
              exact J93 _ _ hS (by and_intros <;> omega) ((kp_X12_isDigit_120_2 h81).trans ((kp_X12_isLetter_120_2 h71).trans ((Wr.b w53 rfl).trans ((Wr.b w48 rfl).trans ((Wr.b w43 rfl).trans k41_120_2))))) ((kp_X12_isDigit_120_3 h81).trans ((kp_X12_isLetter_120_3 h71).trans w53.1)) ((kp_X12_isDigit_120_4 h81).trans ((kp_X12_isLetter_120_4 h71).trans ((Wr.b w53 rfl).trans ((Wr.b w48 rfl).trans w43.1)))) ((kp_X12_isDigit_120_5 h81).trans ((kp_X12_isLetter_120_5 h71).trans ((Wr.b w53 rfl).trans w48.1))) ((kp_X12_isDigit_120_7 h81).trans ((kp_X12_isLetter_120_7 h71).trans ((Wr.b w53 rfl).trans ((Wr.b w48 rfl).trans ((Wr.b w43 rfl).trans k41_120_7))))) ((kp_X12_isDigit_120_8 h81).trans ((kp_X12_isLetter_120_8 h71).trans ((Wr.b w53 rfl).trans ((Wr.b w48 rfl).trans ((Wr.b w43 rfl).trans k41_120_8))))) ((ka_X12_isDigit_121 h81 _).trans ((ka_X12_isLetter_121 h71 _).trans er70)) ew93p90_9010_0 (by omega) (by omega) (by omega) (by first | exact (hd_o wr71) | exact (hd_o wr71).elim (fun h1 => by omega) (fun h1 => by omega)) (by first | exact (hd_o wr81) | exact (hd_o wr81).elim (fun h1 => by omega) (fun h1 => by omega))
        · obtain ⟨w64_9010_0, ew64_9010_0⟩ : ∃ v, tav M53 = v := ⟨_, rfl⟩
          have bw64_9010_0 : (-1) ≤ w64_9010_0 ∧ w64_9010_0 ≤ 1800 := by rw [← ew64_9010_0]; exact (tav_b hS.1.2.1)
          have jt := tav_c (((Wr.b w53 rfl).trans w48.1)) (w53.1)
          rw [ew64_9010_0] at jt
          replace jt := hd_i jt
          have kr_120_3 : rd M53 120 3 = 0 := w53.1
          have kr_120_4 : rd M53 120 4 = p5_1 := ((Wr.b w53 rfl).trans ((Wr.b w48 rfl).trans w43.1))
          have kr_120_5 : rd M53 120 5 = p5_1 := ((Wr.b w53 rfl).trans w48.1)
          have kr_120_7 : rd M53 120 7 = g120_7 := ((Wr.b w53 rfl).trans ((Wr.b w48 rfl).trans ((Wr.b w43 rfl).trans k41_120_7)))
          have kr_120_8 : rd M53 120 8 = g120_8 := ((Wr.b w53 rfl).trans ((Wr.b w48 rfl).trans ((Wr.b w43 rfl).trans k41_120_8)))
          have kr_9010_0 : tav M53 = w64_9010_0 := ew64_9010_0
          exact Tr.vret (pc := 64) d_X12_next_64 rfl ⟨hS, rfl, (by omega), (by omega), (by omega), (by omega), (by exact (hd_o jt).elim (fun h1 => (hd_o jt0).elim (fun h2 => by omega) (fun h2 => by omega)) (fun h1 => (ne_o h1.1).elim (fun h2 => by omega) (fun h2 => by omega))), (by exact (hd_o jt0).elim (fun h1 => by omega) (fun h1 => (hd_o jt).elim (fun h2 => by omega) (fun h2 => (ne_o h2.1).elim (fun h3 => by omega) (fun h3 => by omega)))), (by omega)⟩
      refine Tr.icmp_ge (pc := 10) (tgt := 41) d_X12_next_10 rfl (fun c10 => ?_) (fun c10 => ?_)
      · refine Tr.pick [0, 1] (ls2 := [(0, (2, 120)), (1, (0, p5_1))]) rfl ?_
        exact J41 _ hS er7 k5_120_3 k5_120_4 k5_120_5 k5_120_7 k5_120_8 k5_9010_0 (by and_intros <;> omega)
      · refine Tr.aload_n (pc := 13) (i := 0) d_X12_next_13 rfl rfl ?_
        refine Tr.getf (pc := 14) d_X12_next_14 f_12_7 (by decide) (by decide) (ty_120 hS.1.1) ?_
        refine Tr.tp 121 (fx_120_0 hS.1.1) ?_
        refine Tr.iload_n (pc := 17) (i := 1) d_X12_next_17 rfl rfl ?_
        refine Tr.iald (pc := 18) d_X12_next_18 (ty_121 hS.1.1) (by omega) (by omega) ?_
        refine Tr.gen (P := fun v => (-2147483648) ≤ v ∧ v ≤ 2147483647) (ar_121 hS.1.2.1 _) (fun r18 er18 br18 => ?_)
        refine Tr.bipush (pc := 19) d_X12_next_19 rfl (by decide) ?_
        have J35 : ∀ (M : Mem), St Pm1 ws_X12_next_120 as_X12_next_120 M0 M → (10 ≤ r18 ∧ r18 ≤ 32) → rd M 120 2 = r7 → rd M 120 3 = g120_3 → rd M 120 4 = g120_4 → rd M 120 5 = g120_5 → rd M 120 7 = g120_7 → rd M 120 8 = g120_8 → rd M 121 p5_1 = r18 → tav M = g9010_0 → (g120_5 ≤ p5_1 ∧ g120_8 = g120_8) → Tr l K 1 mX12_next 35 [(0, (2, 120)), (1, (0, p5_1))] [] M (q_X12_next_120 M0) := by
          intro M  hS z35r18 k35_120_2 k35_120_3 k35_120_4 k35_120_5 k35_120_7 k35_120_8 k35_121_p5_110 k35_9010_0 t35_0
          clear k5_120_3 k5_120_4 k5_120_5 k5_120_7 k5_120_8 k5_9010_0 er7 er18
          refine Tr.iincV (pc := 35) (n2 := (p5_1 + 1)) (ls2 := [(1, (0, (p5_1 + 1))), (0, (2, 120))]) d_X12_next_35 rfl (by decide) ((w32_id (by and_intros <;> omega)).trans (by omega)) rfl ?_
          refine Tr.goto (pc := 38) (tgt := 5) d_X12_next_38 rfl ?_
          refine Tr.pick [1, 0] (ls2 := [(0, (2, 120)), (1, (0, (p5_1 + 1)))]) rfl ?_
          exact J5 _ _ hS (by and_intros <;> omega) k35_120_3 k35_120_4 k35_120_5 k35_120_7 k35_120_8 k35_9010_0 (by and_intros <;> omega) (me_lt hm5 (by omega) (by omega))
        refine Tr.icmp_eq (pc := 21) (tgt := 35) d_X12_next_21 rfl (fun c21 => ?_) (fun c21 => ?_)
        · refine Tr.pick [0, 1] (ls2 := [(0, (2, 120)), (1, (0, p5_1))]) rfl ?_
          exact J35 _ hS (by and_intros <;> omega) er7 k5_120_3 k5_120_4 k5_120_5 k5_120_7 k5_120_8 er18 k5_9010_0 (by and_intros <;> omega)
        · replace c21 := hd_i c21
          refine Tr.aload_n (pc := 24) (i := 0) d_X12_next_24 rfl rfl ?_
          refine Tr.getf (pc := 25) d_X12_next_25 f_12_7 (by decide) (by decide) (ty_120 hS.1.1) ?_
          refine Tr.tp 121 (fx_120_0 hS.1.1) ?_
          refine Tr.iload_n (pc := 28) (i := 1) d_X12_next_28 rfl rfl ?_
          refine Tr.iald (pc := 29) d_X12_next_29 (ty_121 hS.1.1) (by omega) (by omega) ?_
          refine Tr.tp r18 er18 ?_
          refine Tr.bipush (pc := 30) d_X12_next_30 rfl (by decide) ?_
          refine Tr.icmp_ne (pc := 32) (tgt := 41) d_X12_next_32 rfl (fun c32 => ?_) (fun c32 => ?_)
          · replace c32 := hd_i c32
            refine Tr.pick [0, 1] (ls2 := [(0, (2, 120)), (1, (0, p5_1))]) rfl ?_
            exact J41 _ hS er7 k5_120_3 k5_120_4 k5_120_5 k5_120_7 k5_120_8 k5_9010_0 (by and_intros <;> omega)
          · refine Tr.pick [0, 1] (ls2 := [(0, (2, 120)), (1, (0, p5_1))]) rfl ?_
            exact J35 _ hS (by and_intros <;> omega) er7 k5_120_3 k5_120_4 k5_120_5 k5_120_7 k5_120_8 er18 k5_9010_0 (by and_intros <;> omega)
  refine Tr.pick [1, 0] (ls2 := [(0, (2, 120)), (1, (0, g120_5))]) rfl ?_
  exact J5 _ _ _ hS (by and_intros <;> omega) eg120_3 eg120_4 eg120_5 eg120_7 eg120_8 eg9010_0 (by and_intros <;> omega) (Nat.lt_succ_self _)

set_option maxRecDepth 100000 in
set_option maxHeartbeats 4000000 in
theorem ns_X12_next_120 {l : Launch} {K : EC} {M0 : Mem} {G120_3 G120_5 G120_8 G9010_0 : Int} (hI : In Pm1 M0) (k120_3 : rd M0 120 3 = G120_3) (k120_5 : rd M0 120 5 = G120_5) (k120_8 : rd M0 120 8 = G120_8) (k9010_0 : tav M0 = G9010_0)    : Tr l K 1 mX12_next 0 [(0, (2, 120))] [] M0 (fun M' r => St Pm1 ws_X12_next_120 as_X12_next_120 M0 M' ∧ ∃ S120_3 S120_4 S120_5 S120_7 S120_8 S9010_0 : Int, rd M' 120 3 = S120_3 ∧ (0 ≤ S120_3 ∧ S120_3 ≤ 3) ∧ rd M' 120 4 = S120_4 ∧ (0 ≤ S120_4 ∧ S120_4 ≤ 900) ∧ rd M' 120 5 = S120_5 ∧ (0 ≤ S120_5 ∧ S120_5 ≤ 900) ∧ rd M' 120 7 = S120_7 ∧ ((-9223372036854775808) ≤ S120_7 ∧ S120_7 ≤ 9223372036854775807) ∧ rd M' 120 8 = S120_8 ∧ (0 ≤ S120_8 ∧ S120_8 ≤ 5) ∧ tav M' = S9010_0 ∧ ((-1) ≤ S9010_0 ∧ S9010_0 ≤ 1800) ∧ r = none ∧ Hd (S120_3 = 0 ∨ S120_4 + 1 ≤ S120_5) ∧ (S120_4 ≤ S120_5) ∧ Hd (S120_3 ≠ 1 ∨ S120_4 + 2 ≤ S120_5 ∨ S120_7 < 256) ∧ (G120_5 ≤ S120_4) ∧ (G9010_0 ≤ S9010_0) ∧ Hd (G120_3 = 0 ∨ G9010_0 < S9010_0) ∧ Hd (G120_8 = 0 ∨ S120_8 = G120_8)) := by
  subst k120_3
  subst k120_5
  subst k120_8
  subst k9010_0
  refine Tr.imp (sp_X12_next_120 hI ) ?_
  rintro M' _ ⟨hS, rfl, z0, z1, z2, z3, z4, z5, z6⟩
  exact ⟨hS, _, _, _, _, _, _, rfl, ir_120_3 hS.1.2.1, rfl, ir_120_4 hS.1.2.1, rfl, ir_120_5 hS.1.2.1, rfl, ir_120_7 hS.1.2.1, rfl, ir_120_8 hS.1.2.1, rfl, (tav_b hS.1.2.1), rfl, hd_i z0, z1, hd_i z2, z3, z4, hd_i z5, hd_i z6⟩

def ws_X12_counts_120 : List (Int × Int) := [(120, 3), (120, 4), (120, 5), (120, 6), (120, 7), (120, 8), (120, 9)]
def as_X12_counts_120 : List Int := []
def q_X12_counts_120 (a1 : Int) (M0 M' : Mem) (r : Option PV) : Prop := St Pm1 ws_X12_counts_120 as_X12_counts_120 M0 M' ∧ r = none ∧ (rd M' 120 3 = 0 ∨ rd M' 120 4 + 1 ≤ rd M' 120 5) ∧ (rd M' 120 4 ≤ rd M' 120 5) ∧ (rd M' 120 3 ≠ 1 ∨ rd M' 120 4 + 2 ≤ rd M' 120 5 ∨ rd M' 120 7 < 256) ∧ (rd M0 120 4 ≤ rd M' 120 4 ∧ rd M0 120 5 ≤ rd M' 120 5 ∧ tav M0 ≤ tav M') ∧ (rd M0 120 8 = 0 ∨ rd M' 120 8 = rd M0 120 8) ∧ (1 ≤ rd M' 120 8 ∨ tav M0 < tav M') ∧ (a1 = 0 ∨ 1 ≤ rd M' 120 8)
set_option maxRecDepth 100000 in
set_option maxHeartbeats 4000000 in
theorem sp_X12_counts_120 {l : Launch} {K : EC} {M0 : Mem} (hI : In Pm1 M0)  (a1 : Int) (ha1 : 0 ≤ a1 ∧ a1 ≤ 1)  (hq0 : rd M0 120 3 = 0 ∨ rd M0 120 4 + 1 ≤ rd M0 120 5) (hq1 : rd M0 120 4 ≤ rd M0 120 5) (hq2 : rd M0 120 3 ≠ 1 ∨ rd M0 120 4 + 2 ≤ rd M0 120 5 ∨ rd M0 120 7 < 256) (hq3 : rd M0 120 3 ≠ 0) : Tr l K 2 mX12_counts 0 [(0, (2, 120)), (1, (0, a1))] [] M0 (q_X12_counts_120 a1 M0) := by
  have hS : St Pm1 ws_X12_counts_120 as_X12_counts_120 M0 M0 := St.rf hI
  obtain ⟨g120_8, eg120_8⟩ : ∃ v, rd M0 120 8 = v := ⟨_, rfl⟩
  have bg120_8 : 0 ≤ g120_8 ∧ g120_8 ≤ 5 := by rw [← eg120_8]; exact ir_120_8 hI.2.1
  obtain ⟨g120_3, eg120_3⟩ : ∃ v, rd M0 120 3 = v := ⟨_, rfl⟩
  have bg120_3 : 0 ≤ g120_3 ∧ g120_3 ≤ 3 := by rw [← eg120_3]; exact ir_120_3 hI.2.1
  obtain ⟨g120_4, eg120_4⟩ : ∃ v, rd M0 120 4 = v := ⟨_, rfl⟩
  have bg120_4 : 0 ≤ g120_4 ∧ g120_4 ≤ 900 := by rw [← eg120_4]; exact ir_120_4 hI.2.1
  obtain ⟨g120_5, eg120_5⟩ : ∃ v, rd M0 120 5 = v := ⟨_, rfl⟩
  have bg120_5 : 0 ≤ g120_5 ∧ g120_5 ≤ 900 := by rw [← eg120_5]; exact ir_120_5 hI.2.1
  obtain ⟨g120_7, eg120_7⟩ : ∃ v, rd M0 120 7 = v := ⟨_, rfl⟩
  have bg120_7 : (-9223372036854775808) ≤ g120_7 ∧ g120_7 ≤ 9223372036854775807 := by rw [← eg120_7]; exact ir_120_7 hI.2.1
  obtain ⟨g9010_0, eg9010_0⟩ : ∃ v, tav M0 = v := ⟨_, rfl⟩
  have bg9010_0 : (-1) ≤ g9010_0 ∧ g9010_0 ≤ 1800 := by rw [← eg9010_0]; exact (tav_b hI.2.1)
  replace hq0 := hd_i hq0
  replace hq2 := hd_i hq2
  replace hq3 := hd_i hq3
  refine Tr.iload_n (pc := 0) (i := 1) d_X12_counts_0 rfl rfl ?_
  have J13 : ∀ (M : Mem) (u13_120_8 : Int), St Pm1 ws_X12_counts_120 as_X12_counts_120 M0 M → (0 ≤ u13_120_8 ∧ u13_120_8 ≤ 5) → rd M 120 3 = g120_3 → rd M 120 4 = g120_4 → rd M 120 5 = g120_5 → rd M 120 7 = g120_7 → rd M 120 8 = u13_120_8 → tav M = g9010_0 → (g120_8 = 0 ∨ u13_120_8 = g120_8) → (a1 = 0 ∨ 1 ≤ u13_120_8) → Tr l K 2 mX12_counts 13 [(0, (2, 120))] [] M (q_X12_counts_120 a1 M0) := by
    intro M u13_120_8 hS bu13_120_8 k13_120_3 k13_120_4 k13_120_5 k13_120_7 k13_120_8 k13_9010_0 t13_0 t13_1
    replace t13_0 := hd_i t13_0
    replace t13_1 := hd_i t13_1
    refine Tr.aload_n (pc := 13) (i := 0) d_X12_counts_13 rfl rfl ?_
    refine Tr.getf (pc := 14) d_X12_counts_14 f_12_36 (by decide) (by decide) (ty_120 hS.1.1) ?_
    refine Tr.tp u13_120_8 k13_120_8 ?_
    refine Tr.if_ne (pc := 17) (tgt := 24) d_X12_counts_17 rfl (fun c17 => ?_) (fun c17 => ?_)
    · have c17b : 1 ≤ u13_120_8 ∧ u13_120_8 ≤ 5 := by omega
      replace c17 := hd_i c17
      have kr_120_3 : rd M 120 3 = g120_3 := k13_120_3
      have kr_120_4 : rd M 120 4 = g120_4 := k13_120_4
      have kr_120_5 : rd M 120 5 = g120_5 := k13_120_5
      have kr_120_7 : rd M 120 7 = g120_7 := k13_120_7
      have kr_120_8 : rd M 120 8 = u13_120_8 := k13_120_8
      have kr_9010_0 : tav M = g9010_0 := k13_9010_0
      exact Tr.vret (pc := 24) d_X12_counts_24 rfl ⟨hS, rfl, (by first | exact (hd_o hq0) | exact (hd_o hq0).elim (fun h1 => by omega) (fun h1 => by omega)), (by omega), (by first | exact (hd_o hq2) | exact (hd_o hq2).elim (fun h1 => by omega) (fun h1 => h1.elim (fun h1 => by omega) (fun h1 => by omega))), (by and_intros <;> omega), (by first | exact (hd_o t13_0) | exact (hd_o t13_0).elim (fun h1 => by omega) (fun h1 => by omega)), (by omega), (by first | exact (hd_o t13_1) | exact (hd_o t13_1).elim (fun h1 => by omega) (fun h1 => by omega))⟩
    · refine Tr.aload_n (pc := 20) (i := 0) d_X12_counts_20 rfl rfl ?_
      refine Tr.callV (pc := 21) (as := []) d_X12_counts_21 s_12_396 ok_X12_next rfl rfl (Nat.le_of_ble_eq_true rfl) (Nat.le_of_ble_eq_true rfl) (by decide) (ty_120 hS.1.1) ?_
      refine Tr.imp (Tr.deep (by decide) (ns_X12_next_120 (G120_3 := g120_3) (G120_5 := g120_5) (G120_8 := u13_120_8) (G9010_0 := g9010_0) hS.1 (k13_120_3) (k13_120_5) (k13_120_8) (k13_9010_0))) ?_
      rintro M21 _ ⟨h21, s21_120_3, s21_120_4, s21_120_5, s21_120_7, s21_120_8, s21_9010_0, es21_120_3, bs21_120_3, es21_120_4, bs21_120_4, es21_120_5, bs21_120_5, es21_120_7, bs21_120_7, es21_120_8, bs21_120_8, es21_9010_0, bs21_9010_0, rfl, z21_0, z21_1, z21_2, z21_3, z21_4, z21_5, z21_6⟩
      have hS := St.tr hS h21 (by decide) (by decide)
      refine Tr.sc [] rfl ?_
      have kr_120_3 : rd M21 120 3 = s21_120_3 := es21_120_3
      have kr_120_4 : rd M21 120 4 = s21_120_4 := es21_120_4
      have kr_120_5 : rd M21 120 5 = s21_120_5 := es21_120_5
      have kr_120_7 : rd M21 120 7 = s21_120_7 := es21_120_7
      have kr_120_8 : rd M21 120 8 = s21_120_8 := es21_120_8
      have kr_9010_0 : tav M21 = s21_9010_0 := es21_9010_0
      exact Tr.vret (pc := 24) d_X12_counts_24 rfl ⟨hS, rfl, (by first | exact (hd_o z21_0) | exact (hd_o z21_0).elim (fun h1 => by omega) (fun h1 => by omega)), (by omega), (by first | exact (hd_o z21_2) | exact (hd_o z21_2).elim (fun h1 => by omega) (fun h1 => h1.elim (fun h1 => by omega) (fun h1 => by omega))), (by and_intros <;> omega), (by exact (hd_o t13_0).elim (fun h1 => by omega) (fun h1 => by omega)), (by exact (ne_o (hd_o hq3)).elim (fun h1 => by omega) (fun h1 => (hd_o z21_5).elim (fun h2 => by omega) (fun h2 => by omega))), (by exact (hd_o t13_1).elim (fun h1 => by omega) (fun h1 => by omega))⟩
  refine Tr.if_eq (pc := 1) (tgt := 13) d_X12_counts_1 rfl (fun c1 => ?_) (fun c1 => ?_)
  · refine Tr.pick [0] (ls2 := [(0, (2, 120))]) rfl ?_
    exact J13 _ _ hS (by and_intros <;> omega) eg120_3 eg120_4 eg120_5 eg120_7 eg120_8 eg9010_0 (by omega) (by omega)
  · have c1b : 1 ≤ a1 ∧ a1 ≤ 1 := by omega
    replace c1 := hd_i c1
    refine Tr.aload_n (pc := 4) (i := 0) d_X12_counts_4 rfl rfl ?_
    refine Tr.iconst (pc := 5) d_X12_counts_5 (by decide) ?_
    refine Tr.aload_n (pc := 6) (i := 0) d_X12_counts_6 rfl rfl ?_
    refine Tr.getf (pc := 7) d_X12_counts_7 f_12_23 (by decide) (by decide) (ty_120 hS.1.1) ?_
    refine Tr.tp g120_4 eg120_4 ?_
    refine Tr.callV (pc := 10) (as := [_, _]) d_X12_counts_10 s_12_389 ok_X12_blame rfl rfl (Nat.le_of_ble_eq_true rfl) (Nat.le_of_ble_eq_true rfl) (by decide) (ty_120 hS.1.1) ?_
    refine Tr.imp (Tr.deep (by decide) (ns_X12_blame_120 (G120_8 := g120_8) hS.1 (eg120_8) 5 (by omega) g120_4 (by and_intros <;> omega))) ?_
    rintro M10 _ ⟨h10, s10_120_8, es10_120_8, bs10_120_8, rfl, z10_0⟩
    have hS := St.tr hS h10 (by decide) (by decide)
    refine Tr.sc [] rfl ?_
    refine Tr.pick [0] (ls2 := [(0, (2, 120))]) rfl ?_
    exact J13 _ _ hS (by and_intros <;> omega) ((kp_X12_blame_120_120_3 h10).trans eg120_3) ((kp_X12_blame_120_120_4 h10).trans eg120_4) ((kp_X12_blame_120_120_5 h10).trans eg120_5) ((kp_X12_blame_120_120_7 h10).trans eg120_7) es10_120_8 ((tav_of ((kp_X12_blame_120_120_5 h10).trans rfl) ((kp_X12_blame_120_120_3 h10).trans rfl)).trans eg9010_0) (by exact (hd_o z10_0).elim (fun h1 => by omega) (fun h1 => by omega)) (by exact (hd_o z10_0).elim (fun h1 => by omega) (fun h1 => by omega))
end
/-! 38.01 -/
section
set_option maxRecDepth 100000 in
set_option maxHeartbeats 4000000 in
theorem ns_X12_counts_120 {l : Launch} {K : EC} {M0 : Mem} {G120_3 G120_4 G120_5 G120_7 G120_8 G9010_0 : Int} (hI : In Pm1 M0) (k120_3 : rd M0 120 3 = G120_3) (k120_4 : rd M0 120 4 = G120_4) (k120_5 : rd M0 120 5 = G120_5) (k120_7 : rd M0 120 7 = G120_7) (k120_8 : rd M0 120 8 = G120_8) (k9010_0 : tav M0 = G9010_0)  (a1 : Int) (ha1 : 0 ≤ a1 ∧ a1 ≤ 1)  (hq0 : G120_3 = 0 ∨ G120_4 + 1 ≤ G120_5) (hq1 : G120_4 ≤ G120_5) (hq2 : G120_3 ≠ 1 ∨ G120_4 + 2 ≤ G120_5 ∨ G120_7 < 256) (hq3 : G120_3 ≠ 0) : Tr l K 2 mX12_counts 0 [(0, (2, 120)), (1, (0, a1))] [] M0 (fun M' r => St Pm1 ws_X12_counts_120 as_X12_counts_120 M0 M' ∧ ∃ S120_3 S120_4 S120_5 S120_7 S120_8 S9010_0 : Int, rd M' 120 3 = S120_3 ∧ (0 ≤ S120_3 ∧ S120_3 ≤ 3) ∧ rd M' 120 4 = S120_4 ∧ (0 ≤ S120_4 ∧ S120_4 ≤ 900) ∧ rd M' 120 5 = S120_5 ∧ (0 ≤ S120_5 ∧ S120_5 ≤ 900) ∧ rd M' 120 7 = S120_7 ∧ ((-9223372036854775808) ≤ S120_7 ∧ S120_7 ≤ 9223372036854775807) ∧ rd M' 120 8 = S120_8 ∧ (0 ≤ S120_8 ∧ S120_8 ≤ 5) ∧ tav M' = S9010_0 ∧ ((-1) ≤ S9010_0 ∧ S9010_0 ≤ 1800) ∧ r = none ∧ Hd (S120_3 = 0 ∨ S120_4 + 1 ≤ S120_5) ∧ (S120_4 ≤ S120_5) ∧ Hd (S120_3 ≠ 1 ∨ S120_4 + 2 ≤ S120_5 ∨ S120_7 < 256) ∧ (G120_4 ≤ S120_4 ∧ G120_5 ≤ S120_5 ∧ G9010_0 ≤ S9010_0) ∧ Hd (G120_8 = 0 ∨ S120_8 = G120_8) ∧ Hd (1 ≤ S120_8 ∨ G9010_0 < S9010_0) ∧ Hd (a1 = 0 ∨ 1 ≤ S120_8)) := by
  subst k120_3
  subst k120_4
  subst k120_5
  subst k120_7
  subst k120_8
  subst k9010_0
  refine Tr.imp (sp_X12_counts_120 hI a1 ha1 hq0 hq1 hq2 hq3) ?_
  rintro M' _ ⟨hS, rfl, z0, z1, z2, z3, z4, z5, z6⟩
  exact ⟨hS, _, _, _, _, _, _, rfl, ir_120_3 hS.1.2.1, rfl, ir_120_4 hS.1.2.1, rfl, ir_120_5 hS.1.2.1, rfl, ir_120_7 hS.1.2.1, rfl, ir_120_8 hS.1.2.1, rfl, (tav_b hS.1.2.1), rfl, hd_i z0, z1, hd_i z2, z3, hd_i z4, hd_i z5, hd_i z6⟩

def ws_X12_fresh_120 : List (Int × Int) := [(120, 3), (120, 4), (120, 5), (120, 6), (120, 7), (120, 8), (120, 9)]
def as_X12_fresh_120 : List Int := []
def q_X12_fresh_120 (M0 M' : Mem) (r : Option PV) : Prop := St Pm1 ws_X12_fresh_120 as_X12_fresh_120 M0 M' ∧ ∃ v : Int, r = some (1, v) ∧ (-9223372036854775808) ≤ v ∧ v ≤ 9223372036854775807 ∧ (rd M' 120 3 = 0 ∨ rd M' 120 4 + 1 ≤ rd M' 120 5) ∧ (rd M' 120 4 ≤ rd M' 120 5) ∧ (rd M' 120 3 ≠ 1 ∨ rd M' 120 4 + 2 ≤ rd M' 120 5 ∨ rd M' 120 7 < 256) ∧ (rd M0 120 4 ≤ rd M' 120 4 ∧ rd M0 120 5 ≤ rd M' 120 5 ∧ tav M0 ≤ tav M') ∧ (rd M0 120 8 = 0 ∨ rd M' 120 8 = rd M0 120 8) ∧ (1 ≤ rd M' 120 8 ∨ tav M0 < tav M')
theorem kp_X12_fresh_120_120_37 {q : Mem → Prop} {M0 M : Mem} (h : St q ws_X12_fresh_120 as_X12_fresh_120 M0 M) : rd M 120 37 = rd M0 120 37 := St.kp h (by decide) (by decide) (by decide)
theorem ka_X12_partOf_120_131 {q : Mem → Prop} {M0 M : Mem} (h : St q ws_X12_partOf_120 as_X12_partOf_120 M0 M) (j : Int) : rd M 131 j = rd M0 131 j := St.ka h (by decide) (by decide) (by decide)
theorem ka_X12_partOf_120_137 {q : Mem → Prop} {M0 M : Mem} (h : St q ws_X12_partOf_120 as_X12_partOf_120 M0 M) (j : Int) : rd M 137 j = rd M0 137 j := St.ka h (by decide) (by decide) (by decide)
theorem ka_X12_partOf_120_138 {q : Mem → Prop} {M0 M : Mem} (h : St q ws_X12_partOf_120 as_X12_partOf_120 M0 M) (j : Int) : rd M 138 j = rd M0 138 j := St.ka h (by decide) (by decide) (by decide)
theorem ka_X12_partOf_120_139 {q : Mem → Prop} {M0 M : Mem} (h : St q ws_X12_partOf_120 as_X12_partOf_120 M0 M) (j : Int) : rd M 139 j = rd M0 139 j := St.ka h (by decide) (by decide) (by decide)
theorem ka_X12_partOf_120_140 {q : Mem → Prop} {M0 M : Mem} (h : St q ws_X12_partOf_120 as_X12_partOf_120 M0 M) (j : Int) : rd M 140 j = rd M0 140 j := St.ka h (by decide) (by decide) (by decide)
theorem ka_X12_partOf_120_141 {q : Mem → Prop} {M0 M : Mem} (h : St q ws_X12_partOf_120 as_X12_partOf_120 M0 M) (j : Int) : rd M 141 j = rd M0 141 j := St.ka h (by decide) (by decide) (by decide)
theorem ka_X12_partOf_120_142 {q : Mem → Prop} {M0 M : Mem} (h : St q ws_X12_partOf_120 as_X12_partOf_120 M0 M) (j : Int) : rd M 142 j = rd M0 142 j := St.ka h (by decide) (by decide) (by decide)
theorem ka_X12_partOf_120_143 {q : Mem → Prop} {M0 M : Mem} (h : St q ws_X12_partOf_120 as_X12_partOf_120 M0 M) (j : Int) : rd M 143 j = rd M0 143 j := St.ka h (by decide) (by decide) (by decide)
theorem ka_X12_partOf_120_151 {q : Mem → Prop} {M0 M : Mem} (h : St q ws_X12_partOf_120 as_X12_partOf_120 M0 M) (j : Int) : rd M 151 j = rd M0 151 j := St.ka h (by decide) (by decide) (by decide)
theorem ka_X12_partOf_120_152 {q : Mem → Prop} {M0 M : Mem} (h : St q ws_X12_partOf_120 as_X12_partOf_120 M0 M) (j : Int) : rd M 152 j = rd M0 152 j := St.ka h (by decide) (by decide) (by decide)
theorem kp_X12_partOf_120_126_0 {q : Mem → Prop} {M0 M : Mem} (h : St q ws_X12_partOf_120 as_X12_partOf_120 M0 M) : rd M 126 0 = rd M0 126 0 := St.kp h (by decide) (by decide) (by decide)
theorem kp_X12_partOf_120_126_1 {q : Mem → Prop} {M0 M : Mem} (h : St q ws_X12_partOf_120 as_X12_partOf_120 M0 M) : rd M 126 1 = rd M0 126 1 := St.kp h (by decide) (by decide) (by decide)
theorem kp_X12_partOf_120_136_0 {q : Mem → Prop} {M0 M : Mem} (h : St q ws_X12_partOf_120 as_X12_partOf_120 M0 M) : rd M 136 0 = rd M0 136 0 := St.kp h (by decide) (by decide) (by decide)
theorem kp_X12_partOf_120_136_1 {q : Mem → Prop} {M0 M : Mem} (h : St q ws_X12_partOf_120 as_X12_partOf_120 M0 M) : rd M 136 1 = rd M0 136 1 := St.kp h (by decide) (by decide) (by decide)
theorem kp_X12_partOf_120_123_0 {q : Mem → Prop} {M0 M : Mem} (h : St q ws_X12_partOf_120 as_X12_partOf_120 M0 M) : rd M 123 0 = rd M0 123 0 := St.kp h (by decide) (by decide) (by decide)
theorem kp_X12_partOf_120_123_1 {q : Mem → Prop} {M0 M : Mem} (h : St q ws_X12_partOf_120 as_X12_partOf_120 M0 M) : rd M 123 1 = rd M0 123 1 := St.kp h (by decide) (by decide) (by decide)
theorem kp_X12_partOf_120_124_0 {q : Mem → Prop} {M0 M : Mem} (h : St q ws_X12_partOf_120 as_X12_partOf_120 M0 M) : rd M 124 0 = rd M0 124 0 := St.kp h (by decide) (by decide) (by decide)
theorem kp_X12_partOf_120_124_1 {q : Mem → Prop} {M0 M : Mem} (h : St q ws_X12_partOf_120 as_X12_partOf_120 M0 M) : rd M 124 1 = rd M0 124 1 := St.kp h (by decide) (by decide) (by decide)
theorem kp_X12_partOf_120_120_8 {q : Mem → Prop} {M0 M : Mem} (h : St q ws_X12_partOf_120 as_X12_partOf_120 M0 M) : rd M 120 8 = rd M0 120 8 := St.kp h (by decide) (by decide) (by decide)
theorem kp_X12_partOf_120_120_36 {q : Mem → Prop} {M0 M : Mem} (h : St q ws_X12_partOf_120 as_X12_partOf_120 M0 M) : rd M 120 36 = rd M0 120 36 := St.kp h (by decide) (by decide) (by decide)
theorem kp_X12_partOf_120_120_50 {q : Mem → Prop} {M0 M : Mem} (h : St q ws_X12_partOf_120 as_X12_partOf_120 M0 M) : rd M 120 50 = rd M0 120 50 := St.kp h (by decide) (by decide) (by decide)
theorem kp_X12_partOf_120_120_3 {q : Mem → Prop} {M0 M : Mem} (h : St q ws_X12_partOf_120 as_X12_partOf_120 M0 M) : rd M 120 3 = rd M0 120 3 := St.kp h (by decide) (by decide) (by decide)
theorem kp_X12_partOf_120_120_4 {q : Mem → Prop} {M0 M : Mem} (h : St q ws_X12_partOf_120 as_X12_partOf_120 M0 M) : rd M 120 4 = rd M0 120 4 := St.kp h (by decide) (by decide) (by decide)
theorem kp_X12_partOf_120_120_5 {q : Mem → Prop} {M0 M : Mem} (h : St q ws_X12_partOf_120 as_X12_partOf_120 M0 M) : rd M 120 5 = rd M0 120 5 := St.kp h (by decide) (by decide) (by decide)
theorem kp_X12_partOf_120_120_7 {q : Mem → Prop} {M0 M : Mem} (h : St q ws_X12_partOf_120 as_X12_partOf_120 M0 M) : rd M 120 7 = rd M0 120 7 := St.kp h (by decide) (by decide) (by decide)
theorem ka_X12_inputOf_120_131 {q : Mem → Prop} {M0 M : Mem} (h : St q ws_X12_inputOf_120 as_X12_inputOf_120 M0 M) (j : Int) : rd M 131 j = rd M0 131 j := St.ka h (by decide) (by decide) (by decide)
theorem ka_X12_inputOf_120_137 {q : Mem → Prop} {M0 M : Mem} (h : St q ws_X12_inputOf_120 as_X12_inputOf_120 M0 M) (j : Int) : rd M 137 j = rd M0 137 j := St.ka h (by decide) (by decide) (by decide)
theorem ka_X12_inputOf_120_138 {q : Mem → Prop} {M0 M : Mem} (h : St q ws_X12_inputOf_120 as_X12_inputOf_120 M0 M) (j : Int) : rd M 138 j = rd M0 138 j := St.ka h (by decide) (by decide) (by decide)
theorem ka_X12_inputOf_120_139 {q : Mem → Prop} {M0 M : Mem} (h : St q ws_X12_inputOf_120 as_X12_inputOf_120 M0 M) (j : Int) : rd M 139 j = rd M0 139 j := St.ka h (by decide) (by decide) (by decide)
theorem ka_X12_inputOf_120_140 {q : Mem → Prop} {M0 M : Mem} (h : St q ws_X12_inputOf_120 as_X12_inputOf_120 M0 M) (j : Int) : rd M 140 j = rd M0 140 j := St.ka h (by decide) (by decide) (by decide)
theorem ka_X12_inputOf_120_141 {q : Mem → Prop} {M0 M : Mem} (h : St q ws_X12_inputOf_120 as_X12_inputOf_120 M0 M) (j : Int) : rd M 141 j = rd M0 141 j := St.ka h (by decide) (by decide) (by decide)
theorem ka_X12_inputOf_120_142 {q : Mem → Prop} {M0 M : Mem} (h : St q ws_X12_inputOf_120 as_X12_inputOf_120 M0 M) (j : Int) : rd M 142 j = rd M0 142 j := St.ka h (by decide) (by decide) (by decide)
theorem ka_X12_inputOf_120_143 {q : Mem → Prop} {M0 M : Mem} (h : St q ws_X12_inputOf_120 as_X12_inputOf_120 M0 M) (j : Int) : rd M 143 j = rd M0 143 j := St.ka h (by decide) (by decide) (by decide)
theorem ka_X12_inputOf_120_151 {q : Mem → Prop} {M0 M : Mem} (h : St q ws_X12_inputOf_120 as_X12_inputOf_120 M0 M) (j : Int) : rd M 151 j = rd M0 151 j := St.ka h (by decide) (by decide) (by decide)
theorem ka_X12_inputOf_120_152 {q : Mem → Prop} {M0 M : Mem} (h : St q ws_X12_inputOf_120 as_X12_inputOf_120 M0 M) (j : Int) : rd M 152 j = rd M0 152 j := St.ka h (by decide) (by decide) (by decide)
theorem kp_X12_inputOf_120_126_0 {q : Mem → Prop} {M0 M : Mem} (h : St q ws_X12_inputOf_120 as_X12_inputOf_120 M0 M) : rd M 126 0 = rd M0 126 0 := St.kp h (by decide) (by decide) (by decide)
theorem kp_X12_inputOf_120_126_1 {q : Mem → Prop} {M0 M : Mem} (h : St q ws_X12_inputOf_120 as_X12_inputOf_120 M0 M) : rd M 126 1 = rd M0 126 1 := St.kp h (by decide) (by decide) (by decide)
theorem kp_X12_inputOf_120_136_0 {q : Mem → Prop} {M0 M : Mem} (h : St q ws_X12_inputOf_120 as_X12_inputOf_120 M0 M) : rd M 136 0 = rd M0 136 0 := St.kp h (by decide) (by decide) (by decide)
theorem kp_X12_inputOf_120_136_1 {q : Mem → Prop} {M0 M : Mem} (h : St q ws_X12_inputOf_120 as_X12_inputOf_120 M0 M) : rd M 136 1 = rd M0 136 1 := St.kp h (by decide) (by decide) (by decide)
theorem kp_X12_inputOf_120_123_0 {q : Mem → Prop} {M0 M : Mem} (h : St q ws_X12_inputOf_120 as_X12_inputOf_120 M0 M) : rd M 123 0 = rd M0 123 0 := St.kp h (by decide) (by decide) (by decide)
theorem kp_X12_inputOf_120_123_1 {q : Mem → Prop} {M0 M : Mem} (h : St q ws_X12_inputOf_120 as_X12_inputOf_120 M0 M) : rd M 123 1 = rd M0 123 1 := St.kp h (by decide) (by decide) (by decide)
theorem kp_X12_inputOf_120_124_0 {q : Mem → Prop} {M0 M : Mem} (h : St q ws_X12_inputOf_120 as_X12_inputOf_120 M0 M) : rd M 124 0 = rd M0 124 0 := St.kp h (by decide) (by decide) (by decide)
theorem kp_X12_inputOf_120_124_1 {q : Mem → Prop} {M0 M : Mem} (h : St q ws_X12_inputOf_120 as_X12_inputOf_120 M0 M) : rd M 124 1 = rd M0 124 1 := St.kp h (by decide) (by decide) (by decide)
theorem kp_X12_inputOf_120_120_8 {q : Mem → Prop} {M0 M : Mem} (h : St q ws_X12_inputOf_120 as_X12_inputOf_120 M0 M) : rd M 120 8 = rd M0 120 8 := St.kp h (by decide) (by decide) (by decide)
theorem kp_X12_inputOf_120_120_36 {q : Mem → Prop} {M0 M : Mem} (h : St q ws_X12_inputOf_120 as_X12_inputOf_120 M0 M) : rd M 120 36 = rd M0 120 36 := St.kp h (by decide) (by decide) (by decide)
theorem kp_X12_inputOf_120_120_50 {q : Mem → Prop} {M0 M : Mem} (h : St q ws_X12_inputOf_120 as_X12_inputOf_120 M0 M) : rd M 120 50 = rd M0 120 50 := St.kp h (by decide) (by decide) (by decide)
theorem kp_X12_inputOf_120_120_3 {q : Mem → Prop} {M0 M : Mem} (h : St q ws_X12_inputOf_120 as_X12_inputOf_120 M0 M) : rd M 120 3 = rd M0 120 3 := St.kp h (by decide) (by decide) (by decide)
theorem kp_X12_inputOf_120_120_4 {q : Mem → Prop} {M0 M : Mem} (h : St q ws_X12_inputOf_120 as_X12_inputOf_120 M0 M) : rd M 120 4 = rd M0 120 4 := St.kp h (by decide) (by decide) (by decide)
theorem kp_X12_inputOf_120_120_5 {q : Mem → Prop} {M0 M : Mem} (h : St q ws_X12_inputOf_120 as_X12_inputOf_120 M0 M) : rd M 120 5 = rd M0 120 5 := St.kp h (by decide) (by decide) (by decide)
theorem kp_X12_inputOf_120_120_7 {q : Mem → Prop} {M0 M : Mem} (h : St q ws_X12_inputOf_120 as_X12_inputOf_120 M0 M) : rd M 120 7 = rd M0 120 7 := St.kp h (by decide) (by decide) (by decide)
theorem ka_X12_varOf_120_131 {q : Mem → Prop} {M0 M : Mem} (h : St q ws_X12_varOf_120 as_X12_varOf_120 M0 M) (j : Int) : rd M 131 j = rd M0 131 j := St.ka h (by decide) (by decide) (by decide)
theorem ka_X12_varOf_120_137 {q : Mem → Prop} {M0 M : Mem} (h : St q ws_X12_varOf_120 as_X12_varOf_120 M0 M) (j : Int) : rd M 137 j = rd M0 137 j := St.ka h (by decide) (by decide) (by decide)
theorem ka_X12_varOf_120_138 {q : Mem → Prop} {M0 M : Mem} (h : St q ws_X12_varOf_120 as_X12_varOf_120 M0 M) (j : Int) : rd M 138 j = rd M0 138 j := St.ka h (by decide) (by decide) (by decide)
theorem ka_X12_varOf_120_139 {q : Mem → Prop} {M0 M : Mem} (h : St q ws_X12_varOf_120 as_X12_varOf_120 M0 M) (j : Int) : rd M 139 j = rd M0 139 j := St.ka h (by decide) (by decide) (by decide)
theorem ka_X12_varOf_120_140 {q : Mem → Prop} {M0 M : Mem} (h : St q ws_X12_varOf_120 as_X12_varOf_120 M0 M) (j : Int) : rd M 140 j = rd M0 140 j := St.ka h (by decide) (by decide) (by decide)
theorem ka_X12_varOf_120_141 {q : Mem → Prop} {M0 M : Mem} (h : St q ws_X12_varOf_120 as_X12_varOf_120 M0 M) (j : Int) : rd M 141 j = rd M0 141 j := St.ka h (by decide) (by decide) (by decide)
theorem ka_X12_varOf_120_142 {q : Mem → Prop} {M0 M : Mem} (h : St q ws_X12_varOf_120 as_X12_varOf_120 M0 M) (j : Int) : rd M 142 j = rd M0 142 j := St.ka h (by decide) (by decide) (by decide)
theorem ka_X12_varOf_120_143 {q : Mem → Prop} {M0 M : Mem} (h : St q ws_X12_varOf_120 as_X12_varOf_120 M0 M) (j : Int) : rd M 143 j = rd M0 143 j := St.ka h (by decide) (by decide) (by decide)
theorem ka_X12_varOf_120_151 {q : Mem → Prop} {M0 M : Mem} (h : St q ws_X12_varOf_120 as_X12_varOf_120 M0 M) (j : Int) : rd M 151 j = rd M0 151 j := St.ka h (by decide) (by decide) (by decide)
theorem ka_X12_varOf_120_152 {q : Mem → Prop} {M0 M : Mem} (h : St q ws_X12_varOf_120 as_X12_varOf_120 M0 M) (j : Int) : rd M 152 j = rd M0 152 j := St.ka h (by decide) (by decide) (by decide)
theorem kp_X12_varOf_120_126_0 {q : Mem → Prop} {M0 M : Mem} (h : St q ws_X12_varOf_120 as_X12_varOf_120 M0 M) : rd M 126 0 = rd M0 126 0 := St.kp h (by decide) (by decide) (by decide)
theorem kp_X12_varOf_120_126_1 {q : Mem → Prop} {M0 M : Mem} (h : St q ws_X12_varOf_120 as_X12_varOf_120 M0 M) : rd M 126 1 = rd M0 126 1 := St.kp h (by decide) (by decide) (by decide)
theorem kp_X12_varOf_120_136_0 {q : Mem → Prop} {M0 M : Mem} (h : St q ws_X12_varOf_120 as_X12_varOf_120 M0 M) : rd M 136 0 = rd M0 136 0 := St.kp h (by decide) (by decide) (by decide)
theorem kp_X12_varOf_120_136_1 {q : Mem → Prop} {M0 M : Mem} (h : St q ws_X12_varOf_120 as_X12_varOf_120 M0 M) : rd M 136 1 = rd M0 136 1 := St.kp h (by decide) (by decide) (by decide)
theorem kp_X12_varOf_120_123_0 {q : Mem → Prop} {M0 M : Mem} (h : St q ws_X12_varOf_120 as_X12_varOf_120 M0 M) : rd M 123 0 = rd M0 123 0 := St.kp h (by decide) (by decide) (by decide)
theorem kp_X12_varOf_120_123_1 {q : Mem → Prop} {M0 M : Mem} (h : St q ws_X12_varOf_120 as_X12_varOf_120 M0 M) : rd M 123 1 = rd M0 123 1 := St.kp h (by decide) (by decide) (by decide)
theorem kp_X12_varOf_120_124_0 {q : Mem → Prop} {M0 M : Mem} (h : St q ws_X12_varOf_120 as_X12_varOf_120 M0 M) : rd M 124 0 = rd M0 124 0 := St.kp h (by decide) (by decide) (by decide)
theorem kp_X12_varOf_120_124_1 {q : Mem → Prop} {M0 M : Mem} (h : St q ws_X12_varOf_120 as_X12_varOf_120 M0 M) : rd M 124 1 = rd M0 124 1 := St.kp h (by decide) (by decide) (by decide)
theorem kp_X12_varOf_120_120_8 {q : Mem → Prop} {M0 M : Mem} (h : St q ws_X12_varOf_120 as_X12_varOf_120 M0 M) : rd M 120 8 = rd M0 120 8 := St.kp h (by decide) (by decide) (by decide)
theorem kp_X12_varOf_120_120_36 {q : Mem → Prop} {M0 M : Mem} (h : St q ws_X12_varOf_120 as_X12_varOf_120 M0 M) : rd M 120 36 = rd M0 120 36 := St.kp h (by decide) (by decide) (by decide)
theorem kp_X12_varOf_120_120_50 {q : Mem → Prop} {M0 M : Mem} (h : St q ws_X12_varOf_120 as_X12_varOf_120 M0 M) : rd M 120 50 = rd M0 120 50 := St.kp h (by decide) (by decide) (by decide)
theorem kp_X12_varOf_120_120_3 {q : Mem → Prop} {M0 M : Mem} (h : St q ws_X12_varOf_120 as_X12_varOf_120 M0 M) : rd M 120 3 = rd M0 120 3 := St.kp h (by decide) (by decide) (by decide)
theorem kp_X12_varOf_120_120_4 {q : Mem → Prop} {M0 M : Mem} (h : St q ws_X12_varOf_120 as_X12_varOf_120 M0 M) : rd M 120 4 = rd M0 120 4 := St.kp h (by decide) (by decide) (by decide)
theorem kp_X12_varOf_120_120_5 {q : Mem → Prop} {M0 M : Mem} (h : St q ws_X12_varOf_120 as_X12_varOf_120 M0 M) : rd M 120 5 = rd M0 120 5 := St.kp h (by decide) (by decide) (by decide)
theorem kp_X12_varOf_120_120_7 {q : Mem → Prop} {M0 M : Mem} (h : St q ws_X12_varOf_120 as_X12_varOf_120 M0 M) : rd M 120 7 = rd M0 120 7 := St.kp h (by decide) (by decide) (by decide)
theorem ka_X12_isOwn_120_131 {q : Mem → Prop} {M0 M : Mem} (h : St q ws_X12_isOwn_120 as_X12_isOwn_120 M0 M) (j : Int) : rd M 131 j = rd M0 131 j := St.ka h (by decide) (by decide) (by decide)
theorem ka_X12_isOwn_120_137 {q : Mem → Prop} {M0 M : Mem} (h : St q ws_X12_isOwn_120 as_X12_isOwn_120 M0 M) (j : Int) : rd M 137 j = rd M0 137 j := St.ka h (by decide) (by decide) (by decide)
theorem ka_X12_isOwn_120_138 {q : Mem → Prop} {M0 M : Mem} (h : St q ws_X12_isOwn_120 as_X12_isOwn_120 M0 M) (j : Int) : rd M 138 j = rd M0 138 j := St.ka h (by decide) (by decide) (by decide)
theorem ka_X12_isOwn_120_139 {q : Mem → Prop} {M0 M : Mem} (h : St q ws_X12_isOwn_120 as_X12_isOwn_120 M0 M) (j : Int) : rd M 139 j = rd M0 139 j := St.ka h (by decide) (by decide) (by decide)
theorem ka_X12_isOwn_120_140 {q : Mem → Prop} {M0 M : Mem} (h : St q ws_X12_isOwn_120 as_X12_isOwn_120 M0 M) (j : Int) : rd M 140 j = rd M0 140 j := St.ka h (by decide) (by decide) (by decide)
theorem ka_X12_isOwn_120_141 {q : Mem → Prop} {M0 M : Mem} (h : St q ws_X12_isOwn_120 as_X12_isOwn_120 M0 M) (j : Int) : rd M 141 j = rd M0 141 j := St.ka h (by decide) (by decide) (by decide)
theorem ka_X12_isOwn_120_142 {q : Mem → Prop} {M0 M : Mem} (h : St q ws_X12_isOwn_120 as_X12_isOwn_120 M0 M) (j : Int) : rd M 142 j = rd M0 142 j := St.ka h (by decide) (by decide) (by decide)
theorem ka_X12_isOwn_120_143 {q : Mem → Prop} {M0 M : Mem} (h : St q ws_X12_isOwn_120 as_X12_isOwn_120 M0 M) (j : Int) : rd M 143 j = rd M0 143 j := St.ka h (by decide) (by decide) (by decide)
theorem ka_X12_isOwn_120_151 {q : Mem → Prop} {M0 M : Mem} (h : St q ws_X12_isOwn_120 as_X12_isOwn_120 M0 M) (j : Int) : rd M 151 j = rd M0 151 j := St.ka h (by decide) (by decide) (by decide)
theorem ka_X12_isOwn_120_152 {q : Mem → Prop} {M0 M : Mem} (h : St q ws_X12_isOwn_120 as_X12_isOwn_120 M0 M) (j : Int) : rd M 152 j = rd M0 152 j := St.ka h (by decide) (by decide) (by decide)
theorem kp_X12_isOwn_120_126_0 {q : Mem → Prop} {M0 M : Mem} (h : St q ws_X12_isOwn_120 as_X12_isOwn_120 M0 M) : rd M 126 0 = rd M0 126 0 := St.kp h (by decide) (by decide) (by decide)
theorem kp_X12_isOwn_120_126_1 {q : Mem → Prop} {M0 M : Mem} (h : St q ws_X12_isOwn_120 as_X12_isOwn_120 M0 M) : rd M 126 1 = rd M0 126 1 := St.kp h (by decide) (by decide) (by decide)
theorem kp_X12_isOwn_120_136_0 {q : Mem → Prop} {M0 M : Mem} (h : St q ws_X12_isOwn_120 as_X12_isOwn_120 M0 M) : rd M 136 0 = rd M0 136 0 := St.kp h (by decide) (by decide) (by decide)
theorem kp_X12_isOwn_120_136_1 {q : Mem → Prop} {M0 M : Mem} (h : St q ws_X12_isOwn_120 as_X12_isOwn_120 M0 M) : rd M 136 1 = rd M0 136 1 := St.kp h (by decide) (by decide) (by decide)
theorem kp_X12_isOwn_120_123_0 {q : Mem → Prop} {M0 M : Mem} (h : St q ws_X12_isOwn_120 as_X12_isOwn_120 M0 M) : rd M 123 0 = rd M0 123 0 := St.kp h (by decide) (by decide) (by decide)
theorem kp_X12_isOwn_120_123_1 {q : Mem → Prop} {M0 M : Mem} (h : St q ws_X12_isOwn_120 as_X12_isOwn_120 M0 M) : rd M 123 1 = rd M0 123 1 := St.kp h (by decide) (by decide) (by decide)
theorem kp_X12_isOwn_120_124_0 {q : Mem → Prop} {M0 M : Mem} (h : St q ws_X12_isOwn_120 as_X12_isOwn_120 M0 M) : rd M 124 0 = rd M0 124 0 := St.kp h (by decide) (by decide) (by decide)
theorem kp_X12_isOwn_120_124_1 {q : Mem → Prop} {M0 M : Mem} (h : St q ws_X12_isOwn_120 as_X12_isOwn_120 M0 M) : rd M 124 1 = rd M0 124 1 := St.kp h (by decide) (by decide) (by decide)
theorem kp_X12_isOwn_120_120_8 {q : Mem → Prop} {M0 M : Mem} (h : St q ws_X12_isOwn_120 as_X12_isOwn_120 M0 M) : rd M 120 8 = rd M0 120 8 := St.kp h (by decide) (by decide) (by decide)
theorem kp_X12_isOwn_120_120_36 {q : Mem → Prop} {M0 M : Mem} (h : St q ws_X12_isOwn_120 as_X12_isOwn_120 M0 M) : rd M 120 36 = rd M0 120 36 := St.kp h (by decide) (by decide) (by decide)
theorem kp_X12_isOwn_120_120_50 {q : Mem → Prop} {M0 M : Mem} (h : St q ws_X12_isOwn_120 as_X12_isOwn_120 M0 M) : rd M 120 50 = rd M0 120 50 := St.kp h (by decide) (by decide) (by decide)
theorem kp_X12_isOwn_120_120_3 {q : Mem → Prop} {M0 M : Mem} (h : St q ws_X12_isOwn_120 as_X12_isOwn_120 M0 M) : rd M 120 3 = rd M0 120 3 := St.kp h (by decide) (by decide) (by decide)
theorem kp_X12_isOwn_120_120_4 {q : Mem → Prop} {M0 M : Mem} (h : St q ws_X12_isOwn_120 as_X12_isOwn_120 M0 M) : rd M 120 4 = rd M0 120 4 := St.kp h (by decide) (by decide) (by decide)
theorem kp_X12_isOwn_120_120_5 {q : Mem → Prop} {M0 M : Mem} (h : St q ws_X12_isOwn_120 as_X12_isOwn_120 M0 M) : rd M 120 5 = rd M0 120 5 := St.kp h (by decide) (by decide) (by decide)
theorem kp_X12_isOwn_120_120_7 {q : Mem → Prop} {M0 M : Mem} (h : St q ws_X12_isOwn_120 as_X12_isOwn_120 M0 M) : rd M 120 7 = rd M0 120 7 := St.kp h (by decide) (by decide) (by decide)
set_option maxRecDepth 100000 in
set_option maxHeartbeats 4000000 in
theorem sp_X12_fresh_120 {l : Launch} {K : EC} {M0 : Mem} (hI : In Pm1 M0) (en_120_37 : rd M0 120 37 = 1)   (hq0 : rd M0 120 3 = 0 ∨ rd M0 120 4 + 1 ≤ rd M0 120 5) (hq1 : rd M0 120 4 ≤ rd M0 120 5) (hq2 : rd M0 120 3 ≠ 1 ∨ rd M0 120 4 + 2 ≤ rd M0 120 5 ∨ rd M0 120 7 < 256) : Tr l K 2 mX12_fresh 0 [(0, (2, 120))] [] M0 (q_X12_fresh_120 M0) := by
  have hS : St Pm1 ws_X12_fresh_120 as_X12_fresh_120 M0 M0 := St.rf hI
  obtain ⟨g120_8, eg120_8⟩ : ∃ v, rd M0 120 8 = v := ⟨_, rfl⟩
  have bg120_8 : 0 ≤ g120_8 ∧ g120_8 ≤ 5 := by rw [← eg120_8]; exact ir_120_8 hI.2.1
  obtain ⟨g120_3, eg120_3⟩ : ∃ v, rd M0 120 3 = v := ⟨_, rfl⟩
  have bg120_3 : 0 ≤ g120_3 ∧ g120_3 ≤ 3 := by rw [← eg120_3]; exact ir_120_3 hI.2.1
  obtain ⟨g120_4, eg120_4⟩ : ∃ v, rd M0 120 4 = v := ⟨_, rfl⟩
  have bg120_4 : 0 ≤ g120_4 ∧ g120_4 ≤ 900 := by rw [← eg120_4]; exact ir_120_4 hI.2.1
  obtain ⟨g120_5, eg120_5⟩ : ∃ v, rd M0 120 5 = v := ⟨_, rfl⟩
  have bg120_5 : 0 ≤ g120_5 ∧ g120_5 ≤ 900 := by rw [← eg120_5]; exact ir_120_5 hI.2.1
  obtain ⟨g120_7, eg120_7⟩ : ∃ v, rd M0 120 7 = v := ⟨_, rfl⟩
  have bg120_7 : (-9223372036854775808) ≤ g120_7 ∧ g120_7 ≤ 9223372036854775807 := by rw [← eg120_7]; exact ir_120_7 hI.2.1
  obtain ⟨g9010_0, eg9010_0⟩ : ∃ v, tav M0 = v := ⟨_, rfl⟩
  have bg9010_0 : (-1) ≤ g9010_0 ∧ g9010_0 ≤ 1800 := by rw [← eg9010_0]; exact (tav_b hI.2.1)
  replace hq0 := hd_i hq0
  replace hq2 := hd_i hq2
  refine Tr.aload_n (pc := 0) (i := 0) d_X12_fresh_0 rfl rfl ?_
  refine Tr.getf (pc := 1) d_X12_fresh_1 f_12_36 (by decide) (by decide) (ty_120 hS.1.1) ?_
  refine Tr.tp g120_8 eg120_8 ?_
  refine Tr.if_le (pc := 4) (tgt := 9) d_X12_fresh_4 rfl (fun c4 => ?_) (fun c4 => ?_)
  · refine Tr.aload_n (pc := 9) (i := 0) d_X12_fresh_9 rfl rfl ?_
    refine Tr.getf (pc := 10) d_X12_fresh_10 f_12_20 (by decide) (by decide) (ty_120 hS.1.1) ?_
    refine Tr.tp g120_3 eg120_3 ?_
    refine Tr.iconst (pc := 13) d_X12_fresh_13 (by decide) ?_
    have J37 : ∀ (M : Mem) (u37_120_8 : Int), St Pm1 ws_X12_fresh_120 as_X12_fresh_120 M0 M → (0 ≤ u37_120_8 ∧ u37_120_8 ≤ 5) → rd M 120 3 = g120_3 → rd M 120 4 = g120_4 → rd M 120 5 = g120_5 → rd M 120 7 = g120_7 → rd M 120 8 = u37_120_8 → tav M = g9010_0 → (u37_120_8 ≠ 0 ∨ g120_3 ≠ 0) → (g120_8 = 0) → Tr l K 2 mX12_fresh 37 [(0, (2, 120))] [] M (q_X12_fresh_120 M0) := by
      intro M u37_120_8 hS bu37_120_8 k37_120_3 k37_120_4 k37_120_5 k37_120_7 k37_120_8 k37_9010_0 t37_0 t37_1
      replace t37_0 := hd_i t37_0
      refine Tr.aload_n (pc := 37) (i := 0) d_X12_fresh_37 rfl rfl ?_
      refine Tr.getf (pc := 38) d_X12_fresh_38 f_12_36 (by decide) (by decide) (ty_120 hS.1.1) ?_
      refine Tr.tp u37_120_8 k37_120_8 ?_
      have J89 : ∀ (M : Mem) (u89_120_8 : Int), St Pm1 ws_X12_fresh_120 as_X12_fresh_120 M0 M → (0 ≤ u89_120_8 ∧ u89_120_8 ≤ 5) → rd M 120 3 = g120_3 → rd M 120 4 = g120_4 → rd M 120 5 = g120_5 → rd M 120 7 = g120_7 → rd M 120 8 = u89_120_8 → tav M = g9010_0 → (u89_120_8 ≠ 0 ∨ g120_3 ≠ 0) → (g120_8 = 0) → Tr l K 2 mX12_fresh 89 [(0, (2, 120))] [] M (q_X12_fresh_120 M0) := by
        intro M u89_120_8 hS bu89_120_8 k89_120_3 k89_120_4 k89_120_5 k89_120_7 k89_120_8 k89_9010_0 t89_0 t89_1
        clear k37_120_3 k37_120_4 k37_120_5 k37_120_7 k37_120_8 k37_9010_0
        replace t89_0 := hd_i t89_0
        refine Tr.aload_n (pc := 89) (i := 0) d_X12_fresh_89 rfl rfl ?_
        refine Tr.getf (pc := 90) d_X12_fresh_90 f_12_32 (by decide) (by decide) (ty_120 hS.1.1) ?_
        refine Tr.tp g120_7 k89_120_7 ?_
        refine Tr.lstore_n (pc := 93) (i := 1) (ls2 := [(1, (1, g120_7)), (0, (2, 120))]) d_X12_fresh_93 rfl (by decide) rfl ?_
        refine Tr.aload_n (pc := 94) (i := 0) d_X12_fresh_94 rfl rfl ?_
        refine Tr.getf (pc := 95) d_X12_fresh_95 f_12_36 (by decide) (by decide) (ty_120 hS.1.1) ?_
        refine Tr.tp u89_120_8 k89_120_8 ?_
        refine Tr.if_ne (pc := 98) (tgt := 105) d_X12_fresh_98 rfl (fun c98 => ?_) (fun c98 => ?_)
        · have c98b : 1 ≤ u89_120_8 ∧ u89_120_8 ≤ 5 := by omega
          replace c98 := hd_i c98
          refine Tr.lload_n (pc := 105) (i := 1) d_X12_fresh_105 rfl rfl ?_
          have kr_120_3 : rd M 120 3 = g120_3 := k89_120_3
          have kr_120_4 : rd M 120 4 = g120_4 := k89_120_4
          have kr_120_5 : rd M 120 5 = g120_5 := k89_120_5
          have kr_120_7 : rd M 120 7 = g120_7 := k89_120_7
          have kr_120_8 : rd M 120 8 = u89_120_8 := k89_120_8
          have kr_9010_0 : tav M = g9010_0 := k89_9010_0
          exact Tr.lret (pc := 106) d_X12_fresh_106 rfl ⟨hS, _, rfl, (by omega), (by omega), (by first | exact (hd_o hq0) | exact (hd_o hq0).elim (fun h1 => by omega) (fun h1 => by omega)), (by omega), (by first | exact (hd_o hq2) | exact (hd_o hq2).elim (fun h1 => by omega) (fun h1 => h1.elim (fun h1 => by omega) (fun h1 => by omega))), (by and_intros <;> omega), (by omega), (by omega)⟩
        · refine Tr.aload_n (pc := 101) (i := 0) d_X12_fresh_101 rfl rfl ?_
          refine Tr.callV (pc := 102) (as := []) d_X12_fresh_102 s_12_396 ok_X12_next rfl rfl (Nat.le_of_ble_eq_true rfl) (Nat.le_of_ble_eq_true rfl) (by decide) (ty_120 hS.1.1) ?_
          refine Tr.imp (Tr.deep (by decide) (ns_X12_next_120 (G120_3 := g120_3) (G120_5 := g120_5) (G120_8 := u89_120_8) (G9010_0 := g9010_0) hS.1 (k89_120_3) (k89_120_5) (k89_120_8) (k89_9010_0))) ?_
          rintro M102 _ ⟨h102, s102_120_3, s102_120_4, s102_120_5, s102_120_7, s102_120_8, s102_9010_0, es102_120_3, bs102_120_3, es102_120_4, bs102_120_4, es102_120_5, bs102_120_5, es102_120_7, bs102_120_7, es102_120_8, bs102_120_8, es102_9010_0, bs102_9010_0, rfl, z102_0, z102_1, z102_2, z102_3, z102_4, z102_5, z102_6⟩
          have hS := St.tr hS h102 (by decide) (by decide)
          refine Tr.sc [] rfl ?_
          refine Tr.lload_n (pc := 105) (i := 1) d_X12_fresh_105 rfl rfl ?_
          have kr_120_3 : rd M102 120 3 = s102_120_3 := es102_120_3
          have kr_120_4 : rd M102 120 4 = s102_120_4 := es102_120_4
          have kr_120_5 : rd M102 120 5 = s102_120_5 := es102_120_5
          have kr_120_7 : rd M102 120 7 = s102_120_7 := es102_120_7
          have kr_120_8 : rd M102 120 8 = s102_120_8 := es102_120_8
          have kr_9010_0 : tav M102 = s102_9010_0 := es102_9010_0
          exact Tr.lret (pc := 106) d_X12_fresh_106 rfl ⟨hS, _, rfl, (by omega), (by omega), (by first | exact (hd_o z102_0) | exact (hd_o z102_0).elim (fun h1 => by omega) (fun h1 => by omega)), (by omega), (by first | exact (hd_o z102_2) | exact (hd_o z102_2).elim (fun h1 => by omega) (fun h1 => h1.elim (fun h1 => by omega) (fun h1 => by omega))), (by and_intros <;> omega), (by omega), (by exact (hd_o t89_0).elim (fun h1 => (ne_o h1).elim (fun h2 => by omega) (fun h2 => by omega)) (fun h1 => (ne_o h1).elim (fun h2 => by omega) (fun h2 => (hd_o z102_5).elim (fun h3 => by omega) (fun h3 => by omega))))⟩
      refine Tr.if_ne (pc := 41) (tgt := 89) d_X12_fresh_41 rfl (fun c41 => ?_) (fun c41 => ?_)
      · have c41b : 1 ≤ u37_120_8 ∧ u37_120_8 ≤ 5 := by omega
        replace c41 := hd_i c41
        refine Tr.pick [0] (ls2 := [(0, (2, 120))]) rfl ?_
        exact J89 _ _ hS (by and_intros <;> omega) k37_120_3 k37_120_4 k37_120_5 k37_120_7 k37_120_8 k37_9010_0 (by first | exact (hd_o t37_0) | exact (hd_o t37_0).elim (fun h1 => by omega) (fun h1 => by omega)) (by omega)
      · refine Tr.aload_n (pc := 44) (i := 0) d_X12_fresh_44 rfl rfl ?_
        refine Tr.aload_n (pc := 45) (i := 0) d_X12_fresh_45 rfl rfl ?_
        refine Tr.getf (pc := 46) d_X12_fresh_46 f_12_32 (by decide) (by decide) (ty_120 hS.1.1) ?_
        refine Tr.tp g120_7 k37_120_7 ?_
        refine Tr.callV (pc := 49) (as := [_]) d_X12_fresh_49 s_12_457 ok_X12_partOf rfl rfl (Nat.le_of_ble_eq_true rfl) (Nat.le_of_ble_eq_true rfl) (by decide) (ty_120 hS.1.1) ?_
        refine Tr.imp (Tr.deep (by decide) (sp_X12_partOf_120 hS.1.wk ((kp_X12_fresh_120_120_37 hS).trans en_120_37) g120_7 (by omega))) ?_
        rintro M49 _ ⟨h49, r49, rfl, lr49, ur49⟩
        have h49 := St.rn h49 (Pm1.of hS.1.2.2.2.2 (fun _ => (ka_X12_partOf_120_131 h49 _)) (fun _ => (ka_X12_partOf_120_137 h49 _)) (fun _ => (ka_X12_partOf_120_138 h49 _)) (fun _ => (ka_X12_partOf_120_139 h49 _)) (fun _ => (ka_X12_partOf_120_140 h49 _)) (fun _ => (ka_X12_partOf_120_141 h49 _)) (fun _ => (ka_X12_partOf_120_142 h49 _)) (fun _ => (ka_X12_partOf_120_143 h49 _)) (fun _ => (ka_X12_partOf_120_151 h49 _)) (fun _ => (ka_X12_partOf_120_152 h49 _)) (kp_X12_partOf_120_126_0 h49) (kp_X12_partOf_120_126_1 h49) (kp_X12_partOf_120_136_0 h49) (kp_X12_partOf_120_136_1 h49) (kp_X12_partOf_120_123_0 h49) (kp_X12_partOf_120_123_1 h49) (kp_X12_partOf_120_124_0 h49) (kp_X12_partOf_120_124_1 h49) (kp_X12_partOf_120_120_8 h49) (kp_X12_partOf_120_120_36 h49) (kp_X12_partOf_120_120_50 h49))
        have hS := St.tr hS h49 (by decide) (by decide)
        refine Tr.sc [(0, r49)] rfl ?_
        refine Tr.iconst (pc := 52) d_X12_fresh_52 (by decide) ?_
        have J80 : ∀ (M : Mem), St Pm1 ws_X12_fresh_120 as_X12_fresh_120 M0 M → rd M 120 3 = g120_3 → rd M 120 4 = g120_4 → rd M 120 5 = g120_5 → rd M 120 7 = g120_7 → rd M 120 8 = u37_120_8 → tav M = g9010_0 → (u37_120_8 ≠ 0 ∨ g120_3 ≠ 0) → (g120_8 = 0) → Tr l K 2 mX12_fresh 80 [(0, (2, 120))] [] M (q_X12_fresh_120 M0) := by
          intro M  hS  k80_120_3 k80_120_4 k80_120_5 k80_120_7 k80_120_8 k80_9010_0 t80_0 t80_1
          clear k37_120_3 k37_120_4 k37_120_5 k37_120_7 k37_120_8 k37_9010_0
          replace t80_0 := hd_i t80_0
          refine Tr.aload_n (pc := 80) (i := 0) d_X12_fresh_80 rfl rfl ?_
          refine Tr.iconst (pc := 81) d_X12_fresh_81 (by decide) ?_
          refine Tr.aload_n (pc := 82) (i := 0) d_X12_fresh_82 rfl rfl ?_
          refine Tr.getf (pc := 83) d_X12_fresh_83 f_12_23 (by decide) (by decide) (ty_120 hS.1.1) ?_
          refine Tr.tp g120_4 k80_120_4 ?_
          refine Tr.callV (pc := 86) (as := [_, _]) d_X12_fresh_86 s_12_389 ok_X12_blame rfl rfl (Nat.le_of_ble_eq_true rfl) (Nat.le_of_ble_eq_true rfl) (by decide) (ty_120 hS.1.1) ?_
          refine Tr.imp (Tr.deep (by decide) (ns_X12_blame_120 (G120_8 := u37_120_8) hS.1 (k80_120_8) 2 (by omega) g120_4 (by and_intros <;> omega))) ?_
          rintro M86 _ ⟨h86, s86_120_8, es86_120_8, bs86_120_8, rfl, z86_0⟩
          have hS := St.tr hS h86 (by decide) (by decide)
          refine Tr.sc [] rfl ?_
          refine Tr.pick [0] (ls2 := [(0, (2, 120))]) rfl ?_
          exact J89 _ _ hS (by and_intros <;> omega) ((kp_X12_blame_120_120_3 h86).trans k80_120_3) ((kp_X12_blame_120_120_4 h86).trans k80_120_4) ((kp_X12_blame_120_120_5 h86).trans k80_120_5) ((kp_X12_blame_120_120_7 h86).trans k80_120_7) es86_120_8 ((tav_of ((kp_X12_blame_120_120_5 h86).trans rfl) ((kp_X12_blame_120_120_3 h86).trans rfl)).trans k80_9010_0) (by exact (hd_o z86_0).elim (fun h1 => by omega) (fun h1 => by omega)) (by omega)
        refine Tr.icmp_ne (pc := 53) (tgt := 80) d_X12_fresh_53 rfl (fun c53 => ?_) (fun c53 => ?_)
        · have c53b : 0 ≤ r49 ∧ r49 ≤ 5 := by omega
          replace c53 := hd_i c53
          refine Tr.pick [0] (ls2 := [(0, (2, 120))]) rfl ?_
          exact J80 _ hS ((kp_X12_partOf_120_120_3 h49).trans k37_120_3) ((kp_X12_partOf_120_120_4 h49).trans k37_120_4) ((kp_X12_partOf_120_120_5 h49).trans k37_120_5) ((kp_X12_partOf_120_120_7 h49).trans k37_120_7) ((kp_X12_partOf_120_120_8 h49).trans k37_120_8) ((tav_of ((kp_X12_partOf_120_120_5 h49).trans rfl) ((kp_X12_partOf_120_120_3 h49).trans rfl)).trans k37_9010_0) (by first | exact (hd_o t37_0) | exact (hd_o t37_0).elim (fun h1 => by omega) (fun h1 => by omega)) (by omega)
        · refine Tr.aload_n (pc := 56) (i := 0) d_X12_fresh_56 rfl rfl ?_
          refine Tr.aload_n (pc := 57) (i := 0) d_X12_fresh_57 rfl rfl ?_
          refine Tr.getf (pc := 58) d_X12_fresh_58 f_12_32 (by decide) (by decide) (ty_120 hS.1.1) ?_
          refine Tr.tp g120_7 ((kp_X12_partOf_120_120_7 h49).trans k37_120_7) ?_
          refine Tr.callV (pc := 61) (as := [_]) d_X12_fresh_61 s_12_461 ok_X12_inputOf rfl rfl (Nat.le_of_ble_eq_true rfl) (Nat.le_of_ble_eq_true rfl) (by decide) (ty_120 hS.1.1) ?_
          refine Tr.imp (Tr.deep (by decide) (sp_X12_inputOf_120 hS.1.wk ((kp_X12_fresh_120_120_37 hS).trans en_120_37) g120_7 (by omega))) ?_
          rintro M61 _ ⟨h61, r61, rfl, lr61, ur61⟩
          have h61 := St.rn h61 (Pm1.of hS.1.2.2.2.2 (fun _ => (ka_X12_inputOf_120_131 h61 _)) (fun _ => (ka_X12_inputOf_120_137 h61 _)) (fun _ => (ka_X12_inputOf_120_138 h61 _)) (fun _ => (ka_X12_inputOf_120_139 h61 _)) (fun _ => (ka_X12_inputOf_120_140 h61 _)) (fun _ => (ka_X12_inputOf_120_141 h61 _)) (fun _ => (ka_X12_inputOf_120_142 h61 _)) (fun _ => (ka_X12_inputOf_120_143 h61 _)) (fun _ => (ka_X12_inputOf_120_151 h61 _)) (fun _ => (ka_X12_inputOf_120_152 h61 _)) (kp_X12_inputOf_120_126_0 h61) (kp_X12_inputOf_120_126_1 h61) (kp_X12_inputOf_120_136_0 h61) (kp_X12_inputOf_120_136_1 h61) (kp_X12_inputOf_120_123_0 h61) (kp_X12_inputOf_120_123_1 h61) (kp_X12_inputOf_120_124_0 h61) (kp_X12_inputOf_120_124_1 h61) (kp_X12_inputOf_120_120_8 h61) (kp_X12_inputOf_120_120_36 h61) (kp_X12_inputOf_120_120_50 h61))
          have hS := St.tr hS h61 (by decide) (by decide)
          refine Tr.sc [(0, r61)] rfl ?_
          refine Tr.iconst (pc := 64) d_X12_fresh_64 (by decide) ?_
          refine Tr.icmp_ne (pc := 65) (tgt := 80) d_X12_fresh_65 rfl (fun c65 => ?_) (fun c65 => ?_)
          · have c65b : 0 ≤ r61 ∧ r61 ≤ 2 := by omega
            replace c65 := hd_i c65
            refine Tr.pick [0] (ls2 := [(0, (2, 120))]) rfl ?_
            exact J80 _ hS ((kp_X12_inputOf_120_120_3 h61).trans ((kp_X12_partOf_120_120_3 h49).trans k37_120_3)) ((kp_X12_inputOf_120_120_4 h61).trans ((kp_X12_partOf_120_120_4 h49).trans k37_120_4)) ((kp_X12_inputOf_120_120_5 h61).trans ((kp_X12_partOf_120_120_5 h49).trans k37_120_5)) ((kp_X12_inputOf_120_120_7 h61).trans ((kp_X12_partOf_120_120_7 h49).trans k37_120_7)) ((kp_X12_inputOf_120_120_8 h61).trans ((kp_X12_partOf_120_120_8 h49).trans k37_120_8)) ((tav_of ((kp_X12_inputOf_120_120_5 h61).trans ((kp_X12_partOf_120_120_5 h49).trans rfl)) ((kp_X12_inputOf_120_120_3 h61).trans ((kp_X12_partOf_120_120_3 h49).trans rfl))).trans k37_9010_0) (by first | exact (hd_o t37_0) | exact (hd_o t37_0).elim (fun h1 => by omega) (fun h1 => by omega)) (by omega)
          · refine Tr.aload_n (pc := 68) (i := 0) d_X12_fresh_68 rfl rfl ?_
            refine Tr.aload_n (pc := 69) (i := 0) d_X12_fresh_69 rfl rfl ?_
            refine Tr.getf (pc := 70) d_X12_fresh_70 f_12_32 (by decide) (by decide) (ty_120 hS.1.1) ?_
            refine Tr.tp g120_7 ((kp_X12_inputOf_120_120_7 h61).trans ((kp_X12_partOf_120_120_7 h49).trans k37_120_7)) ?_
            refine Tr.callV (pc := 73) (as := [_]) d_X12_fresh_73 s_12_464 ok_X12_varOf rfl rfl (Nat.le_of_ble_eq_true rfl) (Nat.le_of_ble_eq_true rfl) (by decide) (ty_120 hS.1.1) ?_
            refine Tr.imp (Tr.deep (by decide) (sp_X12_varOf_120 hS.1.wk ((kp_X12_fresh_120_120_37 hS).trans en_120_37) g120_7 (by omega))) ?_
            rintro M73 _ ⟨h73, r73, rfl, lr73, ur73⟩
            have h73 := St.rn h73 (Pm1.of hS.1.2.2.2.2 (fun _ => (ka_X12_varOf_120_131 h73 _)) (fun _ => (ka_X12_varOf_120_137 h73 _)) (fun _ => (ka_X12_varOf_120_138 h73 _)) (fun _ => (ka_X12_varOf_120_139 h73 _)) (fun _ => (ka_X12_varOf_120_140 h73 _)) (fun _ => (ka_X12_varOf_120_141 h73 _)) (fun _ => (ka_X12_varOf_120_142 h73 _)) (fun _ => (ka_X12_varOf_120_143 h73 _)) (fun _ => (ka_X12_varOf_120_151 h73 _)) (fun _ => (ka_X12_varOf_120_152 h73 _)) (kp_X12_varOf_120_126_0 h73) (kp_X12_varOf_120_126_1 h73) (kp_X12_varOf_120_136_0 h73) (kp_X12_varOf_120_136_1 h73) (kp_X12_varOf_120_123_0 h73) (kp_X12_varOf_120_123_1 h73) (kp_X12_varOf_120_124_0 h73) (kp_X12_varOf_120_124_1 h73) (kp_X12_varOf_120_120_8 h73) (kp_X12_varOf_120_120_36 h73) (kp_X12_varOf_120_120_50 h73))
            have hS := St.tr hS h73 (by decide) (by decide)
            refine Tr.sc [(0, r73)] rfl ?_
            refine Tr.iconst (pc := 76) d_X12_fresh_76 (by decide) ?_
            refine Tr.icmp_eq (pc := 77) (tgt := 89) d_X12_fresh_77 rfl (fun c77 => ?_) (fun c77 => ?_)
            · refine Tr.pick [0] (ls2 := [(0, (2, 120))]) rfl ?_
              exact J89 _ _ hS (by and_intros <;> omega) ((kp_X12_varOf_120_120_3 h73).trans ((kp_X12_inputOf_120_120_3 h61).trans ((kp_X12_partOf_120_120_3 h49).trans k37_120_3))) ((kp_X12_varOf_120_120_4 h73).trans ((kp_X12_inputOf_120_120_4 h61).trans ((kp_X12_partOf_120_120_4 h49).trans k37_120_4))) ((kp_X12_varOf_120_120_5 h73).trans ((kp_X12_inputOf_120_120_5 h61).trans ((kp_X12_partOf_120_120_5 h49).trans k37_120_5))) ((kp_X12_varOf_120_120_7 h73).trans ((kp_X12_inputOf_120_120_7 h61).trans ((kp_X12_partOf_120_120_7 h49).trans k37_120_7))) ((kp_X12_varOf_120_120_8 h73).trans ((kp_X12_inputOf_120_120_8 h61).trans ((kp_X12_partOf_120_120_8 h49).trans k37_120_8))) ((tav_of ((kp_X12_varOf_120_120_5 h73).trans ((kp_X12_inputOf_120_120_5 h61).trans ((kp_X12_partOf_120_120_5 h49).trans rfl))) ((kp_X12_varOf_120_120_3 h73).trans ((kp_X12_inputOf_120_120_3 h61).trans ((kp_X12_partOf_120_120_3 h49).trans rfl)))).trans k37_9010_0) (by first | exact (hd_o t37_0) | exact (hd_o t37_0).elim (fun h1 => by omega) (fun h1 => by omega)) (by omega)
            · have c77b : 0 ≤ r73 ∧ r73 ≤ 5 := by omega
              replace c77 := hd_i c77
              refine Tr.pick [0] (ls2 := [(0, (2, 120))]) rfl ?_
              exact J80 _ hS ((kp_X12_varOf_120_120_3 h73).trans ((kp_X12_inputOf_120_120_3 h61).trans ((kp_X12_partOf_120_120_3 h49).trans k37_120_3))) ((kp_X12_varOf_120_120_4 h73).trans ((kp_X12_inputOf_120_120_4 h61).trans ((kp_X12_partOf_120_120_4 h49).trans k37_120_4))) ((kp_X12_varOf_120_120_5 h73).trans ((kp_X12_inputOf_120_120_5 h61).trans ((kp_X12_partOf_120_120_5 h49).trans k37_120_5))) ((kp_X12_varOf_120_120_7 h73).trans ((kp_X12_inputOf_120_120_7 h61).trans ((kp_X12_partOf_120_120_7 h49).trans k37_120_7))) ((kp_X12_varOf_120_120_8 h73).trans ((kp_X12_inputOf_120_120_8 h61).trans ((kp_X12_partOf_120_120_8 h49).trans k37_120_8))) ((tav_of ((kp_X12_varOf_120_120_5 h73).trans ((kp_X12_inputOf_120_120_5 h61).trans ((kp_X12_partOf_120_120_5 h49).trans rfl))) ((kp_X12_varOf_120_120_3 h73).trans ((kp_X12_inputOf_120_120_3 h61).trans ((kp_X12_partOf_120_120_3 h49).trans rfl)))).trans k37_9010_0) (by first | exact (hd_o t37_0) | exact (hd_o t37_0).elim (fun h1 => by omega) (fun h1 => by omega)) (by omega)
    have J28 : ∀ (M : Mem), St Pm1 ws_X12_fresh_120 as_X12_fresh_120 M0 M → rd M 120 3 = g120_3 → rd M 120 4 = g120_4 → rd M 120 5 = g120_5 → rd M 120 7 = g120_7 → rd M 120 8 = g120_8 → tav M = g9010_0 → (g120_8 = 0) → (g120_8 = 0) → Tr l K 2 mX12_fresh 28 [(0, (2, 120))] [] M (q_X12_fresh_120 M0) := by
      intro M  hS  k28_120_3 k28_120_4 k28_120_5 k28_120_7 k28_120_8 k28_9010_0 t28_0 t28_1
      refine Tr.aload_n (pc := 28) (i := 0) d_X12_fresh_28 rfl rfl ?_
      refine Tr.iconst (pc := 29) d_X12_fresh_29 (by decide) ?_
      refine Tr.aload_n (pc := 30) (i := 0) d_X12_fresh_30 rfl rfl ?_
      refine Tr.getf (pc := 31) d_X12_fresh_31 f_12_23 (by decide) (by decide) (ty_120 hS.1.1) ?_
      refine Tr.tp g120_4 k28_120_4 ?_
      refine Tr.callV (pc := 34) (as := [_, _]) d_X12_fresh_34 s_12_389 ok_X12_blame rfl rfl (Nat.le_of_ble_eq_true rfl) (Nat.le_of_ble_eq_true rfl) (by decide) (ty_120 hS.1.1) ?_
      refine Tr.imp (Tr.deep (by decide) (ns_X12_blame_120 (G120_8 := g120_8) hS.1 (k28_120_8) 1 (by omega) g120_4 (by and_intros <;> omega))) ?_
      rintro M34 _ ⟨h34, s34_120_8, es34_120_8, bs34_120_8, rfl, z34_0⟩
      have hS := St.tr hS h34 (by decide) (by decide)
      refine Tr.sc [] rfl ?_
      refine Tr.pick [0] (ls2 := [(0, (2, 120))]) rfl ?_
      exact J37 _ _ hS (by and_intros <;> omega) ((kp_X12_blame_120_120_3 h34).trans k28_120_3) ((kp_X12_blame_120_120_4 h34).trans k28_120_4) ((kp_X12_blame_120_120_5 h34).trans k28_120_5) ((kp_X12_blame_120_120_7 h34).trans k28_120_7) es34_120_8 ((tav_of ((kp_X12_blame_120_120_5 h34).trans rfl) ((kp_X12_blame_120_120_3 h34).trans rfl)).trans k28_9010_0) (by exact (hd_o z34_0).elim (fun h1 => by omega) (fun h1 => by omega)) (by omega)
    refine Tr.icmp_ne (pc := 14) (tgt := 28) d_X12_fresh_14 rfl (fun c14 => ?_) (fun c14 => ?_)
    · replace c14 := hd_i c14
      refine Tr.pick [0] (ls2 := [(0, (2, 120))]) rfl ?_
      exact J28 _ hS eg120_3 eg120_4 eg120_5 eg120_7 eg120_8 eg9010_0 (by omega) (by omega)
    · refine Tr.aload_n (pc := 17) (i := 0) d_X12_fresh_17 rfl rfl ?_
      refine Tr.aload_n (pc := 18) (i := 0) d_X12_fresh_18 rfl rfl ?_
      refine Tr.getf (pc := 19) d_X12_fresh_19 f_12_32 (by decide) (by decide) (ty_120 hS.1.1) ?_
      refine Tr.tp g120_7 eg120_7 ?_
      refine Tr.callV (pc := 22) (as := [_]) d_X12_fresh_22 s_12_453 ok_X12_isOwn rfl rfl (Nat.le_of_ble_eq_true rfl) (Nat.le_of_ble_eq_true rfl) (by decide) (ty_120 hS.1.1) ?_
      refine Tr.imp (Tr.deep (by decide) (sp_X12_isOwn_120 hS.1.wk g120_7 (by omega))) ?_
      rintro M22 _ ⟨h22, r22, rfl, lr22, ur22⟩
      have h22 := St.rn h22 (Pm1.of hS.1.2.2.2.2 (fun _ => (ka_X12_isOwn_120_131 h22 _)) (fun _ => (ka_X12_isOwn_120_137 h22 _)) (fun _ => (ka_X12_isOwn_120_138 h22 _)) (fun _ => (ka_X12_isOwn_120_139 h22 _)) (fun _ => (ka_X12_isOwn_120_140 h22 _)) (fun _ => (ka_X12_isOwn_120_141 h22 _)) (fun _ => (ka_X12_isOwn_120_142 h22 _)) (fun _ => (ka_X12_isOwn_120_143 h22 _)) (fun _ => (ka_X12_isOwn_120_151 h22 _)) (fun _ => (ka_X12_isOwn_120_152 h22 _)) (kp_X12_isOwn_120_126_0 h22) (kp_X12_isOwn_120_126_1 h22) (kp_X12_isOwn_120_136_0 h22) (kp_X12_isOwn_120_136_1 h22) (kp_X12_isOwn_120_123_0 h22) (kp_X12_isOwn_120_123_1 h22) (kp_X12_isOwn_120_124_0 h22) (kp_X12_isOwn_120_124_1 h22) (kp_X12_isOwn_120_120_8 h22) (kp_X12_isOwn_120_120_36 h22) (kp_X12_isOwn_120_120_50 h22))
      have hS := St.tr hS h22 (by decide) (by decide)
      refine Tr.sc [(0, r22)] rfl ?_
      refine Tr.if_eq (pc := 25) (tgt := 37) d_X12_fresh_25 rfl (fun c25 => ?_) (fun c25 => ?_)
      · refine Tr.pick [0] (ls2 := [(0, (2, 120))]) rfl ?_
        exact J37 _ _ hS (by and_intros <;> omega) ((kp_X12_isOwn_120_120_3 h22).trans eg120_3) ((kp_X12_isOwn_120_120_4 h22).trans eg120_4) ((kp_X12_isOwn_120_120_5 h22).trans eg120_5) ((kp_X12_isOwn_120_120_7 h22).trans eg120_7) ((kp_X12_isOwn_120_120_8 h22).trans eg120_8) ((tav_of ((kp_X12_isOwn_120_120_5 h22).trans rfl) ((kp_X12_isOwn_120_120_3 h22).trans rfl)).trans eg9010_0) (by omega) (by omega)
      · have c25b : 1 ≤ r22 ∧ r22 ≤ 1 := by omega
        replace c25 := hd_i c25
        refine Tr.pick [0] (ls2 := [(0, (2, 120))]) rfl ?_
        exact J28 _ hS ((kp_X12_isOwn_120_120_3 h22).trans eg120_3) ((kp_X12_isOwn_120_120_4 h22).trans eg120_4) ((kp_X12_isOwn_120_120_5 h22).trans eg120_5) ((kp_X12_isOwn_120_120_7 h22).trans eg120_7) ((kp_X12_isOwn_120_120_8 h22).trans eg120_8) ((tav_of ((kp_X12_isOwn_120_120_5 h22).trans rfl) ((kp_X12_isOwn_120_120_3 h22).trans rfl)).trans eg9010_0) (by omega) (by omega)
  · refine Tr.lconst (pc := 7) (v := 0) d_X12_fresh_7 rfl (by decide) ?_
    have kr_120_3 : rd M0 120 3 = g120_3 := eg120_3
    have kr_120_4 : rd M0 120 4 = g120_4 := eg120_4
    have kr_120_5 : rd M0 120 5 = g120_5 := eg120_5
    have kr_120_7 : rd M0 120 7 = g120_7 := eg120_7
    have kr_120_8 : rd M0 120 8 = g120_8 := eg120_8
    have kr_9010_0 : tav M0 = g9010_0 := eg9010_0
    exact Tr.lret (pc := 8) d_X12_fresh_8 rfl ⟨hS, _, rfl, by omega, by omega, (by first | exact (hd_o hq0) | exact (hd_o hq0).elim (fun h1 => by omega) (fun h1 => by omega)), (by omega), (by first | exact (hd_o hq2) | exact (hd_o hq2).elim (fun h1 => by omega) (fun h1 => h1.elim (fun h1 => by omega) (fun h1 => by omega))), (by and_intros <;> omega), (by omega), (by omega)⟩

set_option maxRecDepth 100000 in
set_option maxHeartbeats 4000000 in
theorem ns_X12_fresh_120 {l : Launch} {K : EC} {M0 : Mem} {G120_3 G120_4 G120_5 G120_7 G120_8 G9010_0 : Int} (hI : In Pm1 M0) (k120_3 : rd M0 120 3 = G120_3) (k120_4 : rd M0 120 4 = G120_4) (k120_5 : rd M0 120 5 = G120_5) (k120_7 : rd M0 120 7 = G120_7) (k120_8 : rd M0 120 8 = G120_8) (k9010_0 : tav M0 = G9010_0) (en_120_37 : rd M0 120 37 = 1)   (hq0 : G120_3 = 0 ∨ G120_4 + 1 ≤ G120_5) (hq1 : G120_4 ≤ G120_5) (hq2 : G120_3 ≠ 1 ∨ G120_4 + 2 ≤ G120_5 ∨ G120_7 < 256) : Tr l K 2 mX12_fresh 0 [(0, (2, 120))] [] M0 (fun M' r => St Pm1 ws_X12_fresh_120 as_X12_fresh_120 M0 M' ∧ ∃ S120_3 S120_4 S120_5 S120_7 S120_8 S9010_0 : Int, rd M' 120 3 = S120_3 ∧ (0 ≤ S120_3 ∧ S120_3 ≤ 3) ∧ rd M' 120 4 = S120_4 ∧ (0 ≤ S120_4 ∧ S120_4 ≤ 900) ∧ rd M' 120 5 = S120_5 ∧ (0 ≤ S120_5 ∧ S120_5 ≤ 900) ∧ rd M' 120 7 = S120_7 ∧ ((-9223372036854775808) ≤ S120_7 ∧ S120_7 ≤ 9223372036854775807) ∧ rd M' 120 8 = S120_8 ∧ (0 ≤ S120_8 ∧ S120_8 ≤ 5) ∧ tav M' = S9010_0 ∧ ((-1) ≤ S9010_0 ∧ S9010_0 ≤ 1800) ∧ ∃ v : Int, r = some (1, v) ∧ (-9223372036854775808) ≤ v ∧ v ≤ 9223372036854775807 ∧ Hd (S120_3 = 0 ∨ S120_4 + 1 ≤ S120_5) ∧ (S120_4 ≤ S120_5) ∧ Hd (S120_3 ≠ 1 ∨ S120_4 + 2 ≤ S120_5 ∨ S120_7 < 256) ∧ (G120_4 ≤ S120_4 ∧ G120_5 ≤ S120_5 ∧ G9010_0 ≤ S9010_0) ∧ Hd (G120_8 = 0 ∨ S120_8 = G120_8) ∧ Hd (1 ≤ S120_8 ∨ G9010_0 < S9010_0)) := by
  subst k120_3
  subst k120_4
  subst k120_5
  subst k120_7
  subst k120_8
  subst k9010_0
  refine Tr.imp (sp_X12_fresh_120 hI en_120_37 hq0 hq1 hq2) ?_
  rintro M' _ ⟨hS, v, rfl, lr, ur, z0, z1, z2, z3, z4, z5⟩
  exact ⟨hS, _, _, _, _, _, _, rfl, ir_120_3 hS.1.2.1, rfl, ir_120_4 hS.1.2.1, rfl, ir_120_5 hS.1.2.1, rfl, ir_120_7 hS.1.2.1, rfl, ir_120_8 hS.1.2.1, rfl, (tav_b hS.1.2.1), v, rfl, lr, ur, hd_i z0, z1, hd_i z2, z3, hd_i z4, hd_i z5⟩

def ws_X12_variable_120 : List (Int × Int) := [(120, 3), (120, 4), (120, 5), (120, 6), (120, 7), (120, 8), (120, 9), (128, 1)]
def as_X12_variable_120 : List Int := [135]
def q_X12_variable_120 (M0 M' : Mem) (r : Option PV) : Prop := St Pm1 ws_X12_variable_120 as_X12_variable_120 M0 M' ∧ r = none ∧ (rd M' 120 3 = 0 ∨ rd M' 120 4 + 1 ≤ rd M' 120 5) ∧ (rd M' 120 4 ≤ rd M' 120 5) ∧ (rd M' 120 3 ≠ 1 ∨ rd M' 120 4 + 2 ≤ rd M' 120 5 ∨ rd M' 120 7 < 256) ∧ (rd M0 120 4 ≤ rd M' 120 4 ∧ rd M0 120 5 ≤ rd M' 120 5 ∧ tav M0 ≤ tav M') ∧ (rd M0 120 8 = 0 ∨ rd M' 120 8 = rd M0 120 8) ∧ (1 ≤ rd M' 120 8 ∨ tav M0 < tav M')
theorem kp_X12_variable_120_120_37 {q : Mem → Prop} {M0 M : Mem} (h : St q ws_X12_variable_120 as_X12_variable_120 M0 M) : rd M 120 37 = rd M0 120 37 := St.kp h (by decide) (by decide) (by decide)
theorem kp_X12_counts_120_128_1 {q : Mem → Prop} {M0 M : Mem} (h : St q ws_X12_counts_120 as_X12_counts_120 M0 M) : rd M 128 1 = rd M0 128 1 := St.kp h (by decide) (by decide) (by decide)
theorem kp_X12_fresh_120_128_1 {q : Mem → Prop} {M0 M : Mem} (h : St q ws_X12_fresh_120 as_X12_fresh_120 M0 M) : rd M 128 1 = rd M0 128 1 := St.kp h (by decide) (by decide) (by decide)
set_option maxRecDepth 100000 in
set_option maxHeartbeats 4000000 in
theorem sp_X12_variable_120 {l : Launch} {K : EC} {M0 : Mem} (hI : In Pm1 M0) (en_120_37 : rd M0 120 37 = 1)   (hq0 : rd M0 120 3 = 0 ∨ rd M0 120 4 + 1 ≤ rd M0 120 5) (hq1 : rd M0 120 4 ≤ rd M0 120 5) (hq2 : rd M0 120 3 ≠ 1 ∨ rd M0 120 4 + 2 ≤ rd M0 120 5 ∨ rd M0 120 7 < 256) (hq3 : rd M0 120 3 ≠ 0) (hq4 : rd M0 120 8 = 0) : Tr l K 3 mX12_variable 0 [(0, (2, 120))] [] M0 (q_X12_variable_120 M0) := by
  have hS : St Pm1 ws_X12_variable_120 as_X12_variable_120 M0 M0 := St.rf hI
  obtain ⟨g120_8, eg120_8⟩ : ∃ v, rd M0 120 8 = v := ⟨_, rfl⟩
  have bg120_8 : 0 ≤ g120_8 ∧ g120_8 ≤ 5 := by rw [← eg120_8]; exact ir_120_8 hI.2.1
  obtain ⟨g120_3, eg120_3⟩ : ∃ v, rd M0 120 3 = v := ⟨_, rfl⟩
  have bg120_3 : 0 ≤ g120_3 ∧ g120_3 ≤ 3 := by rw [← eg120_3]; exact ir_120_3 hI.2.1
  obtain ⟨g120_4, eg120_4⟩ : ∃ v, rd M0 120 4 = v := ⟨_, rfl⟩
  have bg120_4 : 0 ≤ g120_4 ∧ g120_4 ≤ 900 := by rw [← eg120_4]; exact ir_120_4 hI.2.1
  obtain ⟨g120_5, eg120_5⟩ : ∃ v, rd M0 120 5 = v := ⟨_, rfl⟩
  have bg120_5 : 0 ≤ g120_5 ∧ g120_5 ≤ 900 := by rw [← eg120_5]; exact ir_120_5 hI.2.1
  obtain ⟨g120_7, eg120_7⟩ : ∃ v, rd M0 120 7 = v := ⟨_, rfl⟩
  have bg120_7 : (-9223372036854775808) ≤ g120_7 ∧ g120_7 ≤ 9223372036854775807 := by rw [← eg120_7]; exact ir_120_7 hI.2.1
  obtain ⟨g9010_0, eg9010_0⟩ : ∃ v, tav M0 = v := ⟨_, rfl⟩
  have bg9010_0 : (-1) ≤ g9010_0 ∧ g9010_0 ≤ 1800 := by rw [← eg9010_0]; exact (tav_b hI.2.1)
  obtain ⟨g128_1, eg128_1⟩ : ∃ v, rd M0 128 1 = v := ⟨_, rfl⟩
  have bg128_1 : 0 ≤ g128_1 ∧ g128_1 ≤ 6 := by rw [← eg128_1]; exact ir_128_1 hI.2.1
  replace hq0 := hd_i hq0
  replace hq2 := hd_i hq2
  replace hq3 := hd_i hq3
  refine Tr.aload_n (pc := 0) (i := 0) d_X12_variable_0 rfl rfl ?_
  refine Tr.aload_n (pc := 1) (i := 0) d_X12_variable_1 rfl rfl ?_
  refine Tr.getf (pc := 2) d_X12_variable_2 f_12_69 (by decide) (by decide) (ty_120 hS.1.1) ?_
  refine Tr.tp 128 (fx_120_19 hS.1.1) ?_
  refine Tr.aload_n (pc := 5) (i := 0) d_X12_variable_5 rfl rfl ?_
  refine Tr.getf (pc := 6) d_X12_variable_6 f_12_124 (by decide) (by decide) (ty_120 hS.1.1) ?_
  refine Tr.tp 1 ((kp_X12_variable_120_120_37 hS).trans en_120_37) ?_
  refine Tr.iald (pc := 9) d_X12_variable_9 (ty_128 hS.1.1) (by omega) (by omega) ?_
  refine Tr.tp g128_1 eg128_1 ?_
  refine Tr.bipush (pc := 10) d_X12_variable_10 rfl (by decide) ?_
  have J20 : ∀ (M : Mem) (q20_1 : Int), St Pm1 ws_X12_variable_120 as_X12_variable_120 M0 M → (0 ≤ q20_1 ∧ q20_1 ≤ 1) → rd M 120 3 = g120_3 → rd M 120 4 = g120_4 → rd M 120 5 = g120_5 → rd M 120 7 = g120_7 → rd M 120 8 = g120_8 → rd M 128 1 = g128_1 → tav M = g9010_0 → ((q20_1 = 1 ∧ g128_1 = 6) ∨ (q20_1 = 0 ∧ g128_1 ≠ 6)) → Tr l K 3 mX12_variable 20 [(0, (2, 120))] [(0, q20_1), (2, 120)] M (q_X12_variable_120 M0) := by
    intro M q20_1 hS bq20_1 k20_120_3 k20_120_4 k20_120_5 k20_120_7 k20_120_8 k20_128_1 k20_9010_0 t20_0
    replace t20_0 := hd_i t20_0
    refine Tr.callV (pc := 20) (as := [_]) d_X12_variable_20 s_12_505 ok_X12_counts rfl rfl (Nat.le_of_ble_eq_true rfl) (Nat.le_of_ble_eq_true rfl) (by decide) (ty_120 hS.1.1) ?_
    refine Tr.imp (Tr.deep (by decide) (ns_X12_counts_120 (G120_3 := g120_3) (G120_4 := g120_4) (G120_5 := g120_5) (G120_7 := g120_7) (G120_8 := g120_8) (G9010_0 := g9010_0) hS.1 (k20_120_3) (k20_120_4) (k20_120_5) (k20_120_7) (k20_120_8) (k20_9010_0) q20_1 (by and_intros <;> omega) (by first | exact (hd_o hq0) | exact (hd_o hq0).elim (fun h1 => by omega) (fun h1 => by omega)) (by omega) (by first | exact (hd_o hq2) | exact (hd_o hq2).elim (fun h1 => by omega) (fun h1 => h1.elim (fun h1 => by omega) (fun h1 => by omega))) (by have h1 := (hd_o hq3); omega))) ?_
    rintro M20 _ ⟨h20, s20_120_3, s20_120_4, s20_120_5, s20_120_7, s20_120_8, s20_9010_0, es20_120_3, bs20_120_3, es20_120_4, bs20_120_4, es20_120_5, bs20_120_5, es20_120_7, bs20_120_7, es20_120_8, bs20_120_8, es20_9010_0, bs20_9010_0, rfl, z20_0, z20_1, z20_2, z20_3, z20_4, z20_5, z20_6⟩
    have hS := St.tr hS h20 (by decide) (by decide)
    refine Tr.sc [] rfl ?_
    refine Tr.aload_n (pc := 23) (i := 0) d_X12_variable_23 rfl rfl ?_
    refine Tr.getf (pc := 24) d_X12_variable_24 f_12_36 (by decide) (by decide) (ty_120 hS.1.1) ?_
    refine Tr.tp s20_120_8 es20_120_8 ?_
    refine Tr.if_le (pc := 27) (tgt := 31) d_X12_variable_27 rfl (fun c27 => ?_) (fun c27 => ?_)
    · refine Tr.aload_n (pc := 31) (i := 0) d_X12_variable_31 rfl rfl ?_
      refine Tr.getf (pc := 32) d_X12_variable_32 f_12_91 (by decide) (by decide) (ty_120 hS.1.1) ?_
      refine Tr.tp 135 (fx_120_26 hS.1.1) ?_
      refine Tr.bipush (pc := 35) d_X12_variable_35 rfl (by decide) ?_
      refine Tr.aload_n (pc := 37) (i := 0) d_X12_variable_37 rfl rfl ?_
      refine Tr.getf (pc := 38) d_X12_variable_38 f_12_124 (by decide) (by decide) (ty_120 hS.1.1) ?_
      refine Tr.tp 1 ((kp_X12_variable_120_120_37 hS).trans en_120_37) ?_
      refine Tr.imul (pc := 41) d_X12_variable_41 ?_
      refine Tr.tp 6 (by decide) ?_
      refine Tr.aload_n (pc := 42) (i := 0) d_X12_variable_42 rfl rfl ?_
      refine Tr.getf (pc := 43) d_X12_variable_43 f_12_69 (by decide) (by decide) (ty_120 hS.1.1) ?_
      refine Tr.tp 128 (fx_120_19 hS.1.1) ?_
      refine Tr.aload_n (pc := 46) (i := 0) d_X12_variable_46 rfl rfl ?_
      refine Tr.getf (pc := 47) d_X12_variable_47 f_12_124 (by decide) (by decide) (ty_120 hS.1.1) ?_
      refine Tr.tp 1 ((kp_X12_variable_120_120_37 hS).trans en_120_37) ?_
      refine Tr.iald (pc := 50) d_X12_variable_50 (ty_128 hS.1.1) (by omega) (by omega) ?_
      refine Tr.tp g128_1 ((kp_X12_counts_120_128_1 h20).trans k20_128_1) ?_
      refine Tr.iadd (pc := 51) d_X12_variable_51 ?_
      refine Tr.tp (g128_1 + 6) ((w32_id (by and_intros <;> omega)).trans (by omega)) ?_
      refine Tr.aload_n (pc := 52) (i := 0) d_X12_variable_52 rfl rfl ?_
      refine Tr.callV (pc := 53) (as := []) d_X12_variable_53 s_12_508 ok_X12_fresh rfl rfl (Nat.le_of_ble_eq_true rfl) (Nat.le_of_ble_eq_true rfl) (by decide) (ty_120 hS.1.1) ?_
      refine Tr.imp (Tr.deep (by decide) (ns_X12_fresh_120 (G120_3 := s20_120_3) (G120_4 := s20_120_4) (G120_5 := s20_120_5) (G120_7 := s20_120_7) (G120_8 := s20_120_8) (G9010_0 := s20_9010_0) hS.1 (es20_120_3) (es20_120_4) (es20_120_5) (es20_120_7) (es20_120_8) (es20_9010_0) ((kp_X12_variable_120_120_37 hS).trans en_120_37) (by first | exact (hd_o z20_0) | exact (hd_o z20_0).elim (fun h1 => by omega) (fun h1 => by omega)) (by omega) (by first | exact (hd_o z20_2) | exact (hd_o z20_2).elim (fun h1 => by omega) (fun h1 => h1.elim (fun h1 => by omega) (fun h1 => by omega))))) ?_
      rintro M53 _ ⟨h53, s53_120_3, s53_120_4, s53_120_5, s53_120_7, s53_120_8, s53_9010_0, es53_120_3, bs53_120_3, es53_120_4, bs53_120_4, es53_120_5, bs53_120_5, es53_120_7, bs53_120_7, es53_120_8, bs53_120_8, es53_9010_0, bs53_9010_0, r53, rfl, lr53, ur53, z53_0, z53_1, z53_2, z53_3, z53_4, z53_5⟩
      have hS := St.tr hS h53 (by decide) (by decide)
      refine Tr.sc [(1, r53), (0, (g128_1 + 6)), (2, 135)] rfl ?_
      refine Tr.lastS (pc := 56) (P := St Pm1 ws_X12_variable_120 as_X12_variable_120 M0) d_X12_variable_56 (ty_135 hS.1.1) (by omega) (by exact (hd_o t20_0).elim (fun h1 => (hd_o z20_6).elim (fun h2 => by omega) (fun h2 => by omega)) (fun h1 => (ne_o h1.2).elim (fun h2 => by omega) (fun h2 => by omega))) (sa_135 hS (by decide) (by omega) (Pm1.of hS.1.2.2.2.2 (fun _ => rd_wb _ rfl) (fun _ => rd_wb _ rfl) (fun _ => rd_wb _ rfl) (fun _ => rd_wb _ rfl) (fun _ => rd_wb _ rfl) (fun _ => rd_wb _ rfl) (fun _ => rd_wb _ rfl) (fun _ => rd_wb _ rfl) (fun _ => rd_wb _ rfl) (fun _ => rd_wb _ rfl) (rd_wb _ rfl) (rd_wb _ rfl) (rd_wb _ rfl) (rd_wb _ rfl) (rd_wb _ rfl) (rd_wb _ rfl) (rd_wb _ rfl) (rd_wb _ rfl) (rd_wb _ rfl) (rd_wb _ rfl) (rd_wb _ rfl))) (fun M56 hS w56 => ?_)
      refine Tr.aload_n (pc := 57) (i := 0) d_X12_variable_57 rfl rfl ?_
      refine Tr.getf (pc := 58) d_X12_variable_58 f_12_36 (by decide) (by decide) (ty_120 hS.1.1) ?_
      refine Tr.tp s53_120_8 ((Wr.b w56 rfl).trans es53_120_8) ?_
      refine Tr.if_ne (pc := 61) (tgt := 77) d_X12_variable_61 rfl (fun c61 => ?_) (fun c61 => ?_)
      · have c61b : 1 ≤ s53_120_8 ∧ s53_120_8 ≤ 5 := by omega
        replace c61 := hd_i c61
        have kr_120_3 : rd M56 120 3 = s53_120_3 := ((Wr.b w56 rfl).trans es53_120_3)
        have kr_120_4 : rd M56 120 4 = s53_120_4 := ((Wr.b w56 rfl).trans es53_120_4)
        have kr_120_5 : rd M56 120 5 = s53_120_5 := ((Wr.b w56 rfl).trans es53_120_5)
        have kr_120_7 : rd M56 120 7 = s53_120_7 := ((Wr.b w56 rfl).trans es53_120_7)
        have kr_120_8 : rd M56 120 8 = s53_120_8 := ((Wr.b w56 rfl).trans es53_120_8)
        have kr_9010_0 : tav M56 = s53_9010_0 := ((tav_of ((Wr.b w56 rfl).trans rfl) ((Wr.b w56 rfl).trans rfl)).trans es53_9010_0)
        exact Tr.vret (pc := 77) d_X12_variable_77 rfl ⟨hS, rfl, (by first | exact (hd_o z53_0) | exact (hd_o z53_0).elim (fun h1 => by omega) (fun h1 => by omega)), (by omega), (by first | exact (hd_o z53_2) | exact (hd_o z53_2).elim (fun h1 => by omega) (fun h1 => h1.elim (fun h1 => by omega) (fun h1 => by omega))), (by and_intros <;> omega), (by omega), (by omega)⟩
      · refine Tr.aload_n (pc := 64) (i := 0) d_X12_variable_64 rfl rfl ?_
        refine Tr.getf (pc := 65) d_X12_variable_65 f_12_69 (by decide) (by decide) (ty_120 hS.1.1) ?_
        refine Tr.tp 128 (fx_120_19 hS.1.1) ?_
        refine Tr.aload_n (pc := 68) (i := 0) d_X12_variable_68 rfl rfl ?_
        refine Tr.getf (pc := 69) d_X12_variable_69 f_12_124 (by decide) (by decide) (ty_120 hS.1.1) ?_
        refine Tr.tp 1 ((kp_X12_variable_120_120_37 hS).trans en_120_37) ?_
        refine Tr.dup2 (pc := 72) d_X12_variable_72 ne01 ne21 ?_
        refine Tr.iald (pc := 73) d_X12_variable_73 (ty_128 hS.1.1) (by omega) (by omega) ?_
        refine Tr.tp g128_1 ((Wr.b w56 rfl).trans ((kp_X12_fresh_120_128_1 h53).trans ((kp_X12_counts_120_128_1 h20).trans k20_128_1))) ?_
        refine Tr.iconst (pc := 74) d_X12_variable_74 (by decide) ?_
        refine Tr.iadd (pc := 75) d_X12_variable_75 ?_
        refine Tr.tp (g128_1 + 1) ((w32_id (by and_intros <;> omega)).trans (by omega)) ?_
        refine Tr.iastS (pc := 76) (P := St Pm1 ws_X12_variable_120 as_X12_variable_120 M0) d_X12_variable_76 (ty_128 hS.1.1) (by omega) (by omega) (st_128_1 hS (by decide) (by exact (hd_o t20_0).elim (fun h1 => (hd_o z20_6).elim (fun h2 => by omega) (fun h2 => by omega)) (fun h1 => (ne_o h1.2).elim (fun h2 => by omega) (fun h2 => by omega))) (Pm1.of hS.1.2.2.2.2 (fun _ => rd_wb _ rfl) (fun _ => rd_wb _ rfl) (fun _ => rd_wb _ rfl) (fun _ => rd_wb _ rfl) (fun _ => rd_wb _ rfl) (fun _ => rd_wb _ rfl) (fun _ => rd_wb _ rfl) (fun _ => rd_wb _ rfl) (fun _ => rd_wb _ rfl) (fun _ => rd_wb _ rfl) (rd_wb _ rfl) (rd_wb _ rfl) (rd_wb _ rfl) (rd_wb _ rfl) (rd_wb _ rfl) (rd_wb _ rfl) (rd_wb _ rfl) (rd_wb _ rfl) (rd_wb _ rfl) (rd_wb _ rfl) (rd_wb _ rfl))) (fun M76 hS w76 => ?_)
        have kr_120_3 : rd M76 120 3 = s53_120_3 := ((Wr.b w76 rfl).trans ((Wr.b w56 rfl).trans es53_120_3))
        have kr_120_4 : rd M76 120 4 = s53_120_4 := ((Wr.b w76 rfl).trans ((Wr.b w56 rfl).trans es53_120_4))
        have kr_120_5 : rd M76 120 5 = s53_120_5 := ((Wr.b w76 rfl).trans ((Wr.b w56 rfl).trans es53_120_5))
        have kr_120_7 : rd M76 120 7 = s53_120_7 := ((Wr.b w76 rfl).trans ((Wr.b w56 rfl).trans es53_120_7))
        have kr_120_8 : rd M76 120 8 = s53_120_8 := ((Wr.b w76 rfl).trans ((Wr.b w56 rfl).trans es53_120_8))
        have kr_9010_0 : tav M76 = s53_9010_0 := ((tav_of ((Wr.b w76 rfl).trans ((Wr.b w56 rfl).trans rfl)) ((Wr.b w76 rfl).trans ((Wr.b w56 rfl).trans rfl))).trans es53_9010_0)
        exact Tr.vret (pc := 77) d_X12_variable_77 rfl ⟨hS, rfl, (by first | exact (hd_o z53_0) | exact (hd_o z53_0).elim (fun h1 => by omega) (fun h1 => by omega)), (by omega), (by first | exact (hd_o z53_2) | exact (hd_o z53_2).elim (fun h1 => by omega) (fun h1 => h1.elim (fun h1 => by omega) (fun h1 => by omega))), (by and_intros <;> omega), (by omega), (by exact (hd_o z53_5).elim (fun h1 => by omega) (fun h1 => by omega))⟩
    · have kr_120_3 : rd M20 120 3 = s20_120_3 := es20_120_3
      have kr_120_4 : rd M20 120 4 = s20_120_4 := es20_120_4
      have kr_120_5 : rd M20 120 5 = s20_120_5 := es20_120_5
      have kr_120_7 : rd M20 120 7 = s20_120_7 := es20_120_7
      have kr_120_8 : rd M20 120 8 = s20_120_8 := es20_120_8
      have kr_9010_0 : tav M20 = s20_9010_0 := es20_9010_0
      exact Tr.vret (pc := 30) d_X12_variable_30 rfl ⟨hS, rfl, (by first | exact (hd_o z20_0) | exact (hd_o z20_0).elim (fun h1 => by omega) (fun h1 => by omega)), (by omega), (by first | exact (hd_o z20_2) | exact (hd_o z20_2).elim (fun h1 => by omega) (fun h1 => h1.elim (fun h1 => by omega) (fun h1 => by omega))), (by and_intros <;> omega), (by first | exact (hd_o z20_4) | exact (hd_o z20_4).elim (fun h1 => by omega) (fun h1 => by omega)), (by first | exact (hd_o z20_5) | exact (hd_o z20_5).elim (fun h1 => by omega) (fun h1 => by omega))⟩
  refine Tr.icmp_ne (pc := 12) (tgt := 19) d_X12_variable_12 rfl (fun c12 => ?_) (fun c12 => ?_)
  · have c12b : 0 ≤ g128_1 ∧ g128_1 ≤ 5 := by omega
    replace c12 := hd_i c12
    refine Tr.iconst (pc := 19) d_X12_variable_19 (by decide) ?_
    refine Tr.pick [0] (ls2 := [(0, (2, 120))]) rfl ?_
    exact J20 _ _ hS (by omega) eg120_3 eg120_4 eg120_5 eg120_7 eg120_8 eg128_1 eg9010_0 (by omega)
  · refine Tr.iconst (pc := 15) d_X12_variable_15 (by decide) ?_
    refine Tr.goto (pc := 16) (tgt := 20) d_X12_variable_16 rfl ?_
    refine Tr.pick [0] (ls2 := [(0, (2, 120))]) rfl ?_
    exact J20 _ _ hS (by omega) eg120_3 eg120_4 eg120_5 eg120_7 eg120_8 eg128_1 eg9010_0 (by omega)

set_option maxRecDepth 100000 in
set_option maxHeartbeats 4000000 in
theorem ns_X12_variable_120 {l : Launch} {K : EC} {M0 : Mem} {G120_3 G120_4 G120_5 G120_7 G120_8 G9010_0 : Int} (hI : In Pm1 M0) (k120_3 : rd M0 120 3 = G120_3) (k120_4 : rd M0 120 4 = G120_4) (k120_5 : rd M0 120 5 = G120_5) (k120_7 : rd M0 120 7 = G120_7) (k120_8 : rd M0 120 8 = G120_8) (k9010_0 : tav M0 = G9010_0) (en_120_37 : rd M0 120 37 = 1)   (hq0 : G120_3 = 0 ∨ G120_4 + 1 ≤ G120_5) (hq1 : G120_4 ≤ G120_5) (hq2 : G120_3 ≠ 1 ∨ G120_4 + 2 ≤ G120_5 ∨ G120_7 < 256) (hq3 : G120_3 ≠ 0) (hq4 : G120_8 = 0) : Tr l K 3 mX12_variable 0 [(0, (2, 120))] [] M0 (fun M' r => St Pm1 ws_X12_variable_120 as_X12_variable_120 M0 M' ∧ ∃ S120_3 S120_4 S120_5 S120_7 S120_8 S9010_0 : Int, rd M' 120 3 = S120_3 ∧ (0 ≤ S120_3 ∧ S120_3 ≤ 3) ∧ rd M' 120 4 = S120_4 ∧ (0 ≤ S120_4 ∧ S120_4 ≤ 900) ∧ rd M' 120 5 = S120_5 ∧ (0 ≤ S120_5 ∧ S120_5 ≤ 900) ∧ rd M' 120 7 = S120_7 ∧ ((-9223372036854775808) ≤ S120_7 ∧ S120_7 ≤ 9223372036854775807) ∧ rd M' 120 8 = S120_8 ∧ (0 ≤ S120_8 ∧ S120_8 ≤ 5) ∧ tav M' = S9010_0 ∧ ((-1) ≤ S9010_0 ∧ S9010_0 ≤ 1800) ∧ r = none ∧ Hd (S120_3 = 0 ∨ S120_4 + 1 ≤ S120_5) ∧ (S120_4 ≤ S120_5) ∧ Hd (S120_3 ≠ 1 ∨ S120_4 + 2 ≤ S120_5 ∨ S120_7 < 256) ∧ (G120_4 ≤ S120_4 ∧ G120_5 ≤ S120_5 ∧ G9010_0 ≤ S9010_0) ∧ Hd (G120_8 = 0 ∨ S120_8 = G120_8) ∧ Hd (1 ≤ S120_8 ∨ G9010_0 < S9010_0)) := by
  subst k120_3
  subst k120_4
  subst k120_5
  subst k120_7
  subst k120_8
  subst k9010_0
  refine Tr.imp (sp_X12_variable_120 hI en_120_37 hq0 hq1 hq2 hq3 hq4) ?_
  rintro M' _ ⟨hS, rfl, z0, z1, z2, z3, z4, z5⟩
  exact ⟨hS, _, _, _, _, _, _, rfl, ir_120_3 hS.1.2.1, rfl, ir_120_4 hS.1.2.1, rfl, ir_120_5 hS.1.2.1, rfl, ir_120_7 hS.1.2.1, rfl, ir_120_8 hS.1.2.1, rfl, (tav_b hS.1.2.1), rfl, hd_i z0, z1, hd_i z2, z3, hd_i z4, hd_i z5⟩

def ws_X12_number_120 : List (Int × Int) := [(120, 3), (120, 4), (120, 5), (120, 6), (120, 7), (120, 8), (120, 9)]
def as_X12_number_120 : List Int := []
def q_X12_number_120 (a1 : Int) (a2 : Int) (M0 M' : Mem) (r : Option PV) : Prop := St Pm1 ws_X12_number_120 as_X12_number_120 M0 M' ∧ ∃ v : Int, r = some (0, v) ∧ (-2147483648) ≤ v ∧ v ≤ 2147483647 ∧ (rd M' 120 3 = 0 ∨ rd M' 120 4 + 1 ≤ rd M' 120 5) ∧ (rd M' 120 4 ≤ rd M' 120 5) ∧ (rd M' 120 3 ≠ 1 ∨ rd M' 120 4 + 2 ≤ rd M' 120 5 ∨ rd M' 120 7 < 256) ∧ (rd M0 120 4 ≤ rd M' 120 4 ∧ rd M0 120 5 ≤ rd M' 120 5 ∧ tav M0 ≤ tav M') ∧ (rd M0 120 8 = 0 ∨ rd M' 120 8 = rd M0 120 8) ∧ (1 ≤ rd M' 120 8 ∨ tav M0 < tav M') ∧ (1 ≤ rd M' 120 8 ∨ (a1 ≤ v ∧ v ≤ a2))
theorem ka_X12_is_131 {q : Mem → Prop} {M0 M : Mem} (h : St q ws_X12_is as_X12_is M0 M) (j : Int) : rd M 131 j = rd M0 131 j := St.ka h (by decide) (by decide) (by decide)
theorem ka_X12_is_137 {q : Mem → Prop} {M0 M : Mem} (h : St q ws_X12_is as_X12_is M0 M) (j : Int) : rd M 137 j = rd M0 137 j := St.ka h (by decide) (by decide) (by decide)
theorem ka_X12_is_138 {q : Mem → Prop} {M0 M : Mem} (h : St q ws_X12_is as_X12_is M0 M) (j : Int) : rd M 138 j = rd M0 138 j := St.ka h (by decide) (by decide) (by decide)
theorem ka_X12_is_139 {q : Mem → Prop} {M0 M : Mem} (h : St q ws_X12_is as_X12_is M0 M) (j : Int) : rd M 139 j = rd M0 139 j := St.ka h (by decide) (by decide) (by decide)
theorem ka_X12_is_140 {q : Mem → Prop} {M0 M : Mem} (h : St q ws_X12_is as_X12_is M0 M) (j : Int) : rd M 140 j = rd M0 140 j := St.ka h (by decide) (by decide) (by decide)
theorem ka_X12_is_141 {q : Mem → Prop} {M0 M : Mem} (h : St q ws_X12_is as_X12_is M0 M) (j : Int) : rd M 141 j = rd M0 141 j := St.ka h (by decide) (by decide) (by decide)
theorem ka_X12_is_142 {q : Mem → Prop} {M0 M : Mem} (h : St q ws_X12_is as_X12_is M0 M) (j : Int) : rd M 142 j = rd M0 142 j := St.ka h (by decide) (by decide) (by decide)
theorem ka_X12_is_143 {q : Mem → Prop} {M0 M : Mem} (h : St q ws_X12_is as_X12_is M0 M) (j : Int) : rd M 143 j = rd M0 143 j := St.ka h (by decide) (by decide) (by decide)
theorem ka_X12_is_151 {q : Mem → Prop} {M0 M : Mem} (h : St q ws_X12_is as_X12_is M0 M) (j : Int) : rd M 151 j = rd M0 151 j := St.ka h (by decide) (by decide) (by decide)
theorem ka_X12_is_152 {q : Mem → Prop} {M0 M : Mem} (h : St q ws_X12_is as_X12_is M0 M) (j : Int) : rd M 152 j = rd M0 152 j := St.ka h (by decide) (by decide) (by decide)
theorem kp_X12_is_126_0 {q : Mem → Prop} {M0 M : Mem} (h : St q ws_X12_is as_X12_is M0 M) : rd M 126 0 = rd M0 126 0 := St.kp h (by decide) (by decide) (by decide)
theorem kp_X12_is_126_1 {q : Mem → Prop} {M0 M : Mem} (h : St q ws_X12_is as_X12_is M0 M) : rd M 126 1 = rd M0 126 1 := St.kp h (by decide) (by decide) (by decide)
theorem kp_X12_is_136_0 {q : Mem → Prop} {M0 M : Mem} (h : St q ws_X12_is as_X12_is M0 M) : rd M 136 0 = rd M0 136 0 := St.kp h (by decide) (by decide) (by decide)
theorem kp_X12_is_136_1 {q : Mem → Prop} {M0 M : Mem} (h : St q ws_X12_is as_X12_is M0 M) : rd M 136 1 = rd M0 136 1 := St.kp h (by decide) (by decide) (by decide)
theorem kp_X12_is_123_0 {q : Mem → Prop} {M0 M : Mem} (h : St q ws_X12_is as_X12_is M0 M) : rd M 123 0 = rd M0 123 0 := St.kp h (by decide) (by decide) (by decide)
theorem kp_X12_is_123_1 {q : Mem → Prop} {M0 M : Mem} (h : St q ws_X12_is as_X12_is M0 M) : rd M 123 1 = rd M0 123 1 := St.kp h (by decide) (by decide) (by decide)
theorem kp_X12_is_124_0 {q : Mem → Prop} {M0 M : Mem} (h : St q ws_X12_is as_X12_is M0 M) : rd M 124 0 = rd M0 124 0 := St.kp h (by decide) (by decide) (by decide)
theorem kp_X12_is_124_1 {q : Mem → Prop} {M0 M : Mem} (h : St q ws_X12_is as_X12_is M0 M) : rd M 124 1 = rd M0 124 1 := St.kp h (by decide) (by decide) (by decide)
theorem kp_X12_is_120_8 {q : Mem → Prop} {M0 M : Mem} (h : St q ws_X12_is as_X12_is M0 M) : rd M 120 8 = rd M0 120 8 := St.kp h (by decide) (by decide) (by decide)
theorem kp_X12_is_120_36 {q : Mem → Prop} {M0 M : Mem} (h : St q ws_X12_is as_X12_is M0 M) : rd M 120 36 = rd M0 120 36 := St.kp h (by decide) (by decide) (by decide)
theorem kp_X12_is_120_50 {q : Mem → Prop} {M0 M : Mem} (h : St q ws_X12_is as_X12_is M0 M) : rd M 120 50 = rd M0 120 50 := St.kp h (by decide) (by decide) (by decide)
theorem kp_X12_is_120_3 {q : Mem → Prop} {M0 M : Mem} (h : St q ws_X12_is as_X12_is M0 M) : rd M 120 3 = rd M0 120 3 := St.kp h (by decide) (by decide) (by decide)
theorem kp_X12_is_120_4 {q : Mem → Prop} {M0 M : Mem} (h : St q ws_X12_is as_X12_is M0 M) : rd M 120 4 = rd M0 120 4 := St.kp h (by decide) (by decide) (by decide)
theorem kp_X12_is_120_5 {q : Mem → Prop} {M0 M : Mem} (h : St q ws_X12_is as_X12_is M0 M) : rd M 120 5 = rd M0 120 5 := St.kp h (by decide) (by decide) (by decide)
theorem kp_X12_is_120_6 {q : Mem → Prop} {M0 M : Mem} (h : St q ws_X12_is as_X12_is M0 M) : rd M 120 6 = rd M0 120 6 := St.kp h (by decide) (by decide) (by decide)
theorem kp_X12_is_120_7 {q : Mem → Prop} {M0 M : Mem} (h : St q ws_X12_is as_X12_is M0 M) : rd M 120 7 = rd M0 120 7 := St.kp h (by decide) (by decide) (by decide)
theorem kp_X12_blame_120_120_6 {q : Mem → Prop} {M0 M : Mem} (h : St q ws_X12_blame_120 as_X12_blame_120 M0 M) : rd M 120 6 = rd M0 120 6 := St.kp h (by decide) (by decide) (by decide)
set_option maxRecDepth 100000 in
set_option maxHeartbeats 4000000 in
theorem sp_X12_number_120 {l : Launch} {K : EC} {M0 : Mem} (hI : In Pm1 M0)  (a1 : Int) (ha1 : (-2147483648) ≤ a1 ∧ a1 ≤ 2147483647) (a2 : Int) (ha2 : 0 ≤ a2 ∧ a2 ≤ 999)  (hq0 : rd M0 120 3 = 0 ∨ rd M0 120 4 + 1 ≤ rd M0 120 5) (hq1 : rd M0 120 4 ≤ rd M0 120 5) (hq2 : rd M0 120 3 ≠ 1 ∨ rd M0 120 4 + 2 ≤ rd M0 120 5 ∨ rd M0 120 7 < 256) : Tr l K 2 mX12_number 0 [(0, (2, 120)), (1, (0, a1)), (2, (0, a2))] [] M0 (q_X12_number_120 a1 a2 M0) := by
  have hS : St Pm1 ws_X12_number_120 as_X12_number_120 M0 M0 := St.rf hI
  obtain ⟨g120_8, eg120_8⟩ : ∃ v, rd M0 120 8 = v := ⟨_, rfl⟩
  have bg120_8 : 0 ≤ g120_8 ∧ g120_8 ≤ 5 := by rw [← eg120_8]; exact ir_120_8 hI.2.1
  obtain ⟨g120_3, eg120_3⟩ : ∃ v, rd M0 120 3 = v := ⟨_, rfl⟩
  have bg120_3 : 0 ≤ g120_3 ∧ g120_3 ≤ 3 := by rw [← eg120_3]; exact ir_120_3 hI.2.1
  obtain ⟨g120_4, eg120_4⟩ : ∃ v, rd M0 120 4 = v := ⟨_, rfl⟩
  have bg120_4 : 0 ≤ g120_4 ∧ g120_4 ≤ 900 := by rw [← eg120_4]; exact ir_120_4 hI.2.1
  obtain ⟨g120_5, eg120_5⟩ : ∃ v, rd M0 120 5 = v := ⟨_, rfl⟩
  have bg120_5 : 0 ≤ g120_5 ∧ g120_5 ≤ 900 := by rw [← eg120_5]; exact ir_120_5 hI.2.1
  obtain ⟨g120_7, eg120_7⟩ : ∃ v, rd M0 120 7 = v := ⟨_, rfl⟩
  have bg120_7 : (-9223372036854775808) ≤ g120_7 ∧ g120_7 ≤ 9223372036854775807 := by rw [← eg120_7]; exact ir_120_7 hI.2.1
  obtain ⟨g9010_0, eg9010_0⟩ : ∃ v, tav M0 = v := ⟨_, rfl⟩
  have bg9010_0 : (-1) ≤ g9010_0 ∧ g9010_0 ≤ 1800 := by rw [← eg9010_0]; exact (tav_b hI.2.1)
  obtain ⟨g120_6, eg120_6⟩ : ∃ v, rd M0 120 6 = v := ⟨_, rfl⟩
  have bg120_6 : (-2147483648) ≤ g120_6 ∧ g120_6 ≤ 2147483647 := by rw [← eg120_6]; exact ir_120_6 hI.2.1
  replace hq0 := hd_i hq0
  replace hq2 := hd_i hq2
  refine Tr.aload_n (pc := 0) (i := 0) d_X12_number_0 rfl rfl ?_
  refine Tr.getf (pc := 1) d_X12_number_1 f_12_36 (by decide) (by decide) (ty_120 hS.1.1) ?_
  refine Tr.tp g120_8 eg120_8 ?_
  refine Tr.if_le (pc := 4) (tgt := 9) d_X12_number_4 rfl (fun c4 => ?_) (fun c4 => ?_)
  · refine Tr.aload_n (pc := 9) (i := 0) d_X12_number_9 rfl rfl ?_
    refine Tr.getf (pc := 10) d_X12_number_10 f_12_20 (by decide) (by decide) (ty_120 hS.1.1) ?_
    refine Tr.tp g120_3 eg120_3 ?_
    refine Tr.iconst (pc := 13) d_X12_number_13 (by decide) ?_
    have J26 : ∀ (M : Mem) (u26_120_8 : Int), St Pm1 ws_X12_number_120 as_X12_number_120 M0 M → (0 ≤ u26_120_8 ∧ u26_120_8 ≤ 5) → rd M 120 3 = g120_3 → rd M 120 4 = g120_4 → rd M 120 5 = g120_5 → rd M 120 6 = g120_6 → rd M 120 7 = g120_7 → rd M 120 8 = u26_120_8 → tav M = g9010_0 → (u26_120_8 ≠ 0 ∨ g120_3 ≠ 0) → (g120_8 = 0) → Tr l K 2 mX12_number 26 [(0, (2, 120)), (1, (0, a1)), (2, (0, a2))] [] M (q_X12_number_120 a1 a2 M0) := by
      intro M u26_120_8 hS bu26_120_8 k26_120_3 k26_120_4 k26_120_5 k26_120_6 k26_120_7 k26_120_8 k26_9010_0 t26_0 t26_1
      replace t26_0 := hd_i t26_0
      refine Tr.aload_n (pc := 26) (i := 0) d_X12_number_26 rfl rfl ?_
      refine Tr.getf (pc := 27) d_X12_number_27 f_12_36 (by decide) (by decide) (ty_120 hS.1.1) ?_
      refine Tr.tp u26_120_8 k26_120_8 ?_
      have J54 : ∀ (M : Mem) (u54_120_8 : Int), St Pm1 ws_X12_number_120 as_X12_number_120 M0 M → (0 ≤ u54_120_8 ∧ u54_120_8 ≤ 5) → rd M 120 3 = g120_3 → rd M 120 4 = g120_4 → rd M 120 5 = g120_5 → rd M 120 6 = g120_6 → rd M 120 7 = g120_7 → rd M 120 8 = u54_120_8 → tav M = g9010_0 → (u54_120_8 ≠ 0 ∨ g120_3 ≠ 0) → (g120_8 = 0) → (u54_120_8 ≠ 0 ∨ (a1 ≤ g120_6 ∧ g120_6 ≤ a2)) → Tr l K 2 mX12_number 54 [(0, (2, 120))] [] M (q_X12_number_120 a1 a2 M0) := by
        intro M u54_120_8 hS bu54_120_8 k54_120_3 k54_120_4 k54_120_5 k54_120_6 k54_120_7 k54_120_8 k54_9010_0 t54_0 t54_1 t54_2
        clear k26_120_3 k26_120_4 k26_120_5 k26_120_6 k26_120_7 k26_120_8 k26_9010_0
        replace t54_0 := hd_i t54_0
        replace t54_2 := hd_i t54_2
        refine Tr.aload_n (pc := 54) (i := 0) d_X12_number_54 rfl rfl ?_
        refine Tr.getf (pc := 55) d_X12_number_55 f_12_29 (by decide) (by decide) (ty_120 hS.1.1) ?_
        refine Tr.tp g120_6 k54_120_6 ?_
        refine Tr.istore_n (pc := 58) (i := 3) (ls2 := [(3, (0, g120_6)), (0, (2, 120))]) d_X12_number_58 rfl (by decide) rfl ?_
        refine Tr.aload_n (pc := 59) (i := 0) d_X12_number_59 rfl rfl ?_
        refine Tr.getf (pc := 60) d_X12_number_60 f_12_36 (by decide) (by decide) (ty_120 hS.1.1) ?_
        refine Tr.tp u54_120_8 k54_120_8 ?_
        refine Tr.if_ne (pc := 63) (tgt := 70) d_X12_number_63 rfl (fun c63 => ?_) (fun c63 => ?_)
        · have c63b : 1 ≤ u54_120_8 ∧ u54_120_8 ≤ 5 := by omega
          replace c63 := hd_i c63
          refine Tr.iload_n (pc := 70) (i := 3) d_X12_number_70 rfl rfl ?_
          have kr_120_3 : rd M 120 3 = g120_3 := k54_120_3
          have kr_120_4 : rd M 120 4 = g120_4 := k54_120_4
          have kr_120_5 : rd M 120 5 = g120_5 := k54_120_5
          have kr_120_7 : rd M 120 7 = g120_7 := k54_120_7
          have kr_120_8 : rd M 120 8 = u54_120_8 := k54_120_8
          have kr_9010_0 : tav M = g9010_0 := k54_9010_0
          exact Tr.iret (pc := 71) d_X12_number_71 rfl ⟨hS, _, rfl, (by omega), (by omega), (by first | exact (hd_o hq0) | exact (hd_o hq0).elim (fun h1 => by omega) (fun h1 => by omega)), (by omega), (by first | exact (hd_o hq2) | exact (hd_o hq2).elim (fun h1 => by omega) (fun h1 => h1.elim (fun h1 => by omega) (fun h1 => by omega))), (by and_intros <;> omega), (by omega), (by omega), (by omega)⟩
        · refine Tr.aload_n (pc := 66) (i := 0) d_X12_number_66 rfl rfl ?_
          refine Tr.callV (pc := 67) (as := []) d_X12_number_67 s_12_396 ok_X12_next rfl rfl (Nat.le_of_ble_eq_true rfl) (Nat.le_of_ble_eq_true rfl) (by decide) (ty_120 hS.1.1) ?_
          refine Tr.imp (Tr.deep (by decide) (ns_X12_next_120 (G120_3 := g120_3) (G120_5 := g120_5) (G120_8 := u54_120_8) (G9010_0 := g9010_0) hS.1 (k54_120_3) (k54_120_5) (k54_120_8) (k54_9010_0))) ?_
          rintro M67 _ ⟨h67, s67_120_3, s67_120_4, s67_120_5, s67_120_7, s67_120_8, s67_9010_0, es67_120_3, bs67_120_3, es67_120_4, bs67_120_4, es67_120_5, bs67_120_5, es67_120_7, bs67_120_7, es67_120_8, bs67_120_8, es67_9010_0, bs67_9010_0, rfl, z67_0, z67_1, z67_2, z67_3, z67_4, z67_5, z67_6⟩
          have hS := St.tr hS h67 (by decide) (by decide)
          refine Tr.sc [] rfl ?_
          refine Tr.iload_n (pc := 70) (i := 3) d_X12_number_70 rfl rfl ?_
          have kr_120_3 : rd M67 120 3 = s67_120_3 := es67_120_3
          have kr_120_4 : rd M67 120 4 = s67_120_4 := es67_120_4
          have kr_120_5 : rd M67 120 5 = s67_120_5 := es67_120_5
          have kr_120_7 : rd M67 120 7 = s67_120_7 := es67_120_7
          have kr_120_8 : rd M67 120 8 = s67_120_8 := es67_120_8
          have kr_9010_0 : tav M67 = s67_9010_0 := es67_9010_0
          exact Tr.iret (pc := 71) d_X12_number_71 rfl ⟨hS, _, rfl, (by omega), (by omega), (by first | exact (hd_o z67_0) | exact (hd_o z67_0).elim (fun h1 => by omega) (fun h1 => by omega)), (by omega), (by first | exact (hd_o z67_2) | exact (hd_o z67_2).elim (fun h1 => by omega) (fun h1 => h1.elim (fun h1 => by omega) (fun h1 => by omega))), (by and_intros <;> omega), (by omega), (by exact (hd_o t54_0).elim (fun h1 => (ne_o h1).elim (fun h2 => by omega) (fun h2 => by omega)) (fun h1 => (ne_o h1).elim (fun h2 => by omega) (fun h2 => (hd_o z67_5).elim (fun h3 => by omega) (fun h3 => by omega)))), (by exact (hd_o t54_2).elim (fun h1 => (ne_o h1).elim (fun h2 => by omega) (fun h2 => by omega)) (fun h1 => by omega))⟩
      refine Tr.if_ne (pc := 30) (tgt := 54) d_X12_number_30 rfl (fun c30 => ?_) (fun c30 => ?_)
      · have c30b : 1 ≤ u26_120_8 ∧ u26_120_8 ≤ 5 := by omega
        replace c30 := hd_i c30
        refine Tr.pick [0] (ls2 := [(0, (2, 120))]) rfl ?_
        exact J54 _ _ hS (by and_intros <;> omega) k26_120_3 k26_120_4 k26_120_5 k26_120_6 k26_120_7 k26_120_8 k26_9010_0 (by first | exact (hd_o t26_0) | exact (hd_o t26_0).elim (fun h1 => by omega) (fun h1 => by omega)) (by omega) (by omega)
      · refine Tr.aload_n (pc := 33) (i := 0) d_X12_number_33 rfl rfl ?_
        refine Tr.getf (pc := 34) d_X12_number_34 f_12_29 (by decide) (by decide) (ty_120 hS.1.1) ?_
        refine Tr.tp g120_6 k26_120_6 ?_
        refine Tr.iload_n (pc := 37) (i := 1) d_X12_number_37 rfl rfl ?_
        refine Tr.iload_n (pc := 38) (i := 2) d_X12_number_38 rfl rfl ?_
        refine Tr.callS (pc := 39) (as := [_, _, _]) d_X12_number_39 s_12_467 ok_X12_is rfl rfl (Nat.le_of_ble_eq_true rfl) (Nat.le_of_ble_eq_true rfl) ?_
        refine Tr.imp (Tr.deep (by decide) (sp_X12_is hS.1.wk g120_6 (by and_intros <;> omega) a1 (by and_intros <;> omega) a2 (by and_intros <;> omega))) ?_
        rintro M39 _ ⟨h39, r39, rfl, lr39, ur39, wr39⟩
        have h39 := St.rn h39 (Pm1.of hS.1.2.2.2.2 (fun _ => (ka_X12_is_131 h39 _)) (fun _ => (ka_X12_is_137 h39 _)) (fun _ => (ka_X12_is_138 h39 _)) (fun _ => (ka_X12_is_139 h39 _)) (fun _ => (ka_X12_is_140 h39 _)) (fun _ => (ka_X12_is_141 h39 _)) (fun _ => (ka_X12_is_142 h39 _)) (fun _ => (ka_X12_is_143 h39 _)) (fun _ => (ka_X12_is_151 h39 _)) (fun _ => (ka_X12_is_152 h39 _)) (kp_X12_is_126_0 h39) (kp_X12_is_126_1 h39) (kp_X12_is_136_0 h39) (kp_X12_is_136_1 h39) (kp_X12_is_123_0 h39) (kp_X12_is_123_1 h39) (kp_X12_is_124_0 h39) (kp_X12_is_124_1 h39) (kp_X12_is_120_8 h39) (kp_X12_is_120_36 h39) (kp_X12_is_120_50 h39))
        have hS := St.tr hS h39 (by decide) (by decide)
        replace wr39 := hd_i wr39
        refine Tr.sc [(0, r39)] rfl ?_
        refine Tr.if_ne (pc := 42) (tgt := 54) d_X12_number_42 rfl (fun c42 => ?_) (fun c42 => ?_)
        · have c42b : 1 ≤ r39 ∧ r39 ≤ 1 := by omega
          replace c42 := hd_i c42
          refine Tr.pick [0] (ls2 := [(0, (2, 120))]) rfl ?_
          exact J54 _ _ hS (by and_intros <;> omega) ((kp_X12_is_120_3 h39).trans k26_120_3) ((kp_X12_is_120_4 h39).trans k26_120_4) ((kp_X12_is_120_5 h39).trans k26_120_5) ((kp_X12_is_120_6 h39).trans k26_120_6) ((kp_X12_is_120_7 h39).trans k26_120_7) ((kp_X12_is_120_8 h39).trans k26_120_8) ((tav_of ((kp_X12_is_120_5 h39).trans rfl) ((kp_X12_is_120_3 h39).trans rfl)).trans k26_9010_0) (by first | exact (hd_o t26_0) | exact (hd_o t26_0).elim (fun h1 => by omega) (fun h1 => by omega)) (by omega) (by exact (hd_o wr39).elim (fun h1 => by omega) (fun h1 => by omega))
        · refine Tr.aload_n (pc := 45) (i := 0) d_X12_number_45 rfl rfl ?_
          refine Tr.iconst (pc := 46) d_X12_number_46 (by decide) ?_
          refine Tr.aload_n (pc := 47) (i := 0) d_X12_number_47 rfl rfl ?_
          refine Tr.getf (pc := 48) d_X12_number_48 f_12_23 (by decide) (by decide) (ty_120 hS.1.1) ?_
          refine Tr.tp g120_4 ((kp_X12_is_120_4 h39).trans k26_120_4) ?_
          refine Tr.callV (pc := 51) (as := [_, _]) d_X12_number_51 s_12_389 ok_X12_blame rfl rfl (Nat.le_of_ble_eq_true rfl) (Nat.le_of_ble_eq_true rfl) (by decide) (ty_120 hS.1.1) ?_
          refine Tr.imp (Tr.deep (by decide) (ns_X12_blame_120 (G120_8 := u26_120_8) hS.1 (((kp_X12_is_120_8 h39).trans k26_120_8)) 4 (by omega) g120_4 (by and_intros <;> omega))) ?_
          rintro M51 _ ⟨h51, s51_120_8, es51_120_8, bs51_120_8, rfl, z51_0⟩
          have hS := St.tr hS h51 (by decide) (by decide)
          refine Tr.sc [] rfl ?_
          refine Tr.pick [0] (ls2 := [(0, (2, 120))]) rfl ?_
          exact J54 _ _ hS (by and_intros <;> omega) ((kp_X12_blame_120_120_3 h51).trans ((kp_X12_is_120_3 h39).trans k26_120_3)) ((kp_X12_blame_120_120_4 h51).trans ((kp_X12_is_120_4 h39).trans k26_120_4)) ((kp_X12_blame_120_120_5 h51).trans ((kp_X12_is_120_5 h39).trans k26_120_5)) ((kp_X12_blame_120_120_6 h51).trans ((kp_X12_is_120_6 h39).trans k26_120_6)) ((kp_X12_blame_120_120_7 h51).trans ((kp_X12_is_120_7 h39).trans k26_120_7)) es51_120_8 ((tav_of ((kp_X12_blame_120_120_5 h51).trans ((kp_X12_is_120_5 h39).trans rfl)) ((kp_X12_blame_120_120_3 h51).trans ((kp_X12_is_120_3 h39).trans rfl))).trans k26_9010_0) (by exact (hd_o z51_0).elim (fun h1 => by omega) (fun h1 => by omega)) (by omega) (by exact (hd_o z51_0).elim (fun h1 => by omega) (fun h1 => by omega))
    refine Tr.icmp_eq (pc := 14) (tgt := 26) d_X12_number_14 rfl (fun c14 => ?_) (fun c14 => ?_)
    · refine Tr.pick [0, 1, 2] (ls2 := [(0, (2, 120)), (1, (0, a1)), (2, (0, a2))]) rfl ?_
      exact J26 _ _ hS (by and_intros <;> omega) eg120_3 eg120_4 eg120_5 eg120_6 eg120_7 eg120_8 eg9010_0 (by omega) (by omega)
    · replace c14 := hd_i c14
      refine Tr.aload_n (pc := 17) (i := 0) d_X12_number_17 rfl rfl ?_
      refine Tr.iconst (pc := 18) d_X12_number_18 (by decide) ?_
      refine Tr.aload_n (pc := 19) (i := 0) d_X12_number_19 rfl rfl ?_
      refine Tr.getf (pc := 20) d_X12_number_20 f_12_23 (by decide) (by decide) (ty_120 hS.1.1) ?_
      refine Tr.tp g120_4 eg120_4 ?_
      refine Tr.callV (pc := 23) (as := [_, _]) d_X12_number_23 s_12_389 ok_X12_blame rfl rfl (Nat.le_of_ble_eq_true rfl) (Nat.le_of_ble_eq_true rfl) (by decide) (ty_120 hS.1.1) ?_
      refine Tr.imp (Tr.deep (by decide) (ns_X12_blame_120 (G120_8 := g120_8) hS.1 (eg120_8) 1 (by omega) g120_4 (by and_intros <;> omega))) ?_
      rintro M23 _ ⟨h23, s23_120_8, es23_120_8, bs23_120_8, rfl, z23_0⟩
      have hS := St.tr hS h23 (by decide) (by decide)
      refine Tr.sc [] rfl ?_
      refine Tr.pick [0, 1, 2] (ls2 := [(0, (2, 120)), (1, (0, a1)), (2, (0, a2))]) rfl ?_
      exact J26 _ _ hS (by and_intros <;> omega) ((kp_X12_blame_120_120_3 h23).trans eg120_3) ((kp_X12_blame_120_120_4 h23).trans eg120_4) ((kp_X12_blame_120_120_5 h23).trans eg120_5) ((kp_X12_blame_120_120_6 h23).trans eg120_6) ((kp_X12_blame_120_120_7 h23).trans eg120_7) es23_120_8 ((tav_of ((kp_X12_blame_120_120_5 h23).trans rfl) ((kp_X12_blame_120_120_3 h23).trans rfl)).trans eg9010_0) (by exact (hd_o z23_0).elim (fun h1 => by omega) (fun h1 => by omega)) (by omega)
  · refine Tr.iconst (pc := 7) d_X12_number_7 (by decide) ?_
    have kr_120_3 : rd M0 120 3 = g120_3 := eg120_3
    have kr_120_4 : rd M0 120 4 = g120_4 := eg120_4
    have kr_120_5 : rd M0 120 5 = g120_5 := eg120_5
    have kr_120_7 : rd M0 120 7 = g120_7 := eg120_7
    have kr_120_8 : rd M0 120 8 = g120_8 := eg120_8
    have kr_9010_0 : tav M0 = g9010_0 := eg9010_0
    exact Tr.iret (pc := 8) d_X12_number_8 rfl ⟨hS, _, rfl, by omega, by omega, (by first | exact (hd_o hq0) | exact (hd_o hq0).elim (fun h1 => by omega) (fun h1 => by omega)), (by omega), (by first | exact (hd_o hq2) | exact (hd_o hq2).elim (fun h1 => by omega) (fun h1 => h1.elim (fun h1 => by omega) (fun h1 => by omega))), (by and_intros <;> omega), (by omega), (by omega), (by omega)⟩

set_option maxRecDepth 100000 in
set_option maxHeartbeats 4000000 in
theorem ns_X12_number_120 {l : Launch} {K : EC} {M0 : Mem} {G120_3 G120_4 G120_5 G120_7 G120_8 G9010_0 : Int} (hI : In Pm1 M0) (k120_3 : rd M0 120 3 = G120_3) (k120_4 : rd M0 120 4 = G120_4) (k120_5 : rd M0 120 5 = G120_5) (k120_7 : rd M0 120 7 = G120_7) (k120_8 : rd M0 120 8 = G120_8) (k9010_0 : tav M0 = G9010_0)  (a1 : Int) (ha1 : (-2147483648) ≤ a1 ∧ a1 ≤ 2147483647) (a2 : Int) (ha2 : 0 ≤ a2 ∧ a2 ≤ 999)  (hq0 : G120_3 = 0 ∨ G120_4 + 1 ≤ G120_5) (hq1 : G120_4 ≤ G120_5) (hq2 : G120_3 ≠ 1 ∨ G120_4 + 2 ≤ G120_5 ∨ G120_7 < 256) : Tr l K 2 mX12_number 0 [(0, (2, 120)), (1, (0, a1)), (2, (0, a2))] [] M0 (fun M' r => St Pm1 ws_X12_number_120 as_X12_number_120 M0 M' ∧ ∃ S120_3 S120_4 S120_5 S120_7 S120_8 S9010_0 : Int, rd M' 120 3 = S120_3 ∧ (0 ≤ S120_3 ∧ S120_3 ≤ 3) ∧ rd M' 120 4 = S120_4 ∧ (0 ≤ S120_4 ∧ S120_4 ≤ 900) ∧ rd M' 120 5 = S120_5 ∧ (0 ≤ S120_5 ∧ S120_5 ≤ 900) ∧ rd M' 120 7 = S120_7 ∧ ((-9223372036854775808) ≤ S120_7 ∧ S120_7 ≤ 9223372036854775807) ∧ rd M' 120 8 = S120_8 ∧ (0 ≤ S120_8 ∧ S120_8 ≤ 5) ∧ tav M' = S9010_0 ∧ ((-1) ≤ S9010_0 ∧ S9010_0 ≤ 1800) ∧ ∃ v : Int, r = some (0, v) ∧ (-2147483648) ≤ v ∧ v ≤ 2147483647 ∧ Hd (S120_3 = 0 ∨ S120_4 + 1 ≤ S120_5) ∧ (S120_4 ≤ S120_5) ∧ Hd (S120_3 ≠ 1 ∨ S120_4 + 2 ≤ S120_5 ∨ S120_7 < 256) ∧ (G120_4 ≤ S120_4 ∧ G120_5 ≤ S120_5 ∧ G9010_0 ≤ S9010_0) ∧ Hd (G120_8 = 0 ∨ S120_8 = G120_8) ∧ Hd (1 ≤ S120_8 ∨ G9010_0 < S9010_0) ∧ Hd (1 ≤ S120_8 ∨ (a1 ≤ v ∧ v ≤ a2))) := by
  subst k120_3
  subst k120_4
  subst k120_5
  subst k120_7
  subst k120_8
  subst k9010_0
  refine Tr.imp (sp_X12_number_120 hI a1 ha1 a2 ha2 hq0 hq1 hq2) ?_
  rintro M' _ ⟨hS, v, rfl, lr, ur, z0, z1, z2, z3, z4, z5, z6⟩
  exact ⟨hS, _, _, _, _, _, _, rfl, ir_120_3 hS.1.2.1, rfl, ir_120_4 hS.1.2.1, rfl, ir_120_5 hS.1.2.1, rfl, ir_120_7 hS.1.2.1, rfl, ir_120_8 hS.1.2.1, rfl, (tav_b hS.1.2.1), v, rfl, lr, ur, hd_i z0, z1, hd_i z2, z3, hd_i z4, hd_i z5, hd_i z6⟩

def ws_X12_input_120 : List (Int × Int) := [(120, 3), (120, 4), (120, 5), (120, 6), (120, 7), (120, 8), (120, 9), (127, 1)]
def as_X12_input_120 : List Int := [132, 133, 134]
def q_X12_input_120 (M0 M' : Mem) (r : Option PV) : Prop := St Pm1 ws_X12_input_120 as_X12_input_120 M0 M' ∧ r = none ∧ (rd M' 120 3 = 0 ∨ rd M' 120 4 + 1 ≤ rd M' 120 5) ∧ (rd M' 120 4 ≤ rd M' 120 5) ∧ (rd M' 120 3 ≠ 1 ∨ rd M' 120 4 + 2 ≤ rd M' 120 5 ∨ rd M' 120 7 < 256) ∧ (rd M0 120 4 ≤ rd M' 120 4 ∧ rd M0 120 5 ≤ rd M' 120 5 ∧ tav M0 ≤ tav M') ∧ (rd M0 120 8 = 0 ∨ rd M' 120 8 = rd M0 120 8) ∧ (1 ≤ rd M' 120 8 ∨ tav M0 < tav M')
theorem kp_X12_input_120_120_37 {q : Mem → Prop} {M0 M : Mem} (h : St q ws_X12_input_120 as_X12_input_120 M0 M) : rd M 120 37 = rd M0 120 37 := St.kp h (by decide) (by decide) (by decide)
theorem kp_X12_counts_120_127_1 {q : Mem → Prop} {M0 M : Mem} (h : St q ws_X12_counts_120 as_X12_counts_120 M0 M) : rd M 127 1 = rd M0 127 1 := St.kp h (by decide) (by decide) (by decide)
theorem kp_X12_fresh_120_127_1 {q : Mem → Prop} {M0 M : Mem} (h : St q ws_X12_fresh_120 as_X12_fresh_120 M0 M) : rd M 127 1 = rd M0 127 1 := St.kp h (by decide) (by decide) (by decide)
theorem kp_X12_number_120_127_1 {q : Mem → Prop} {M0 M : Mem} (h : St q ws_X12_number_120 as_X12_number_120 M0 M) : rd M 127 1 = rd M0 127 1 := St.kp h (by decide) (by decide) (by decide)
set_option maxRecDepth 100000 in
set_option maxHeartbeats 4000000 in
theorem sp_X12_input_120 {l : Launch} {K : EC} {M0 : Mem} (hI : In Pm1 M0) (en_120_37 : rd M0 120 37 = 1)   (hq0 : rd M0 120 3 = 0 ∨ rd M0 120 4 + 1 ≤ rd M0 120 5) (hq1 : rd M0 120 4 ≤ rd M0 120 5) (hq2 : rd M0 120 3 ≠ 1 ∨ rd M0 120 4 + 2 ≤ rd M0 120 5 ∨ rd M0 120 7 < 256) (hq3 : rd M0 120 3 ≠ 0) (hq4 : rd M0 120 8 = 0) : Tr l K 3 mX12_input 0 [(0, (2, 120))] [] M0 (q_X12_input_120 M0) := by
  have hS : St Pm1 ws_X12_input_120 as_X12_input_120 M0 M0 := St.rf hI
  obtain ⟨g120_8, eg120_8⟩ : ∃ v, rd M0 120 8 = v := ⟨_, rfl⟩
  have bg120_8 : 0 ≤ g120_8 ∧ g120_8 ≤ 5 := by rw [← eg120_8]; exact ir_120_8 hI.2.1
  obtain ⟨g120_3, eg120_3⟩ : ∃ v, rd M0 120 3 = v := ⟨_, rfl⟩
  have bg120_3 : 0 ≤ g120_3 ∧ g120_3 ≤ 3 := by rw [← eg120_3]; exact ir_120_3 hI.2.1
  obtain ⟨g120_4, eg120_4⟩ : ∃ v, rd M0 120 4 = v := ⟨_, rfl⟩
  have bg120_4 : 0 ≤ g120_4 ∧ g120_4 ≤ 900 := by rw [← eg120_4]; exact ir_120_4 hI.2.1
  obtain ⟨g120_5, eg120_5⟩ : ∃ v, rd M0 120 5 = v := ⟨_, rfl⟩
  have bg120_5 : 0 ≤ g120_5 ∧ g120_5 ≤ 900 := by rw [← eg120_5]; exact ir_120_5 hI.2.1
  obtain ⟨g120_7, eg120_7⟩ : ∃ v, rd M0 120 7 = v := ⟨_, rfl⟩
  have bg120_7 : (-9223372036854775808) ≤ g120_7 ∧ g120_7 ≤ 9223372036854775807 := by rw [← eg120_7]; exact ir_120_7 hI.2.1
  obtain ⟨g9010_0, eg9010_0⟩ : ∃ v, tav M0 = v := ⟨_, rfl⟩
  have bg9010_0 : (-1) ≤ g9010_0 ∧ g9010_0 ≤ 1800 := by rw [← eg9010_0]; exact (tav_b hI.2.1)
  obtain ⟨g127_1, eg127_1⟩ : ∃ v, rd M0 127 1 = v := ⟨_, rfl⟩
  have bg127_1 : 0 ≤ g127_1 ∧ g127_1 ≤ 3 := by rw [← eg127_1]; exact ir_127_1 hI.2.1
  replace hq0 := hd_i hq0
  replace hq2 := hd_i hq2
  replace hq3 := hd_i hq3
  refine Tr.aload_n (pc := 0) (i := 0) d_X12_input_0 rfl rfl ?_
  refine Tr.aload_n (pc := 1) (i := 0) d_X12_input_1 rfl rfl ?_
  refine Tr.getf (pc := 2) d_X12_input_2 f_12_66 (by decide) (by decide) (ty_120 hS.1.1) ?_
  refine Tr.tp 127 (fx_120_18 hS.1.1) ?_
  refine Tr.aload_n (pc := 5) (i := 0) d_X12_input_5 rfl rfl ?_
  refine Tr.getf (pc := 6) d_X12_input_6 f_12_124 (by decide) (by decide) (ty_120 hS.1.1) ?_
  refine Tr.tp 1 ((kp_X12_input_120_120_37 hS).trans en_120_37) ?_
  refine Tr.iald (pc := 9) d_X12_input_9 (ty_127 hS.1.1) (by omega) (by omega) ?_
  refine Tr.tp g127_1 eg127_1 ?_
  refine Tr.iconst (pc := 10) d_X12_input_10 (by decide) ?_
  have J19 : ∀ (M : Mem) (q19_1 : Int), St Pm1 ws_X12_input_120 as_X12_input_120 M0 M → (0 ≤ q19_1 ∧ q19_1 ≤ 1) → rd M 120 3 = g120_3 → rd M 120 4 = g120_4 → rd M 120 5 = g120_5 → rd M 120 7 = g120_7 → rd M 120 8 = g120_8 → rd M 127 1 = g127_1 → tav M = g9010_0 → ((q19_1 = 1 ∧ g127_1 = 3) ∨ (q19_1 = 0 ∧ g127_1 ≠ 3)) → Tr l K 3 mX12_input 19 [(0, (2, 120))] [(0, q19_1), (2, 120)] M (q_X12_input_120 M0) := by
    intro M q19_1 hS bq19_1 k19_120_3 k19_120_4 k19_120_5 k19_120_7 k19_120_8 k19_127_1 k19_9010_0 t19_0
    replace t19_0 := hd_i t19_0
    refine Tr.callV (pc := 19) (as := [_]) d_X12_input_19 s_12_505 ok_X12_counts rfl rfl (Nat.le_of_ble_eq_true rfl) (Nat.le_of_ble_eq_true rfl) (by decide) (ty_120 hS.1.1) ?_
    refine Tr.imp (Tr.deep (by decide) (ns_X12_counts_120 (G120_3 := g120_3) (G120_4 := g120_4) (G120_5 := g120_5) (G120_7 := g120_7) (G120_8 := g120_8) (G9010_0 := g9010_0) hS.1 (k19_120_3) (k19_120_4) (k19_120_5) (k19_120_7) (k19_120_8) (k19_9010_0) q19_1 (by and_intros <;> omega) (by first | exact (hd_o hq0) | exact (hd_o hq0).elim (fun h1 => by omega) (fun h1 => by omega)) (by omega) (by first | exact (hd_o hq2) | exact (hd_o hq2).elim (fun h1 => by omega) (fun h1 => h1.elim (fun h1 => by omega) (fun h1 => by omega))) (by have h1 := (hd_o hq3); omega))) ?_
    rintro M19 _ ⟨h19, s19_120_3, s19_120_4, s19_120_5, s19_120_7, s19_120_8, s19_9010_0, es19_120_3, bs19_120_3, es19_120_4, bs19_120_4, es19_120_5, bs19_120_5, es19_120_7, bs19_120_7, es19_120_8, bs19_120_8, es19_9010_0, bs19_9010_0, rfl, z19_0, z19_1, z19_2, z19_3, z19_4, z19_5, z19_6⟩
    have hS := St.tr hS h19 (by decide) (by decide)
    refine Tr.sc [] rfl ?_
    refine Tr.aload_n (pc := 22) (i := 0) d_X12_input_22 rfl rfl ?_
    refine Tr.getf (pc := 23) d_X12_input_23 f_12_36 (by decide) (by decide) (ty_120 hS.1.1) ?_
    refine Tr.tp s19_120_8 es19_120_8 ?_
    refine Tr.if_le (pc := 26) (tgt := 30) d_X12_input_26 rfl (fun c26 => ?_) (fun c26 => ?_)
    · refine Tr.iconst (pc := 30) d_X12_input_30 (by decide) ?_
      refine Tr.aload_n (pc := 31) (i := 0) d_X12_input_31 rfl rfl ?_
      refine Tr.getf (pc := 32) d_X12_input_32 f_12_124 (by decide) (by decide) (ty_120 hS.1.1) ?_
      refine Tr.tp 1 ((kp_X12_input_120_120_37 hS).trans en_120_37) ?_
      refine Tr.imul (pc := 35) d_X12_input_35 ?_
      refine Tr.tp 3 (by decide) ?_
      refine Tr.aload_n (pc := 36) (i := 0) d_X12_input_36 rfl rfl ?_
      refine Tr.getf (pc := 37) d_X12_input_37 f_12_66 (by decide) (by decide) (ty_120 hS.1.1) ?_
      refine Tr.tp 127 (fx_120_18 hS.1.1) ?_
      refine Tr.aload_n (pc := 40) (i := 0) d_X12_input_40 rfl rfl ?_
      refine Tr.getf (pc := 41) d_X12_input_41 f_12_124 (by decide) (by decide) (ty_120 hS.1.1) ?_
      refine Tr.tp 1 ((kp_X12_input_120_120_37 hS).trans en_120_37) ?_
      refine Tr.iald (pc := 44) d_X12_input_44 (ty_127 hS.1.1) (by omega) (by omega) ?_
      refine Tr.tp g127_1 ((kp_X12_counts_120_127_1 h19).trans k19_127_1) ?_
      refine Tr.iadd (pc := 45) d_X12_input_45 ?_
      refine Tr.tp (g127_1 + 3) ((w32_id (by and_intros <;> omega)).trans (by omega)) ?_
      refine Tr.istore_n (pc := 46) (i := 1) (ls2 := [(1, (0, (g127_1 + 3))), (0, (2, 120))]) d_X12_input_46 rfl (by decide) rfl ?_
      refine Tr.aload_n (pc := 47) (i := 0) d_X12_input_47 rfl rfl ?_
      refine Tr.getf (pc := 48) d_X12_input_48 f_12_82 (by decide) (by decide) (ty_120 hS.1.1) ?_
      refine Tr.tp 132 (fx_120_23 hS.1.1) ?_
      refine Tr.iload_n (pc := 51) (i := 1) d_X12_input_51 rfl rfl ?_
      refine Tr.aload_n (pc := 52) (i := 0) d_X12_input_52 rfl rfl ?_
      refine Tr.callV (pc := 53) (as := []) d_X12_input_53 s_12_508 ok_X12_fresh rfl rfl (Nat.le_of_ble_eq_true rfl) (Nat.le_of_ble_eq_true rfl) (by decide) (ty_120 hS.1.1) ?_
      refine Tr.imp (Tr.deep (by decide) (ns_X12_fresh_120 (G120_3 := s19_120_3) (G120_4 := s19_120_4) (G120_5 := s19_120_5) (G120_7 := s19_120_7) (G120_8 := s19_120_8) (G9010_0 := s19_9010_0) hS.1 (es19_120_3) (es19_120_4) (es19_120_5) (es19_120_7) (es19_120_8) (es19_9010_0) ((kp_X12_input_120_120_37 hS).trans en_120_37) (by first | exact (hd_o z19_0) | exact (hd_o z19_0).elim (fun h1 => by omega) (fun h1 => by omega)) (by omega) (by first | exact (hd_o z19_2) | exact (hd_o z19_2).elim (fun h1 => by omega) (fun h1 => h1.elim (fun h1 => by omega) (fun h1 => by omega))))) ?_
      rintro M53 _ ⟨h53, s53_120_3, s53_120_4, s53_120_5, s53_120_7, s53_120_8, s53_9010_0, es53_120_3, bs53_120_3, es53_120_4, bs53_120_4, es53_120_5, bs53_120_5, es53_120_7, bs53_120_7, es53_120_8, bs53_120_8, es53_9010_0, bs53_9010_0, r53, rfl, lr53, ur53, z53_0, z53_1, z53_2, z53_3, z53_4, z53_5⟩
      have hS := St.tr hS h53 (by decide) (by decide)
      refine Tr.sc [(1, r53), (0, (g127_1 + 3)), (2, 132)] rfl ?_
      refine Tr.lastS (pc := 56) (P := St Pm1 ws_X12_input_120 as_X12_input_120 M0) d_X12_input_56 (ty_132 hS.1.1) (by omega) (by exact (hd_o t19_0).elim (fun h1 => (hd_o z19_6).elim (fun h2 => by omega) (fun h2 => by omega)) (fun h1 => (ne_o h1.2).elim (fun h2 => by omega) (fun h2 => by omega))) (sa_132 hS (by decide) (by omega) (Pm1.of hS.1.2.2.2.2 (fun _ => rd_wb _ rfl) (fun _ => rd_wb _ rfl) (fun _ => rd_wb _ rfl) (fun _ => rd_wb _ rfl) (fun _ => rd_wb _ rfl) (fun _ => rd_wb _ rfl) (fun _ => rd_wb _ rfl) (fun _ => rd_wb _ rfl) (fun _ => rd_wb _ rfl) (fun _ => rd_wb _ rfl) (rd_wb _ rfl) (rd_wb _ rfl) (rd_wb _ rfl) (rd_wb _ rfl) (rd_wb _ rfl) (rd_wb _ rfl) (rd_wb _ rfl) (rd_wb _ rfl) (rd_wb _ rfl) (rd_wb _ rfl) (rd_wb _ rfl))) (fun M56 hS w56 => ?_)
      refine Tr.aload_n (pc := 57) (i := 0) d_X12_input_57 rfl rfl ?_
      refine Tr.getf (pc := 58) d_X12_input_58 f_12_85 (by decide) (by decide) (ty_120 hS.1.1) ?_
      refine Tr.tp 133 (fx_120_24 hS.1.1) ?_
      refine Tr.iload_n (pc := 61) (i := 1) d_X12_input_61 rfl rfl ?_
      refine Tr.aload_n (pc := 62) (i := 0) d_X12_input_62 rfl rfl ?_
      refine Tr.iconst (pc := 63) d_X12_input_63 (by decide) ?_
      refine Tr.bipush (pc := 64) d_X12_input_64 rfl (by decide) ?_
      refine Tr.callV (pc := 66) (as := [_, _]) d_X12_input_66 s_12_516 ok_X12_number rfl rfl (Nat.le_of_ble_eq_true rfl) (Nat.le_of_ble_eq_true rfl) (by decide) (ty_120 hS.1.1) ?_
      refine Tr.imp (Tr.deep (by decide) (ns_X12_number_120 (G120_3 := s53_120_3) (G120_4 := s53_120_4) (G120_5 := s53_120_5) (G120_7 := s53_120_7) (G120_8 := s53_120_8) (G9010_0 := s53_9010_0) hS.1 (((Wr.b w56 rfl).trans es53_120_3)) (((Wr.b w56 rfl).trans es53_120_4)) (((Wr.b w56 rfl).trans es53_120_5)) (((Wr.b w56 rfl).trans es53_120_7)) (((Wr.b w56 rfl).trans es53_120_8)) (((tav_of ((Wr.b w56 rfl).trans rfl) ((Wr.b w56 rfl).trans rfl)).trans es53_9010_0)) 0 (by omega) 99 (by omega) (by first | exact (hd_o z53_0) | exact (hd_o z53_0).elim (fun h1 => by omega) (fun h1 => by omega)) (by omega) (by first | exact (hd_o z53_2) | exact (hd_o z53_2).elim (fun h1 => by omega) (fun h1 => h1.elim (fun h1 => by omega) (fun h1 => by omega))))) ?_
      rintro M66 _ ⟨h66, s66_120_3, s66_120_4, s66_120_5, s66_120_7, s66_120_8, s66_9010_0, es66_120_3, bs66_120_3, es66_120_4, bs66_120_4, es66_120_5, bs66_120_5, es66_120_7, bs66_120_7, es66_120_8, bs66_120_8, es66_9010_0, bs66_9010_0, r66, rfl, lr66, ur66, z66_0, z66_1, z66_2, z66_3, z66_4, z66_5, z66_6⟩
      have hS := St.tr hS h66 (by decide) (by decide)
      refine Tr.sc [(0, r66), (0, (g127_1 + 3)), (2, 133)] rfl ?_
      refine Tr.iastS (pc := 69) (P := St Pm1 ws_X12_input_120 as_X12_input_120 M0) d_X12_input_69 (ty_133 hS.1.1) (by omega) (by exact (hd_o t19_0).elim (fun h1 => (hd_o z19_6).elim (fun h2 => by omega) (fun h2 => by omega)) (fun h1 => (ne_o h1.2).elim (fun h2 => by omega) (fun h2 => by omega))) (sa_133 hS (by decide) (by and_intros <;> omega) (Pm1.of hS.1.2.2.2.2 (fun _ => rd_wb _ rfl) (fun _ => rd_wb _ rfl) (fun _ => rd_wb _ rfl) (fun _ => rd_wb _ rfl) (fun _ => rd_wb _ rfl) (fun _ => rd_wb _ rfl) (fun _ => rd_wb _ rfl) (fun _ => rd_wb _ rfl) (fun _ => rd_wb _ rfl) (fun _ => rd_wb _ rfl) (rd_wb _ rfl) (rd_wb _ rfl) (rd_wb _ rfl) (rd_wb _ rfl) (rd_wb _ rfl) (rd_wb _ rfl) (rd_wb _ rfl) (rd_wb _ rfl) (rd_wb _ rfl) (rd_wb _ rfl) (rd_wb _ rfl))) (fun M69 hS w69 => ?_)
      refine Tr.aload_n (pc := 70) (i := 0) d_X12_input_70 rfl rfl ?_
      refine Tr.getf (pc := 71) d_X12_input_71 f_12_88 (by decide) (by decide) (ty_120 hS.1.1) ?_
      refine Tr.tp 134 (fx_120_25 hS.1.1) ?_
      refine Tr.iload_n (pc := 74) (i := 1) d_X12_input_74 rfl rfl ?_
      refine Tr.aload_n (pc := 75) (i := 0) d_X12_input_75 rfl rfl ?_
      refine Tr.aload_n (pc := 76) (i := 0) d_X12_input_76 rfl rfl ?_
      refine Tr.getf (pc := 77) d_X12_input_77 f_12_85 (by decide) (by decide) (ty_120 hS.1.1) ?_
      refine Tr.tp 133 (fx_120_24 hS.1.1) ?_
      refine Tr.iload_n (pc := 80) (i := 1) d_X12_input_80 rfl rfl ?_
      refine Tr.iald (pc := 81) d_X12_input_81 (ty_133 hS.1.1) (by omega) (by exact (hd_o t19_0).elim (fun h1 => (hd_o z19_6).elim (fun h2 => by omega) (fun h2 => by omega)) (fun h1 => (ne_o h1.2).elim (fun h2 => by omega) (fun h2 => by omega))) ?_
      refine Tr.tp r66 w69.1 ?_
      refine Tr.bipush (pc := 82) d_X12_input_82 rfl (by decide) ?_
      refine Tr.callV (pc := 84) (as := [_, _]) d_X12_input_84 s_12_516 ok_X12_number rfl rfl (Nat.le_of_ble_eq_true rfl) (Nat.le_of_ble_eq_true rfl) (by decide) (ty_120 hS.1.1) ?_
      refine Tr.imp (Tr.deep (by decide) (ns_X12_number_120 (G120_3 := s66_120_3) (G120_4 := s66_120_4) (G120_5 := s66_120_5) (G120_7 := s66_120_7) (G120_8 := s66_120_8) (G9010_0 := s66_9010_0) hS.1 (((Wr.b w69 rfl).trans es66_120_3)) (((Wr.b w69 rfl).trans es66_120_4)) (((Wr.b w69 rfl).trans es66_120_5)) (((Wr.b w69 rfl).trans es66_120_7)) (((Wr.b w69 rfl).trans es66_120_8)) (((tav_of ((Wr.b w69 rfl).trans rfl) ((Wr.b w69 rfl).trans rfl)).trans es66_9010_0)) r66 (by and_intros <;> omega) 99 (by omega) (by first | exact (hd_o z66_0) | exact (hd_o z66_0).elim (fun h1 => by omega) (fun h1 => by omega)) (by omega) (by first | exact (hd_o z66_2) | exact (hd_o z66_2).elim (fun h1 => by omega) (fun h1 => h1.elim (fun h1 => by omega) (fun h1 => by omega))))) ?_
      rintro M84 _ ⟨h84, s84_120_3, s84_120_4, s84_120_5, s84_120_7, s84_120_8, s84_9010_0, es84_120_3, bs84_120_3, es84_120_4, bs84_120_4, es84_120_5, bs84_120_5, es84_120_7, bs84_120_7, es84_120_8, bs84_120_8, es84_9010_0, bs84_9010_0, r84, rfl, lr84, ur84, z84_0, z84_1, z84_2, z84_3, z84_4, z84_5, z84_6⟩
      have hS := St.tr hS h84 (by decide) (by decide)
      refine Tr.sc [(0, r84), (0, (g127_1 + 3)), (2, 134)] rfl ?_
      refine Tr.iastS (pc := 87) (P := St Pm1 ws_X12_input_120 as_X12_input_120 M0) d_X12_input_87 (ty_134 hS.1.1) (by omega) (by exact (hd_o t19_0).elim (fun h1 => (hd_o z19_6).elim (fun h2 => by omega) (fun h2 => by omega)) (fun h1 => (ne_o h1.2).elim (fun h2 => by omega) (fun h2 => by omega))) (sa_134 hS (by decide) (by and_intros <;> omega) (Pm1.of hS.1.2.2.2.2 (fun _ => rd_wb _ rfl) (fun _ => rd_wb _ rfl) (fun _ => rd_wb _ rfl) (fun _ => rd_wb _ rfl) (fun _ => rd_wb _ rfl) (fun _ => rd_wb _ rfl) (fun _ => rd_wb _ rfl) (fun _ => rd_wb _ rfl) (fun _ => rd_wb _ rfl) (fun _ => rd_wb _ rfl) (rd_wb _ rfl) (rd_wb _ rfl) (rd_wb _ rfl) (rd_wb _ rfl) (rd_wb _ rfl) (rd_wb _ rfl) (rd_wb _ rfl) (rd_wb _ rfl) (rd_wb _ rfl) (rd_wb _ rfl) (rd_wb _ rfl))) (fun M87 hS w87 => ?_)
      refine Tr.aload_n (pc := 88) (i := 0) d_X12_input_88 rfl rfl ?_
      refine Tr.getf (pc := 89) d_X12_input_89 f_12_36 (by decide) (by decide) (ty_120 hS.1.1) ?_
      refine Tr.tp s84_120_8 ((Wr.b w87 rfl).trans es84_120_8) ?_
      refine Tr.if_ne (pc := 92) (tgt := 108) d_X12_input_92 rfl (fun c92 => ?_) (fun c92 => ?_)
      · have c92b : 1 ≤ s84_120_8 ∧ s84_120_8 ≤ 5 := by omega
        replace c92 := hd_i c92
        have kr_120_3 : rd M87 120 3 = s84_120_3 := ((Wr.b w87 rfl).trans es84_120_3)
        have kr_120_4 : rd M87 120 4 = s84_120_4 := ((Wr.b w87 rfl).trans es84_120_4)
        have kr_120_5 : rd M87 120 5 = s84_120_5 := ((Wr.b w87 rfl).trans es84_120_5)
        have kr_120_7 : rd M87 120 7 = s84_120_7 := ((Wr.b w87 rfl).trans es84_120_7)
        have kr_120_8 : rd M87 120 8 = s84_120_8 := ((Wr.b w87 rfl).trans es84_120_8)
        have kr_9010_0 : tav M87 = s84_9010_0 := ((tav_of ((Wr.b w87 rfl).trans rfl) ((Wr.b w87 rfl).trans rfl)).trans es84_9010_0)
        exact Tr.vret (pc := 108) d_X12_input_108 rfl ⟨hS, rfl, (by first | exact (hd_o z84_0) | exact (hd_o z84_0).elim (fun h1 => by omega) (fun h1 => by omega)), (by omega), (by first | exact (hd_o z84_2) | exact (hd_o z84_2).elim (fun h1 => by omega) (fun h1 => h1.elim (fun h1 => by omega) (fun h1 => by omega))), (by and_intros <;> omega), (by omega), (by omega)⟩
      · refine Tr.aload_n (pc := 95) (i := 0) d_X12_input_95 rfl rfl ?_
        refine Tr.getf (pc := 96) d_X12_input_96 f_12_66 (by decide) (by decide) (ty_120 hS.1.1) ?_
        refine Tr.tp 127 (fx_120_18 hS.1.1) ?_
        refine Tr.aload_n (pc := 99) (i := 0) d_X12_input_99 rfl rfl ?_
        refine Tr.getf (pc := 100) d_X12_input_100 f_12_124 (by decide) (by decide) (ty_120 hS.1.1) ?_
        refine Tr.tp 1 ((kp_X12_input_120_120_37 hS).trans en_120_37) ?_
        refine Tr.dup2 (pc := 103) d_X12_input_103 ne01 ne21 ?_
        refine Tr.iald (pc := 104) d_X12_input_104 (ty_127 hS.1.1) (by omega) (by omega) ?_
        refine Tr.tp g127_1 ((Wr.b w87 rfl).trans ((kp_X12_number_120_127_1 h84).trans ((Wr.b w69 rfl).trans ((kp_X12_number_120_127_1 h66).trans ((Wr.b w56 rfl).trans ((kp_X12_fresh_120_127_1 h53).trans ((kp_X12_counts_120_127_1 h19).trans k19_127_1))))))) ?_
        refine Tr.iconst (pc := 105) d_X12_input_105 (by decide) ?_
        refine Tr.iadd (pc := 106) d_X12_input_106 ?_
        refine Tr.tp (g127_1 + 1) ((w32_id (by and_intros <;> omega)).trans (by omega)) ?_
        refine Tr.iastS (pc := 107) (P := St Pm1 ws_X12_input_120 as_X12_input_120 M0) d_X12_input_107 (ty_127 hS.1.1) (by omega) (by omega) (st_127_1 hS (by decide) (by exact (hd_o t19_0).elim (fun h1 => (hd_o z19_6).elim (fun h2 => by omega) (fun h2 => by omega)) (fun h1 => (ne_o h1.2).elim (fun h2 => by omega) (fun h2 => by omega))) (Pm1.of hS.1.2.2.2.2 (fun _ => rd_wb _ rfl) (fun _ => rd_wb _ rfl) (fun _ => rd_wb _ rfl) (fun _ => rd_wb _ rfl) (fun _ => rd_wb _ rfl) (fun _ => rd_wb _ rfl) (fun _ => rd_wb _ rfl) (fun _ => rd_wb _ rfl) (fun _ => rd_wb _ rfl) (fun _ => rd_wb _ rfl) (rd_wb _ rfl) (rd_wb _ rfl) (rd_wb _ rfl) (rd_wb _ rfl) (rd_wb _ rfl) (rd_wb _ rfl) (rd_wb _ rfl) (rd_wb _ rfl) (rd_wb _ rfl) (rd_wb _ rfl) (rd_wb _ rfl))) (fun M107 hS w107 => ?_)
        have kr_120_3 : rd M107 120 3 = s84_120_3 := ((Wr.b w107 rfl).trans ((Wr.b w87 rfl).trans es84_120_3))
        have kr_120_4 : rd M107 120 4 = s84_120_4 := ((Wr.b w107 rfl).trans ((Wr.b w87 rfl).trans es84_120_4))
        have kr_120_5 : rd M107 120 5 = s84_120_5 := ((Wr.b w107 rfl).trans ((Wr.b w87 rfl).trans es84_120_5))
        have kr_120_7 : rd M107 120 7 = s84_120_7 := ((Wr.b w107 rfl).trans ((Wr.b w87 rfl).trans es84_120_7))
        have kr_120_8 : rd M107 120 8 = s84_120_8 := ((Wr.b w107 rfl).trans ((Wr.b w87 rfl).trans es84_120_8))
        have kr_9010_0 : tav M107 = s84_9010_0 := ((tav_of ((Wr.b w107 rfl).trans ((Wr.b w87 rfl).trans rfl)) ((Wr.b w107 rfl).trans ((Wr.b w87 rfl).trans rfl))).trans es84_9010_0)
        exact Tr.vret (pc := 108) d_X12_input_108 rfl ⟨hS, rfl, (by first | exact (hd_o z84_0) | exact (hd_o z84_0).elim (fun h1 => by omega) (fun h1 => by omega)), (by omega), (by first | exact (hd_o z84_2) | exact (hd_o z84_2).elim (fun h1 => by omega) (fun h1 => h1.elim (fun h1 => by omega) (fun h1 => by omega))), (by and_intros <;> omega), (by omega), (by exact (hd_o z84_5).elim (fun h1 => by omega) (fun h1 => by omega))⟩
    · have kr_120_3 : rd M19 120 3 = s19_120_3 := es19_120_3
      have kr_120_4 : rd M19 120 4 = s19_120_4 := es19_120_4
      have kr_120_5 : rd M19 120 5 = s19_120_5 := es19_120_5
      have kr_120_7 : rd M19 120 7 = s19_120_7 := es19_120_7
      have kr_120_8 : rd M19 120 8 = s19_120_8 := es19_120_8
      have kr_9010_0 : tav M19 = s19_9010_0 := es19_9010_0
      exact Tr.vret (pc := 29) d_X12_input_29 rfl ⟨hS, rfl, (by first | exact (hd_o z19_0) | exact (hd_o z19_0).elim (fun h1 => by omega) (fun h1 => by omega)), (by omega), (by first | exact (hd_o z19_2) | exact (hd_o z19_2).elim (fun h1 => by omega) (fun h1 => h1.elim (fun h1 => by omega) (fun h1 => by omega))), (by and_intros <;> omega), (by first | exact (hd_o z19_4) | exact (hd_o z19_4).elim (fun h1 => by omega) (fun h1 => by omega)), (by first | exact (hd_o z19_5) | exact (hd_o z19_5).elim (fun h1 => by omega) (fun h1 => by omega))⟩
  refine Tr.icmp_ne (pc := 11) (tgt := 18) d_X12_input_11 rfl (fun c11 => ?_) (fun c11 => ?_)
  · have c11b : 0 ≤ g127_1 ∧ g127_1 ≤ 2 := by omega
    replace c11 := hd_i c11
    refine Tr.iconst (pc := 18) d_X12_input_18 (by decide) ?_
    refine Tr.pick [0] (ls2 := [(0, (2, 120))]) rfl ?_
    exact J19 _ _ hS (by omega) eg120_3 eg120_4 eg120_5 eg120_7 eg120_8 eg127_1 eg9010_0 (by omega)
  · refine Tr.iconst (pc := 14) d_X12_input_14 (by decide) ?_
    refine Tr.goto (pc := 15) (tgt := 19) d_X12_input_15 rfl ?_
    refine Tr.pick [0] (ls2 := [(0, (2, 120))]) rfl ?_
    exact J19 _ _ hS (by omega) eg120_3 eg120_4 eg120_5 eg120_7 eg120_8 eg127_1 eg9010_0 (by omega)
end
/-! 38.02 -/
section
set_option maxRecDepth 100000 in
set_option maxHeartbeats 4000000 in
theorem ns_X12_input_120 {l : Launch} {K : EC} {M0 : Mem} {G120_3 G120_4 G120_5 G120_7 G120_8 G9010_0 : Int} (hI : In Pm1 M0) (k120_3 : rd M0 120 3 = G120_3) (k120_4 : rd M0 120 4 = G120_4) (k120_5 : rd M0 120 5 = G120_5) (k120_7 : rd M0 120 7 = G120_7) (k120_8 : rd M0 120 8 = G120_8) (k9010_0 : tav M0 = G9010_0) (en_120_37 : rd M0 120 37 = 1)   (hq0 : G120_3 = 0 ∨ G120_4 + 1 ≤ G120_5) (hq1 : G120_4 ≤ G120_5) (hq2 : G120_3 ≠ 1 ∨ G120_4 + 2 ≤ G120_5 ∨ G120_7 < 256) (hq3 : G120_3 ≠ 0) (hq4 : G120_8 = 0) : Tr l K 3 mX12_input 0 [(0, (2, 120))] [] M0 (fun M' r => St Pm1 ws_X12_input_120 as_X12_input_120 M0 M' ∧ ∃ S120_3 S120_4 S120_5 S120_7 S120_8 S9010_0 : Int, rd M' 120 3 = S120_3 ∧ (0 ≤ S120_3 ∧ S120_3 ≤ 3) ∧ rd M' 120 4 = S120_4 ∧ (0 ≤ S120_4 ∧ S120_4 ≤ 900) ∧ rd M' 120 5 = S120_5 ∧ (0 ≤ S120_5 ∧ S120_5 ≤ 900) ∧ rd M' 120 7 = S120_7 ∧ ((-9223372036854775808) ≤ S120_7 ∧ S120_7 ≤ 9223372036854775807) ∧ rd M' 120 8 = S120_8 ∧ (0 ≤ S120_8 ∧ S120_8 ≤ 5) ∧ tav M' = S9010_0 ∧ ((-1) ≤ S9010_0 ∧ S9010_0 ≤ 1800) ∧ r = none ∧ Hd (S120_3 = 0 ∨ S120_4 + 1 ≤ S120_5) ∧ (S120_4 ≤ S120_5) ∧ Hd (S120_3 ≠ 1 ∨ S120_4 + 2 ≤ S120_5 ∨ S120_7 < 256) ∧ (G120_4 ≤ S120_4 ∧ G120_5 ≤ S120_5 ∧ G9010_0 ≤ S9010_0) ∧ Hd (G120_8 = 0 ∨ S120_8 = G120_8) ∧ Hd (1 ≤ S120_8 ∨ G9010_0 < S9010_0)) := by
  subst k120_3
  subst k120_4
  subst k120_5
  subst k120_7
  subst k120_8
  subst k9010_0
  refine Tr.imp (sp_X12_input_120 hI en_120_37 hq0 hq1 hq2 hq3 hq4) ?_
  rintro M' _ ⟨hS, rfl, z0, z1, z2, z3, z4, z5⟩
  exact ⟨hS, _, _, _, _, _, _, rfl, ir_120_3 hS.1.2.1, rfl, ir_120_4 hS.1.2.1, rfl, ir_120_5 hS.1.2.1, rfl, ir_120_7 hS.1.2.1, rfl, ir_120_8 hS.1.2.1, rfl, (tav_b hS.1.2.1), rfl, hd_i z0, z1, hd_i z2, z3, hd_i z4, hd_i z5⟩

def ws_X12_must__120 : List (Int × Int) := [(120, 3), (120, 4), (120, 5), (120, 6), (120, 7), (120, 8), (120, 9)]
def as_X12_must__120 : List Int := []
def q_X12_must__120 (a1 : Int) (M0 M' : Mem) (r : Option PV) : Prop := St Pm1 ws_X12_must__120 as_X12_must__120 M0 M' ∧ r = none ∧ (rd M' 120 3 = 0 ∨ rd M' 120 4 + 1 ≤ rd M' 120 5) ∧ (rd M' 120 4 ≤ rd M' 120 5) ∧ (rd M' 120 3 ≠ 1 ∨ rd M' 120 4 + 2 ≤ rd M' 120 5 ∨ rd M' 120 7 < 256) ∧ (rd M0 120 4 ≤ rd M' 120 4 ∧ rd M0 120 5 ≤ rd M' 120 5 ∧ tav M0 ≤ tav M') ∧ (rd M0 120 8 = 0 ∨ rd M' 120 8 = rd M0 120 8) ∧ (1 ≤ rd M' 120 8 ∨ tav M0 < tav M')
theorem ka_X12_isWord_120_131 {q : Mem → Prop} {M0 M : Mem} (h : St q ws_X12_isWord_120 as_X12_isWord_120 M0 M) (j : Int) : rd M 131 j = rd M0 131 j := St.ka h (by decide) (by decide) (by decide)
theorem ka_X12_isWord_120_137 {q : Mem → Prop} {M0 M : Mem} (h : St q ws_X12_isWord_120 as_X12_isWord_120 M0 M) (j : Int) : rd M 137 j = rd M0 137 j := St.ka h (by decide) (by decide) (by decide)
theorem ka_X12_isWord_120_138 {q : Mem → Prop} {M0 M : Mem} (h : St q ws_X12_isWord_120 as_X12_isWord_120 M0 M) (j : Int) : rd M 138 j = rd M0 138 j := St.ka h (by decide) (by decide) (by decide)
theorem ka_X12_isWord_120_139 {q : Mem → Prop} {M0 M : Mem} (h : St q ws_X12_isWord_120 as_X12_isWord_120 M0 M) (j : Int) : rd M 139 j = rd M0 139 j := St.ka h (by decide) (by decide) (by decide)
theorem ka_X12_isWord_120_140 {q : Mem → Prop} {M0 M : Mem} (h : St q ws_X12_isWord_120 as_X12_isWord_120 M0 M) (j : Int) : rd M 140 j = rd M0 140 j := St.ka h (by decide) (by decide) (by decide)
theorem ka_X12_isWord_120_141 {q : Mem → Prop} {M0 M : Mem} (h : St q ws_X12_isWord_120 as_X12_isWord_120 M0 M) (j : Int) : rd M 141 j = rd M0 141 j := St.ka h (by decide) (by decide) (by decide)
theorem ka_X12_isWord_120_142 {q : Mem → Prop} {M0 M : Mem} (h : St q ws_X12_isWord_120 as_X12_isWord_120 M0 M) (j : Int) : rd M 142 j = rd M0 142 j := St.ka h (by decide) (by decide) (by decide)
theorem ka_X12_isWord_120_143 {q : Mem → Prop} {M0 M : Mem} (h : St q ws_X12_isWord_120 as_X12_isWord_120 M0 M) (j : Int) : rd M 143 j = rd M0 143 j := St.ka h (by decide) (by decide) (by decide)
theorem ka_X12_isWord_120_151 {q : Mem → Prop} {M0 M : Mem} (h : St q ws_X12_isWord_120 as_X12_isWord_120 M0 M) (j : Int) : rd M 151 j = rd M0 151 j := St.ka h (by decide) (by decide) (by decide)
theorem ka_X12_isWord_120_152 {q : Mem → Prop} {M0 M : Mem} (h : St q ws_X12_isWord_120 as_X12_isWord_120 M0 M) (j : Int) : rd M 152 j = rd M0 152 j := St.ka h (by decide) (by decide) (by decide)
theorem kp_X12_isWord_120_126_0 {q : Mem → Prop} {M0 M : Mem} (h : St q ws_X12_isWord_120 as_X12_isWord_120 M0 M) : rd M 126 0 = rd M0 126 0 := St.kp h (by decide) (by decide) (by decide)
theorem kp_X12_isWord_120_126_1 {q : Mem → Prop} {M0 M : Mem} (h : St q ws_X12_isWord_120 as_X12_isWord_120 M0 M) : rd M 126 1 = rd M0 126 1 := St.kp h (by decide) (by decide) (by decide)
theorem kp_X12_isWord_120_136_0 {q : Mem → Prop} {M0 M : Mem} (h : St q ws_X12_isWord_120 as_X12_isWord_120 M0 M) : rd M 136 0 = rd M0 136 0 := St.kp h (by decide) (by decide) (by decide)
theorem kp_X12_isWord_120_136_1 {q : Mem → Prop} {M0 M : Mem} (h : St q ws_X12_isWord_120 as_X12_isWord_120 M0 M) : rd M 136 1 = rd M0 136 1 := St.kp h (by decide) (by decide) (by decide)
theorem kp_X12_isWord_120_123_0 {q : Mem → Prop} {M0 M : Mem} (h : St q ws_X12_isWord_120 as_X12_isWord_120 M0 M) : rd M 123 0 = rd M0 123 0 := St.kp h (by decide) (by decide) (by decide)
theorem kp_X12_isWord_120_123_1 {q : Mem → Prop} {M0 M : Mem} (h : St q ws_X12_isWord_120 as_X12_isWord_120 M0 M) : rd M 123 1 = rd M0 123 1 := St.kp h (by decide) (by decide) (by decide)
theorem kp_X12_isWord_120_124_0 {q : Mem → Prop} {M0 M : Mem} (h : St q ws_X12_isWord_120 as_X12_isWord_120 M0 M) : rd M 124 0 = rd M0 124 0 := St.kp h (by decide) (by decide) (by decide)
theorem kp_X12_isWord_120_124_1 {q : Mem → Prop} {M0 M : Mem} (h : St q ws_X12_isWord_120 as_X12_isWord_120 M0 M) : rd M 124 1 = rd M0 124 1 := St.kp h (by decide) (by decide) (by decide)
theorem kp_X12_isWord_120_120_8 {q : Mem → Prop} {M0 M : Mem} (h : St q ws_X12_isWord_120 as_X12_isWord_120 M0 M) : rd M 120 8 = rd M0 120 8 := St.kp h (by decide) (by decide) (by decide)
theorem kp_X12_isWord_120_120_36 {q : Mem → Prop} {M0 M : Mem} (h : St q ws_X12_isWord_120 as_X12_isWord_120 M0 M) : rd M 120 36 = rd M0 120 36 := St.kp h (by decide) (by decide) (by decide)
theorem kp_X12_isWord_120_120_50 {q : Mem → Prop} {M0 M : Mem} (h : St q ws_X12_isWord_120 as_X12_isWord_120 M0 M) : rd M 120 50 = rd M0 120 50 := St.kp h (by decide) (by decide) (by decide)
theorem kp_X12_isWord_120_120_3 {q : Mem → Prop} {M0 M : Mem} (h : St q ws_X12_isWord_120 as_X12_isWord_120 M0 M) : rd M 120 3 = rd M0 120 3 := St.kp h (by decide) (by decide) (by decide)
theorem kp_X12_isWord_120_120_4 {q : Mem → Prop} {M0 M : Mem} (h : St q ws_X12_isWord_120 as_X12_isWord_120 M0 M) : rd M 120 4 = rd M0 120 4 := St.kp h (by decide) (by decide) (by decide)
theorem kp_X12_isWord_120_120_5 {q : Mem → Prop} {M0 M : Mem} (h : St q ws_X12_isWord_120 as_X12_isWord_120 M0 M) : rd M 120 5 = rd M0 120 5 := St.kp h (by decide) (by decide) (by decide)
theorem kp_X12_isWord_120_120_7 {q : Mem → Prop} {M0 M : Mem} (h : St q ws_X12_isWord_120 as_X12_isWord_120 M0 M) : rd M 120 7 = rd M0 120 7 := St.kp h (by decide) (by decide) (by decide)
set_option maxRecDepth 100000 in
set_option maxHeartbeats 4000000 in
theorem sp_X12_must__120 {l : Launch} {K : EC} {M0 : Mem} (hI : In Pm1 M0)  (a1 : Int) (ha1 : 2147483647 ≤ a1 ∧ a1 ≤ 9223372036854775807)  (hq0 : rd M0 120 3 = 0 ∨ rd M0 120 4 + 1 ≤ rd M0 120 5) (hq1 : rd M0 120 4 ≤ rd M0 120 5) (hq2 : rd M0 120 3 ≠ 1 ∨ rd M0 120 4 + 2 ≤ rd M0 120 5 ∨ rd M0 120 7 < 256) : Tr l K 2 mX12_must_ 0 [(0, (2, 120)), (1, (1, a1))] [] M0 (q_X12_must__120 a1 M0) := by
  have hS : St Pm1 ws_X12_must__120 as_X12_must__120 M0 M0 := St.rf hI
  obtain ⟨g120_8, eg120_8⟩ : ∃ v, rd M0 120 8 = v := ⟨_, rfl⟩
  have bg120_8 : 0 ≤ g120_8 ∧ g120_8 ≤ 5 := by rw [← eg120_8]; exact ir_120_8 hI.2.1
  obtain ⟨g120_3, eg120_3⟩ : ∃ v, rd M0 120 3 = v := ⟨_, rfl⟩
  have bg120_3 : 0 ≤ g120_3 ∧ g120_3 ≤ 3 := by rw [← eg120_3]; exact ir_120_3 hI.2.1
  obtain ⟨g120_4, eg120_4⟩ : ∃ v, rd M0 120 4 = v := ⟨_, rfl⟩
  have bg120_4 : 0 ≤ g120_4 ∧ g120_4 ≤ 900 := by rw [← eg120_4]; exact ir_120_4 hI.2.1
  obtain ⟨g120_5, eg120_5⟩ : ∃ v, rd M0 120 5 = v := ⟨_, rfl⟩
  have bg120_5 : 0 ≤ g120_5 ∧ g120_5 ≤ 900 := by rw [← eg120_5]; exact ir_120_5 hI.2.1
  obtain ⟨g120_7, eg120_7⟩ : ∃ v, rd M0 120 7 = v := ⟨_, rfl⟩
  have bg120_7 : (-9223372036854775808) ≤ g120_7 ∧ g120_7 ≤ 9223372036854775807 := by rw [← eg120_7]; exact ir_120_7 hI.2.1
  obtain ⟨g9010_0, eg9010_0⟩ : ∃ v, tav M0 = v := ⟨_, rfl⟩
  have bg9010_0 : (-1) ≤ g9010_0 ∧ g9010_0 ≤ 1800 := by rw [← eg9010_0]; exact (tav_b hI.2.1)
  replace hq0 := hd_i hq0
  replace hq2 := hd_i hq2
  refine Tr.aload_n (pc := 0) (i := 0) d_X12_must__0 rfl rfl ?_
  refine Tr.getf (pc := 1) d_X12_must__1 f_12_36 (by decide) (by decide) (ty_120 hS.1.1) ?_
  refine Tr.tp g120_8 eg120_8 ?_
  refine Tr.if_le (pc := 4) (tgt := 8) d_X12_must__4 rfl (fun c4 => ?_) (fun c4 => ?_)
  · refine Tr.aload_n (pc := 8) (i := 0) d_X12_must__8 rfl rfl ?_
    refine Tr.lload_n (pc := 9) (i := 1) d_X12_must__9 rfl rfl ?_
    refine Tr.callV (pc := 10) (as := [_]) d_X12_must__10 s_12_484 ok_X12_isWord rfl rfl (Nat.le_of_ble_eq_true rfl) (Nat.le_of_ble_eq_true rfl) (by decide) (ty_120 hS.1.1) ?_
    refine Tr.imp (Tr.deep (by decide) (ns_X12_isWord_120 (G120_3 := g120_3) (G120_7 := g120_7) hS.1.wk (eg120_3) (eg120_7) a1 (by omega))) ?_
    rintro M10 _ ⟨h10, r10, rfl, lr10, ur10, z10_0⟩
    have h10 := St.rn h10 (Pm1.of hS.1.2.2.2.2 (fun _ => (ka_X12_isWord_120_131 h10 _)) (fun _ => (ka_X12_isWord_120_137 h10 _)) (fun _ => (ka_X12_isWord_120_138 h10 _)) (fun _ => (ka_X12_isWord_120_139 h10 _)) (fun _ => (ka_X12_isWord_120_140 h10 _)) (fun _ => (ka_X12_isWord_120_141 h10 _)) (fun _ => (ka_X12_isWord_120_142 h10 _)) (fun _ => (ka_X12_isWord_120_143 h10 _)) (fun _ => (ka_X12_isWord_120_151 h10 _)) (fun _ => (ka_X12_isWord_120_152 h10 _)) (kp_X12_isWord_120_126_0 h10) (kp_X12_isWord_120_126_1 h10) (kp_X12_isWord_120_136_0 h10) (kp_X12_isWord_120_136_1 h10) (kp_X12_isWord_120_123_0 h10) (kp_X12_isWord_120_123_1 h10) (kp_X12_isWord_120_124_0 h10) (kp_X12_isWord_120_124_1 h10) (kp_X12_isWord_120_120_8 h10) (kp_X12_isWord_120_120_36 h10) (kp_X12_isWord_120_120_50 h10))
    have hS := St.tr hS h10 (by decide) (by decide)
    refine Tr.sc [(0, r10)] rfl ?_
    have J25 : ∀ (M : Mem) (u25_120_8 : Int), St Pm1 ws_X12_must__120 as_X12_must__120 M0 M → (0 ≤ u25_120_8 ∧ u25_120_8 ≤ 5) → rd M 120 3 = g120_3 → rd M 120 4 = g120_4 → rd M 120 5 = g120_5 → rd M 120 7 = g120_7 → rd M 120 8 = u25_120_8 → tav M = g9010_0 → (u25_120_8 ≠ 0 ∨ g120_3 ≠ 0) → (g120_8 = 0 ∨ u25_120_8 = g120_8) → Tr l K 2 mX12_must_ 25 [(0, (2, 120))] [] M (q_X12_must__120 a1 M0) := by
      intro M u25_120_8 hS bu25_120_8 k25_120_3 k25_120_4 k25_120_5 k25_120_7 k25_120_8 k25_9010_0 t25_0 t25_1
      replace t25_0 := hd_i t25_0
      replace t25_1 := hd_i t25_1
      refine Tr.aload_n (pc := 25) (i := 0) d_X12_must__25 rfl rfl ?_
      refine Tr.getf (pc := 26) d_X12_must__26 f_12_36 (by decide) (by decide) (ty_120 hS.1.1) ?_
      refine Tr.tp u25_120_8 k25_120_8 ?_
      refine Tr.if_ne (pc := 29) (tgt := 36) d_X12_must__29 rfl (fun c29 => ?_) (fun c29 => ?_)
      · have c29b : 1 ≤ u25_120_8 ∧ u25_120_8 ≤ 5 := by omega
        replace c29 := hd_i c29
        have kr_120_3 : rd M 120 3 = g120_3 := k25_120_3
        have kr_120_4 : rd M 120 4 = g120_4 := k25_120_4
        have kr_120_5 : rd M 120 5 = g120_5 := k25_120_5
        have kr_120_7 : rd M 120 7 = g120_7 := k25_120_7
        have kr_120_8 : rd M 120 8 = u25_120_8 := k25_120_8
        have kr_9010_0 : tav M = g9010_0 := k25_9010_0
        exact Tr.vret (pc := 36) d_X12_must__36 rfl ⟨hS, rfl, (by first | exact (hd_o hq0) | exact (hd_o hq0).elim (fun h1 => by omega) (fun h1 => by omega)), (by omega), (by first | exact (hd_o hq2) | exact (hd_o hq2).elim (fun h1 => by omega) (fun h1 => h1.elim (fun h1 => by omega) (fun h1 => by omega))), (by and_intros <;> omega), (by first | exact (hd_o t25_1) | exact (hd_o t25_1).elim (fun h1 => by omega) (fun h1 => by omega)), (by omega)⟩
      · refine Tr.aload_n (pc := 32) (i := 0) d_X12_must__32 rfl rfl ?_
        refine Tr.callV (pc := 33) (as := []) d_X12_must__33 s_12_396 ok_X12_next rfl rfl (Nat.le_of_ble_eq_true rfl) (Nat.le_of_ble_eq_true rfl) (by decide) (ty_120 hS.1.1) ?_
        refine Tr.imp (Tr.deep (by decide) (ns_X12_next_120 (G120_3 := g120_3) (G120_5 := g120_5) (G120_8 := u25_120_8) (G9010_0 := g9010_0) hS.1 (k25_120_3) (k25_120_5) (k25_120_8) (k25_9010_0))) ?_
        rintro M33 _ ⟨h33, s33_120_3, s33_120_4, s33_120_5, s33_120_7, s33_120_8, s33_9010_0, es33_120_3, bs33_120_3, es33_120_4, bs33_120_4, es33_120_5, bs33_120_5, es33_120_7, bs33_120_7, es33_120_8, bs33_120_8, es33_9010_0, bs33_9010_0, rfl, z33_0, z33_1, z33_2, z33_3, z33_4, z33_5, z33_6⟩
        have hS := St.tr hS h33 (by decide) (by decide)
        refine Tr.sc [] rfl ?_
        have kr_120_3 : rd M33 120 3 = s33_120_3 := es33_120_3
        have kr_120_4 : rd M33 120 4 = s33_120_4 := es33_120_4
        have kr_120_5 : rd M33 120 5 = s33_120_5 := es33_120_5
        have kr_120_7 : rd M33 120 7 = s33_120_7 := es33_120_7
        have kr_120_8 : rd M33 120 8 = s33_120_8 := es33_120_8
        have kr_9010_0 : tav M33 = s33_9010_0 := es33_9010_0
        exact Tr.vret (pc := 36) d_X12_must__36 rfl ⟨hS, rfl, (by first | exact (hd_o z33_0) | exact (hd_o z33_0).elim (fun h1 => by omega) (fun h1 => by omega)), (by omega), (by first | exact (hd_o z33_2) | exact (hd_o z33_2).elim (fun h1 => by omega) (fun h1 => h1.elim (fun h1 => by omega) (fun h1 => by omega))), (by and_intros <;> omega), (by omega), (by exact (hd_o t25_0).elim (fun h1 => (ne_o h1).elim (fun h2 => by omega) (fun h2 => by omega)) (fun h1 => (ne_o h1).elim (fun h2 => by omega) (fun h2 => (hd_o z33_5).elim (fun h3 => by omega) (fun h3 => by omega))))⟩
    refine Tr.if_ne (pc := 13) (tgt := 25) d_X12_must__13 rfl (fun c13 => ?_) (fun c13 => ?_)
    · have c13b : 1 ≤ r10 ∧ r10 ≤ 1 := by omega
      replace c13 := hd_i c13
      refine Tr.pick [0] (ls2 := [(0, (2, 120))]) rfl ?_
      exact J25 _ _ hS (by and_intros <;> omega) ((kp_X12_isWord_120_120_3 h10).trans eg120_3) ((kp_X12_isWord_120_120_4 h10).trans eg120_4) ((kp_X12_isWord_120_120_5 h10).trans eg120_5) ((kp_X12_isWord_120_120_7 h10).trans eg120_7) ((kp_X12_isWord_120_120_8 h10).trans eg120_8) ((tav_of ((kp_X12_isWord_120_120_5 h10).trans rfl) ((kp_X12_isWord_120_120_3 h10).trans rfl)).trans eg9010_0) (by exact (hd_o z10_0).elim (fun h1 => by omega) (fun h1 => by omega)) (by omega)
    · refine Tr.aload_n (pc := 16) (i := 0) d_X12_must__16 rfl rfl ?_
      refine Tr.iconst (pc := 17) d_X12_must__17 (by decide) ?_
      refine Tr.aload_n (pc := 18) (i := 0) d_X12_must__18 rfl rfl ?_
      refine Tr.getf (pc := 19) d_X12_must__19 f_12_23 (by decide) (by decide) (ty_120 hS.1.1) ?_
      refine Tr.tp g120_4 ((kp_X12_isWord_120_120_4 h10).trans eg120_4) ?_
      refine Tr.callV (pc := 22) (as := [_, _]) d_X12_must__22 s_12_389 ok_X12_blame rfl rfl (Nat.le_of_ble_eq_true rfl) (Nat.le_of_ble_eq_true rfl) (by decide) (ty_120 hS.1.1) ?_
      refine Tr.imp (Tr.deep (by decide) (ns_X12_blame_120 (G120_8 := g120_8) hS.1 (((kp_X12_isWord_120_120_8 h10).trans eg120_8)) 1 (by omega) g120_4 (by and_intros <;> omega))) ?_
      rintro M22 _ ⟨h22, s22_120_8, es22_120_8, bs22_120_8, rfl, z22_0⟩
      have hS := St.tr hS h22 (by decide) (by decide)
      refine Tr.sc [] rfl ?_
      refine Tr.pick [0] (ls2 := [(0, (2, 120))]) rfl ?_
      exact J25 _ _ hS (by and_intros <;> omega) ((kp_X12_blame_120_120_3 h22).trans ((kp_X12_isWord_120_120_3 h10).trans eg120_3)) ((kp_X12_blame_120_120_4 h22).trans ((kp_X12_isWord_120_120_4 h10).trans eg120_4)) ((kp_X12_blame_120_120_5 h22).trans ((kp_X12_isWord_120_120_5 h10).trans eg120_5)) ((kp_X12_blame_120_120_7 h22).trans ((kp_X12_isWord_120_120_7 h10).trans eg120_7)) es22_120_8 ((tav_of ((kp_X12_blame_120_120_5 h22).trans ((kp_X12_isWord_120_120_5 h10).trans rfl)) ((kp_X12_blame_120_120_3 h22).trans ((kp_X12_isWord_120_120_3 h10).trans rfl))).trans eg9010_0) (by exact (hd_o z22_0).elim (fun h1 => by omega) (fun h1 => by omega)) (by omega)
  · have kr_120_3 : rd M0 120 3 = g120_3 := eg120_3
    have kr_120_4 : rd M0 120 4 = g120_4 := eg120_4
    have kr_120_5 : rd M0 120 5 = g120_5 := eg120_5
    have kr_120_7 : rd M0 120 7 = g120_7 := eg120_7
    have kr_120_8 : rd M0 120 8 = g120_8 := eg120_8
    have kr_9010_0 : tav M0 = g9010_0 := eg9010_0
    exact Tr.vret (pc := 7) d_X12_must__7 rfl ⟨hS, rfl, (by first | exact (hd_o hq0) | exact (hd_o hq0).elim (fun h1 => by omega) (fun h1 => by omega)), (by omega), (by first | exact (hd_o hq2) | exact (hd_o hq2).elim (fun h1 => by omega) (fun h1 => h1.elim (fun h1 => by omega) (fun h1 => by omega))), (by and_intros <;> omega), (by omega), (by omega)⟩

set_option maxRecDepth 100000 in
set_option maxHeartbeats 4000000 in
theorem ns_X12_must__120 {l : Launch} {K : EC} {M0 : Mem} {G120_3 G120_4 G120_5 G120_7 G120_8 G9010_0 : Int} (hI : In Pm1 M0) (k120_3 : rd M0 120 3 = G120_3) (k120_4 : rd M0 120 4 = G120_4) (k120_5 : rd M0 120 5 = G120_5) (k120_7 : rd M0 120 7 = G120_7) (k120_8 : rd M0 120 8 = G120_8) (k9010_0 : tav M0 = G9010_0)  (a1 : Int) (ha1 : 2147483647 ≤ a1 ∧ a1 ≤ 9223372036854775807)  (hq0 : G120_3 = 0 ∨ G120_4 + 1 ≤ G120_5) (hq1 : G120_4 ≤ G120_5) (hq2 : G120_3 ≠ 1 ∨ G120_4 + 2 ≤ G120_5 ∨ G120_7 < 256) : Tr l K 2 mX12_must_ 0 [(0, (2, 120)), (1, (1, a1))] [] M0 (fun M' r => St Pm1 ws_X12_must__120 as_X12_must__120 M0 M' ∧ ∃ S120_3 S120_4 S120_5 S120_7 S120_8 S9010_0 : Int, rd M' 120 3 = S120_3 ∧ (0 ≤ S120_3 ∧ S120_3 ≤ 3) ∧ rd M' 120 4 = S120_4 ∧ (0 ≤ S120_4 ∧ S120_4 ≤ 900) ∧ rd M' 120 5 = S120_5 ∧ (0 ≤ S120_5 ∧ S120_5 ≤ 900) ∧ rd M' 120 7 = S120_7 ∧ ((-9223372036854775808) ≤ S120_7 ∧ S120_7 ≤ 9223372036854775807) ∧ rd M' 120 8 = S120_8 ∧ (0 ≤ S120_8 ∧ S120_8 ≤ 5) ∧ tav M' = S9010_0 ∧ ((-1) ≤ S9010_0 ∧ S9010_0 ≤ 1800) ∧ r = none ∧ Hd (S120_3 = 0 ∨ S120_4 + 1 ≤ S120_5) ∧ (S120_4 ≤ S120_5) ∧ Hd (S120_3 ≠ 1 ∨ S120_4 + 2 ≤ S120_5 ∨ S120_7 < 256) ∧ (G120_4 ≤ S120_4 ∧ G120_5 ≤ S120_5 ∧ G9010_0 ≤ S9010_0) ∧ Hd (G120_8 = 0 ∨ S120_8 = G120_8) ∧ Hd (1 ≤ S120_8 ∨ G9010_0 < S9010_0)) := by
  subst k120_3
  subst k120_4
  subst k120_5
  subst k120_7
  subst k120_8
  subst k9010_0
  refine Tr.imp (sp_X12_must__120 hI a1 ha1 hq0 hq1 hq2) ?_
  rintro M' _ ⟨hS, rfl, z0, z1, z2, z3, z4, z5⟩
  exact ⟨hS, _, _, _, _, _, _, rfl, ir_120_3 hS.1.2.1, rfl, ir_120_4 hS.1.2.1, rfl, ir_120_5 hS.1.2.1, rfl, ir_120_7 hS.1.2.1, rfl, ir_120_8 hS.1.2.1, rfl, (tav_b hS.1.2.1), rfl, hd_i z0, z1, hd_i z2, z3, hd_i z4, hd_i z5⟩

def ws_X12_must__120_w1 : List (Int × Int) := [(120, 3), (120, 4), (120, 5), (120, 6), (120, 7), (120, 8), (120, 9)]
def as_X12_must__120_w1 : List Int := []
def q_X12_must__120_w1 (a1 : Int) (M0 M' : Mem) (r : Option PV) : Prop := St Pm1 ws_X12_must__120_w1 as_X12_must__120_w1 M0 M' ∧ r = none ∧ (rd M' 120 3 = 0 ∨ rd M' 120 4 + 1 ≤ rd M' 120 5) ∧ (rd M' 120 4 ≤ rd M' 120 5) ∧ (rd M' 120 3 ≠ 1 ∨ rd M' 120 4 + 2 ≤ rd M' 120 5 ∨ rd M' 120 7 < 256) ∧ (rd M0 120 4 ≤ rd M' 120 4 ∧ rd M0 120 5 ≤ rd M' 120 5 ∧ tav M0 ≤ tav M') ∧ (rd M0 120 8 = 0 ∨ rd M' 120 8 = rd M0 120 8) ∧ (1 ≤ rd M' 120 8 ∨ tav M0 < tav M')
set_option maxRecDepth 100000 in
set_option maxHeartbeats 4000000 in
theorem sp_X12_must__120_w1 {l : Launch} {K : EC} {M0 : Mem} (hI : In Pm1 M0)  (a1 : Int) (ha1 : 1000000000 ≤ a1 ∧ a1 ≤ 2147483647)  (hq0 : rd M0 120 3 = 0 ∨ rd M0 120 4 + 1 ≤ rd M0 120 5) (hq1 : rd M0 120 4 ≤ rd M0 120 5) (hq2 : rd M0 120 3 ≠ 1 ∨ rd M0 120 4 + 2 ≤ rd M0 120 5 ∨ rd M0 120 7 < 256) : Tr l K 2 mX12_must_ 0 [(0, (2, 120)), (1, (1, a1))] [] M0 (q_X12_must__120_w1 a1 M0) := by
  have hS : St Pm1 ws_X12_must__120_w1 as_X12_must__120_w1 M0 M0 := St.rf hI
  obtain ⟨g120_8, eg120_8⟩ : ∃ v, rd M0 120 8 = v := ⟨_, rfl⟩
  have bg120_8 : 0 ≤ g120_8 ∧ g120_8 ≤ 5 := by rw [← eg120_8]; exact ir_120_8 hI.2.1
  obtain ⟨g120_3, eg120_3⟩ : ∃ v, rd M0 120 3 = v := ⟨_, rfl⟩
  have bg120_3 : 0 ≤ g120_3 ∧ g120_3 ≤ 3 := by rw [← eg120_3]; exact ir_120_3 hI.2.1
  obtain ⟨g120_4, eg120_4⟩ : ∃ v, rd M0 120 4 = v := ⟨_, rfl⟩
  have bg120_4 : 0 ≤ g120_4 ∧ g120_4 ≤ 900 := by rw [← eg120_4]; exact ir_120_4 hI.2.1
  obtain ⟨g120_5, eg120_5⟩ : ∃ v, rd M0 120 5 = v := ⟨_, rfl⟩
  have bg120_5 : 0 ≤ g120_5 ∧ g120_5 ≤ 900 := by rw [← eg120_5]; exact ir_120_5 hI.2.1
  obtain ⟨g120_7, eg120_7⟩ : ∃ v, rd M0 120 7 = v := ⟨_, rfl⟩
  have bg120_7 : (-9223372036854775808) ≤ g120_7 ∧ g120_7 ≤ 9223372036854775807 := by rw [← eg120_7]; exact ir_120_7 hI.2.1
  obtain ⟨g9010_0, eg9010_0⟩ : ∃ v, tav M0 = v := ⟨_, rfl⟩
  have bg9010_0 : (-1) ≤ g9010_0 ∧ g9010_0 ≤ 1800 := by rw [← eg9010_0]; exact (tav_b hI.2.1)
  replace hq0 := hd_i hq0
  replace hq2 := hd_i hq2
  refine Tr.aload_n (pc := 0) (i := 0) d_X12_must__0 rfl rfl ?_
  refine Tr.getf (pc := 1) d_X12_must__1 f_12_36 (by decide) (by decide) (ty_120 hS.1.1) ?_
  refine Tr.tp g120_8 eg120_8 ?_
  refine Tr.if_le (pc := 4) (tgt := 8) d_X12_must__4 rfl (fun c4 => ?_) (fun c4 => ?_)
  · refine Tr.aload_n (pc := 8) (i := 0) d_X12_must__8 rfl rfl ?_
    refine Tr.lload_n (pc := 9) (i := 1) d_X12_must__9 rfl rfl ?_
    refine Tr.callV (pc := 10) (as := [_]) d_X12_must__10 s_12_484 ok_X12_isWord rfl rfl (Nat.le_of_ble_eq_true rfl) (Nat.le_of_ble_eq_true rfl) (by decide) (ty_120 hS.1.1) ?_
    refine Tr.imp (Tr.deep (by decide) (ns_X12_isWord_120 (G120_3 := g120_3) (G120_7 := g120_7) hS.1.wk (eg120_3) (eg120_7) a1 (by omega))) ?_
    rintro M10 _ ⟨h10, r10, rfl, lr10, ur10, z10_0⟩
    have h10 := St.rn h10 (Pm1.of hS.1.2.2.2.2 (fun _ => (ka_X12_isWord_120_131 h10 _)) (fun _ => (ka_X12_isWord_120_137 h10 _)) (fun _ => (ka_X12_isWord_120_138 h10 _)) (fun _ => (ka_X12_isWord_120_139 h10 _)) (fun _ => (ka_X12_isWord_120_140 h10 _)) (fun _ => (ka_X12_isWord_120_141 h10 _)) (fun _ => (ka_X12_isWord_120_142 h10 _)) (fun _ => (ka_X12_isWord_120_143 h10 _)) (fun _ => (ka_X12_isWord_120_151 h10 _)) (fun _ => (ka_X12_isWord_120_152 h10 _)) (kp_X12_isWord_120_126_0 h10) (kp_X12_isWord_120_126_1 h10) (kp_X12_isWord_120_136_0 h10) (kp_X12_isWord_120_136_1 h10) (kp_X12_isWord_120_123_0 h10) (kp_X12_isWord_120_123_1 h10) (kp_X12_isWord_120_124_0 h10) (kp_X12_isWord_120_124_1 h10) (kp_X12_isWord_120_120_8 h10) (kp_X12_isWord_120_120_36 h10) (kp_X12_isWord_120_120_50 h10))
    have hS := St.tr hS h10 (by decide) (by decide)
    refine Tr.sc [(0, r10)] rfl ?_
    have J25 : ∀ (M : Mem) (u25_120_8 : Int), St Pm1 ws_X12_must__120_w1 as_X12_must__120_w1 M0 M → (0 ≤ u25_120_8 ∧ u25_120_8 ≤ 5) → rd M 120 3 = g120_3 → rd M 120 4 = g120_4 → rd M 120 5 = g120_5 → rd M 120 7 = g120_7 → rd M 120 8 = u25_120_8 → tav M = g9010_0 → (u25_120_8 ≠ 0 ∨ g120_3 ≠ 0) → (g120_8 = 0 ∨ u25_120_8 = g120_8) → Tr l K 2 mX12_must_ 25 [(0, (2, 120))] [] M (q_X12_must__120_w1 a1 M0) := by
      intro M u25_120_8 hS bu25_120_8 k25_120_3 k25_120_4 k25_120_5 k25_120_7 k25_120_8 k25_9010_0 t25_0 t25_1
      replace t25_0 := hd_i t25_0
      replace t25_1 := hd_i t25_1
      refine Tr.aload_n (pc := 25) (i := 0) d_X12_must__25 rfl rfl ?_
      refine Tr.getf (pc := 26) d_X12_must__26 f_12_36 (by decide) (by decide) (ty_120 hS.1.1) ?_
      refine Tr.tp u25_120_8 k25_120_8 ?_
      refine Tr.if_ne (pc := 29) (tgt := 36) d_X12_must__29 rfl (fun c29 => ?_) (fun c29 => ?_)
      · have c29b : 1 ≤ u25_120_8 ∧ u25_120_8 ≤ 5 := by omega
        replace c29 := hd_i c29
        have kr_120_3 : rd M 120 3 = g120_3 := k25_120_3
        have kr_120_4 : rd M 120 4 = g120_4 := k25_120_4
        have kr_120_5 : rd M 120 5 = g120_5 := k25_120_5
        have kr_120_7 : rd M 120 7 = g120_7 := k25_120_7
        have kr_120_8 : rd M 120 8 = u25_120_8 := k25_120_8
        have kr_9010_0 : tav M = g9010_0 := k25_9010_0
        exact Tr.vret (pc := 36) d_X12_must__36 rfl ⟨hS, rfl, (by first | exact (hd_o hq0) | exact (hd_o hq0).elim (fun h1 => by omega) (fun h1 => by omega)), (by omega), (by first | exact (hd_o hq2) | exact (hd_o hq2).elim (fun h1 => by omega) (fun h1 => h1.elim (fun h1 => by omega) (fun h1 => by omega))), (by and_intros <;> omega), (by first | exact (hd_o t25_1) | exact (hd_o t25_1).elim (fun h1 => by omega) (fun h1 => by omega)), (by omega)⟩
      · refine Tr.aload_n (pc := 32) (i := 0) d_X12_must__32 rfl rfl ?_
        refine Tr.callV (pc := 33) (as := []) d_X12_must__33 s_12_396 ok_X12_next rfl rfl (Nat.le_of_ble_eq_true rfl) (Nat.le_of_ble_eq_true rfl) (by decide) (ty_120 hS.1.1) ?_
        refine Tr.imp (Tr.deep (by decide) (ns_X12_next_120 (G120_3 := g120_3) (G120_5 := g120_5) (G120_8 := u25_120_8) (G9010_0 := g9010_0) hS.1 (k25_120_3) (k25_120_5) (k25_120_8) (k25_9010_0))) ?_
        rintro M33 _ ⟨h33, s33_120_3, s33_120_4, s33_120_5, s33_120_7, s33_120_8, s33_9010_0, es33_120_3, bs33_120_3, es33_120_4, bs33_120_4, es33_120_5, bs33_120_5, es33_120_7, bs33_120_7, es33_120_8, bs33_120_8, es33_9010_0, bs33_9010_0, rfl, z33_0, z33_1, z33_2, z33_3, z33_4, z33_5, z33_6⟩
        have hS := St.tr hS h33 (by decide) (by decide)
        refine Tr.sc [] rfl ?_
        have kr_120_3 : rd M33 120 3 = s33_120_3 := es33_120_3
        have kr_120_4 : rd M33 120 4 = s33_120_4 := es33_120_4
        have kr_120_5 : rd M33 120 5 = s33_120_5 := es33_120_5
        have kr_120_7 : rd M33 120 7 = s33_120_7 := es33_120_7
        have kr_120_8 : rd M33 120 8 = s33_120_8 := es33_120_8
        have kr_9010_0 : tav M33 = s33_9010_0 := es33_9010_0
        exact Tr.vret (pc := 36) d_X12_must__36 rfl ⟨hS, rfl, (by first | exact (hd_o z33_0) | exact (hd_o z33_0).elim (fun h1 => by omega) (fun h1 => by omega)), (by omega), (by first | exact (hd_o z33_2) | exact (hd_o z33_2).elim (fun h1 => by omega) (fun h1 => h1.elim (fun h1 => by omega) (fun h1 => by omega))), (by and_intros <;> omega), (by omega), (by exact (hd_o t25_0).elim (fun h1 => (ne_o h1).elim (fun h2 => by omega) (fun h2 => by omega)) (fun h1 => (ne_o h1).elim (fun h2 => by omega) (fun h2 => (hd_o z33_5).elim (fun h3 => by omega) (fun h3 => by omega))))⟩
    refine Tr.if_ne (pc := 13) (tgt := 25) d_X12_must__13 rfl (fun c13 => ?_) (fun c13 => ?_)
    · have c13b : 1 ≤ r10 ∧ r10 ≤ 1 := by omega
      replace c13 := hd_i c13
      refine Tr.pick [0] (ls2 := [(0, (2, 120))]) rfl ?_
      exact J25 _ _ hS (by and_intros <;> omega) ((kp_X12_isWord_120_120_3 h10).trans eg120_3) ((kp_X12_isWord_120_120_4 h10).trans eg120_4) ((kp_X12_isWord_120_120_5 h10).trans eg120_5) ((kp_X12_isWord_120_120_7 h10).trans eg120_7) ((kp_X12_isWord_120_120_8 h10).trans eg120_8) ((tav_of ((kp_X12_isWord_120_120_5 h10).trans rfl) ((kp_X12_isWord_120_120_3 h10).trans rfl)).trans eg9010_0) (by exact (hd_o z10_0).elim (fun h1 => by omega) (fun h1 => by omega)) (by omega)
    · refine Tr.aload_n (pc := 16) (i := 0) d_X12_must__16 rfl rfl ?_
      refine Tr.iconst (pc := 17) d_X12_must__17 (by decide) ?_
      refine Tr.aload_n (pc := 18) (i := 0) d_X12_must__18 rfl rfl ?_
      refine Tr.getf (pc := 19) d_X12_must__19 f_12_23 (by decide) (by decide) (ty_120 hS.1.1) ?_
      refine Tr.tp g120_4 ((kp_X12_isWord_120_120_4 h10).trans eg120_4) ?_
      refine Tr.callV (pc := 22) (as := [_, _]) d_X12_must__22 s_12_389 ok_X12_blame rfl rfl (Nat.le_of_ble_eq_true rfl) (Nat.le_of_ble_eq_true rfl) (by decide) (ty_120 hS.1.1) ?_
      refine Tr.imp (Tr.deep (by decide) (ns_X12_blame_120 (G120_8 := g120_8) hS.1 (((kp_X12_isWord_120_120_8 h10).trans eg120_8)) 1 (by omega) g120_4 (by and_intros <;> omega))) ?_
      rintro M22 _ ⟨h22, s22_120_8, es22_120_8, bs22_120_8, rfl, z22_0⟩
      have hS := St.tr hS h22 (by decide) (by decide)
      refine Tr.sc [] rfl ?_
      refine Tr.pick [0] (ls2 := [(0, (2, 120))]) rfl ?_
      exact J25 _ _ hS (by and_intros <;> omega) ((kp_X12_blame_120_120_3 h22).trans ((kp_X12_isWord_120_120_3 h10).trans eg120_3)) ((kp_X12_blame_120_120_4 h22).trans ((kp_X12_isWord_120_120_4 h10).trans eg120_4)) ((kp_X12_blame_120_120_5 h22).trans ((kp_X12_isWord_120_120_5 h10).trans eg120_5)) ((kp_X12_blame_120_120_7 h22).trans ((kp_X12_isWord_120_120_7 h10).trans eg120_7)) es22_120_8 ((tav_of ((kp_X12_blame_120_120_5 h22).trans ((kp_X12_isWord_120_120_5 h10).trans rfl)) ((kp_X12_blame_120_120_3 h22).trans ((kp_X12_isWord_120_120_3 h10).trans rfl))).trans eg9010_0) (by exact (hd_o z22_0).elim (fun h1 => by omega) (fun h1 => by omega)) (by omega)
  · have kr_120_3 : rd M0 120 3 = g120_3 := eg120_3
    have kr_120_4 : rd M0 120 4 = g120_4 := eg120_4
    have kr_120_5 : rd M0 120 5 = g120_5 := eg120_5
    have kr_120_7 : rd M0 120 7 = g120_7 := eg120_7
    have kr_120_8 : rd M0 120 8 = g120_8 := eg120_8
    have kr_9010_0 : tav M0 = g9010_0 := eg9010_0
    exact Tr.vret (pc := 7) d_X12_must__7 rfl ⟨hS, rfl, (by first | exact (hd_o hq0) | exact (hd_o hq0).elim (fun h1 => by omega) (fun h1 => by omega)), (by omega), (by first | exact (hd_o hq2) | exact (hd_o hq2).elim (fun h1 => by omega) (fun h1 => h1.elim (fun h1 => by omega) (fun h1 => by omega))), (by and_intros <;> omega), (by omega), (by omega)⟩

set_option maxRecDepth 100000 in
set_option maxHeartbeats 4000000 in
theorem ns_X12_must__120_w1 {l : Launch} {K : EC} {M0 : Mem} {G120_3 G120_4 G120_5 G120_7 G120_8 G9010_0 : Int} (hI : In Pm1 M0) (k120_3 : rd M0 120 3 = G120_3) (k120_4 : rd M0 120 4 = G120_4) (k120_5 : rd M0 120 5 = G120_5) (k120_7 : rd M0 120 7 = G120_7) (k120_8 : rd M0 120 8 = G120_8) (k9010_0 : tav M0 = G9010_0)  (a1 : Int) (ha1 : 1000000000 ≤ a1 ∧ a1 ≤ 2147483647)  (hq0 : G120_3 = 0 ∨ G120_4 + 1 ≤ G120_5) (hq1 : G120_4 ≤ G120_5) (hq2 : G120_3 ≠ 1 ∨ G120_4 + 2 ≤ G120_5 ∨ G120_7 < 256) : Tr l K 2 mX12_must_ 0 [(0, (2, 120)), (1, (1, a1))] [] M0 (fun M' r => St Pm1 ws_X12_must__120_w1 as_X12_must__120_w1 M0 M' ∧ ∃ S120_3 S120_4 S120_5 S120_7 S120_8 S9010_0 : Int, rd M' 120 3 = S120_3 ∧ (0 ≤ S120_3 ∧ S120_3 ≤ 3) ∧ rd M' 120 4 = S120_4 ∧ (0 ≤ S120_4 ∧ S120_4 ≤ 900) ∧ rd M' 120 5 = S120_5 ∧ (0 ≤ S120_5 ∧ S120_5 ≤ 900) ∧ rd M' 120 7 = S120_7 ∧ ((-9223372036854775808) ≤ S120_7 ∧ S120_7 ≤ 9223372036854775807) ∧ rd M' 120 8 = S120_8 ∧ (0 ≤ S120_8 ∧ S120_8 ≤ 5) ∧ tav M' = S9010_0 ∧ ((-1) ≤ S9010_0 ∧ S9010_0 ≤ 1800) ∧ r = none ∧ Hd (S120_3 = 0 ∨ S120_4 + 1 ≤ S120_5) ∧ (S120_4 ≤ S120_5) ∧ Hd (S120_3 ≠ 1 ∨ S120_4 + 2 ≤ S120_5 ∨ S120_7 < 256) ∧ (G120_4 ≤ S120_4 ∧ G120_5 ≤ S120_5 ∧ G9010_0 ≤ S9010_0) ∧ Hd (G120_8 = 0 ∨ S120_8 = G120_8) ∧ Hd (1 ≤ S120_8 ∨ G9010_0 < S9010_0)) := by
  subst k120_3
  subst k120_4
  subst k120_5
  subst k120_7
  subst k120_8
  subst k9010_0
  refine Tr.imp (sp_X12_must__120_w1 hI a1 ha1 hq0 hq1 hq2) ?_
  rintro M' _ ⟨hS, rfl, z0, z1, z2, z3, z4, z5⟩
  exact ⟨hS, _, _, _, _, _, _, rfl, ir_120_3 hS.1.2.1, rfl, ir_120_4 hS.1.2.1, rfl, ir_120_5 hS.1.2.1, rfl, ir_120_7 hS.1.2.1, rfl, ir_120_8 hS.1.2.1, rfl, (tav_b hS.1.2.1), rfl, hd_i z0, z1, hd_i z2, z3, hd_i z4, hd_i z5⟩

def ws_X12_must__120_w2 : List (Int × Int) := [(120, 3), (120, 4), (120, 5), (120, 6), (120, 7), (120, 8), (120, 9)]
def as_X12_must__120_w2 : List Int := []
def q_X12_must__120_w2 (a1 : Int) (M0 M' : Mem) (r : Option PV) : Prop := St Pm1 ws_X12_must__120_w2 as_X12_must__120_w2 M0 M' ∧ r = none ∧ (rd M' 120 3 = 0 ∨ rd M' 120 4 + 1 ≤ rd M' 120 5) ∧ (rd M' 120 4 ≤ rd M' 120 5) ∧ (rd M' 120 3 ≠ 1 ∨ rd M' 120 4 + 2 ≤ rd M' 120 5 ∨ rd M' 120 7 < 256) ∧ (rd M0 120 4 ≤ rd M' 120 4 ∧ rd M0 120 5 ≤ rd M' 120 5 ∧ tav M0 ≤ tav M') ∧ (rd M0 120 8 = 0 ∨ rd M' 120 8 = rd M0 120 8) ∧ (1 ≤ rd M' 120 8 ∨ tav M0 < tav M')
set_option maxRecDepth 100000 in
set_option maxHeartbeats 4000000 in
theorem sp_X12_must__120_w2 {l : Launch} {K : EC} {M0 : Mem} (hI : In Pm1 M0)  (a1 : Int) (ha1 : 2100 ≤ a1 ∧ a1 ≤ 46656)  (hq0 : rd M0 120 3 = 0 ∨ rd M0 120 4 + 1 ≤ rd M0 120 5) (hq1 : rd M0 120 4 ≤ rd M0 120 5) (hq2 : rd M0 120 3 ≠ 1 ∨ rd M0 120 4 + 2 ≤ rd M0 120 5 ∨ rd M0 120 7 < 256) : Tr l K 2 mX12_must_ 0 [(0, (2, 120)), (1, (1, a1))] [] M0 (q_X12_must__120_w2 a1 M0) := by
  have hS : St Pm1 ws_X12_must__120_w2 as_X12_must__120_w2 M0 M0 := St.rf hI
  obtain ⟨g120_8, eg120_8⟩ : ∃ v, rd M0 120 8 = v := ⟨_, rfl⟩
  have bg120_8 : 0 ≤ g120_8 ∧ g120_8 ≤ 5 := by rw [← eg120_8]; exact ir_120_8 hI.2.1
  obtain ⟨g120_3, eg120_3⟩ : ∃ v, rd M0 120 3 = v := ⟨_, rfl⟩
  have bg120_3 : 0 ≤ g120_3 ∧ g120_3 ≤ 3 := by rw [← eg120_3]; exact ir_120_3 hI.2.1
  obtain ⟨g120_4, eg120_4⟩ : ∃ v, rd M0 120 4 = v := ⟨_, rfl⟩
  have bg120_4 : 0 ≤ g120_4 ∧ g120_4 ≤ 900 := by rw [← eg120_4]; exact ir_120_4 hI.2.1
  obtain ⟨g120_5, eg120_5⟩ : ∃ v, rd M0 120 5 = v := ⟨_, rfl⟩
  have bg120_5 : 0 ≤ g120_5 ∧ g120_5 ≤ 900 := by rw [← eg120_5]; exact ir_120_5 hI.2.1
  obtain ⟨g120_7, eg120_7⟩ : ∃ v, rd M0 120 7 = v := ⟨_, rfl⟩
  have bg120_7 : (-9223372036854775808) ≤ g120_7 ∧ g120_7 ≤ 9223372036854775807 := by rw [← eg120_7]; exact ir_120_7 hI.2.1
  obtain ⟨g9010_0, eg9010_0⟩ : ∃ v, tav M0 = v := ⟨_, rfl⟩
  have bg9010_0 : (-1) ≤ g9010_0 ∧ g9010_0 ≤ 1800 := by rw [← eg9010_0]; exact (tav_b hI.2.1)
  replace hq0 := hd_i hq0
  replace hq2 := hd_i hq2
  refine Tr.aload_n (pc := 0) (i := 0) d_X12_must__0 rfl rfl ?_
  refine Tr.getf (pc := 1) d_X12_must__1 f_12_36 (by decide) (by decide) (ty_120 hS.1.1) ?_
  refine Tr.tp g120_8 eg120_8 ?_
  refine Tr.if_le (pc := 4) (tgt := 8) d_X12_must__4 rfl (fun c4 => ?_) (fun c4 => ?_)
  · refine Tr.aload_n (pc := 8) (i := 0) d_X12_must__8 rfl rfl ?_
    refine Tr.lload_n (pc := 9) (i := 1) d_X12_must__9 rfl rfl ?_
    refine Tr.callV (pc := 10) (as := [_]) d_X12_must__10 s_12_484 ok_X12_isWord rfl rfl (Nat.le_of_ble_eq_true rfl) (Nat.le_of_ble_eq_true rfl) (by decide) (ty_120 hS.1.1) ?_
    refine Tr.imp (Tr.deep (by decide) (ns_X12_isWord_120 (G120_3 := g120_3) (G120_7 := g120_7) hS.1.wk (eg120_3) (eg120_7) a1 (by omega))) ?_
    rintro M10 _ ⟨h10, r10, rfl, lr10, ur10, z10_0⟩
    have h10 := St.rn h10 (Pm1.of hS.1.2.2.2.2 (fun _ => (ka_X12_isWord_120_131 h10 _)) (fun _ => (ka_X12_isWord_120_137 h10 _)) (fun _ => (ka_X12_isWord_120_138 h10 _)) (fun _ => (ka_X12_isWord_120_139 h10 _)) (fun _ => (ka_X12_isWord_120_140 h10 _)) (fun _ => (ka_X12_isWord_120_141 h10 _)) (fun _ => (ka_X12_isWord_120_142 h10 _)) (fun _ => (ka_X12_isWord_120_143 h10 _)) (fun _ => (ka_X12_isWord_120_151 h10 _)) (fun _ => (ka_X12_isWord_120_152 h10 _)) (kp_X12_isWord_120_126_0 h10) (kp_X12_isWord_120_126_1 h10) (kp_X12_isWord_120_136_0 h10) (kp_X12_isWord_120_136_1 h10) (kp_X12_isWord_120_123_0 h10) (kp_X12_isWord_120_123_1 h10) (kp_X12_isWord_120_124_0 h10) (kp_X12_isWord_120_124_1 h10) (kp_X12_isWord_120_120_8 h10) (kp_X12_isWord_120_120_36 h10) (kp_X12_isWord_120_120_50 h10))
    have hS := St.tr hS h10 (by decide) (by decide)
    refine Tr.sc [(0, r10)] rfl ?_
    have J25 : ∀ (M : Mem) (u25_120_8 : Int), St Pm1 ws_X12_must__120_w2 as_X12_must__120_w2 M0 M → (0 ≤ u25_120_8 ∧ u25_120_8 ≤ 5) → rd M 120 3 = g120_3 → rd M 120 4 = g120_4 → rd M 120 5 = g120_5 → rd M 120 7 = g120_7 → rd M 120 8 = u25_120_8 → tav M = g9010_0 → (u25_120_8 ≠ 0 ∨ g120_3 ≠ 0) → (g120_8 = 0 ∨ u25_120_8 = g120_8) → Tr l K 2 mX12_must_ 25 [(0, (2, 120))] [] M (q_X12_must__120_w2 a1 M0) := by
      intro M u25_120_8 hS bu25_120_8 k25_120_3 k25_120_4 k25_120_5 k25_120_7 k25_120_8 k25_9010_0 t25_0 t25_1
      replace t25_0 := hd_i t25_0
      replace t25_1 := hd_i t25_1
      refine Tr.aload_n (pc := 25) (i := 0) d_X12_must__25 rfl rfl ?_
      refine Tr.getf (pc := 26) d_X12_must__26 f_12_36 (by decide) (by decide) (ty_120 hS.1.1) ?_
      refine Tr.tp u25_120_8 k25_120_8 ?_
      refine Tr.if_ne (pc := 29) (tgt := 36) d_X12_must__29 rfl (fun c29 => ?_) (fun c29 => ?_)
      · have c29b : 1 ≤ u25_120_8 ∧ u25_120_8 ≤ 5 := by omega
        replace c29 := hd_i c29
        have kr_120_3 : rd M 120 3 = g120_3 := k25_120_3
        have kr_120_4 : rd M 120 4 = g120_4 := k25_120_4
        have kr_120_5 : rd M 120 5 = g120_5 := k25_120_5
        have kr_120_7 : rd M 120 7 = g120_7 := k25_120_7
        have kr_120_8 : rd M 120 8 = u25_120_8 := k25_120_8
        have kr_9010_0 : tav M = g9010_0 := k25_9010_0
        exact Tr.vret (pc := 36) d_X12_must__36 rfl ⟨hS, rfl, (by first | exact (hd_o hq0) | exact (hd_o hq0).elim (fun h1 => by omega) (fun h1 => by omega)), (by omega), (by first | exact (hd_o hq2) | exact (hd_o hq2).elim (fun h1 => by omega) (fun h1 => h1.elim (fun h1 => by omega) (fun h1 => by omega))), (by and_intros <;> omega), (by first | exact (hd_o t25_1) | exact (hd_o t25_1).elim (fun h1 => by omega) (fun h1 => by omega)), (by omega)⟩
      · refine Tr.aload_n (pc := 32) (i := 0) d_X12_must__32 rfl rfl ?_
        refine Tr.callV (pc := 33) (as := []) d_X12_must__33 s_12_396 ok_X12_next rfl rfl (Nat.le_of_ble_eq_true rfl) (Nat.le_of_ble_eq_true rfl) (by decide) (ty_120 hS.1.1) ?_
        refine Tr.imp (Tr.deep (by decide) (ns_X12_next_120 (G120_3 := g120_3) (G120_5 := g120_5) (G120_8 := u25_120_8) (G9010_0 := g9010_0) hS.1 (k25_120_3) (k25_120_5) (k25_120_8) (k25_9010_0))) ?_
        rintro M33 _ ⟨h33, s33_120_3, s33_120_4, s33_120_5, s33_120_7, s33_120_8, s33_9010_0, es33_120_3, bs33_120_3, es33_120_4, bs33_120_4, es33_120_5, bs33_120_5, es33_120_7, bs33_120_7, es33_120_8, bs33_120_8, es33_9010_0, bs33_9010_0, rfl, z33_0, z33_1, z33_2, z33_3, z33_4, z33_5, z33_6⟩
        have hS := St.tr hS h33 (by decide) (by decide)
        refine Tr.sc [] rfl ?_
        have kr_120_3 : rd M33 120 3 = s33_120_3 := es33_120_3
        have kr_120_4 : rd M33 120 4 = s33_120_4 := es33_120_4
        have kr_120_5 : rd M33 120 5 = s33_120_5 := es33_120_5
        have kr_120_7 : rd M33 120 7 = s33_120_7 := es33_120_7
        have kr_120_8 : rd M33 120 8 = s33_120_8 := es33_120_8
        have kr_9010_0 : tav M33 = s33_9010_0 := es33_9010_0
        exact Tr.vret (pc := 36) d_X12_must__36 rfl ⟨hS, rfl, (by first | exact (hd_o z33_0) | exact (hd_o z33_0).elim (fun h1 => by omega) (fun h1 => by omega)), (by omega), (by first | exact (hd_o z33_2) | exact (hd_o z33_2).elim (fun h1 => by omega) (fun h1 => h1.elim (fun h1 => by omega) (fun h1 => by omega))), (by and_intros <;> omega), (by omega), (by exact (hd_o t25_0).elim (fun h1 => (ne_o h1).elim (fun h2 => by omega) (fun h2 => by omega)) (fun h1 => (ne_o h1).elim (fun h2 => by omega) (fun h2 => (hd_o z33_5).elim (fun h3 => by omega) (fun h3 => by omega))))⟩
    refine Tr.if_ne (pc := 13) (tgt := 25) d_X12_must__13 rfl (fun c13 => ?_) (fun c13 => ?_)
    · have c13b : 1 ≤ r10 ∧ r10 ≤ 1 := by omega
      replace c13 := hd_i c13
      refine Tr.pick [0] (ls2 := [(0, (2, 120))]) rfl ?_
      exact J25 _ _ hS (by and_intros <;> omega) ((kp_X12_isWord_120_120_3 h10).trans eg120_3) ((kp_X12_isWord_120_120_4 h10).trans eg120_4) ((kp_X12_isWord_120_120_5 h10).trans eg120_5) ((kp_X12_isWord_120_120_7 h10).trans eg120_7) ((kp_X12_isWord_120_120_8 h10).trans eg120_8) ((tav_of ((kp_X12_isWord_120_120_5 h10).trans rfl) ((kp_X12_isWord_120_120_3 h10).trans rfl)).trans eg9010_0) (by exact (hd_o z10_0).elim (fun h1 => by omega) (fun h1 => by omega)) (by omega)
    · refine Tr.aload_n (pc := 16) (i := 0) d_X12_must__16 rfl rfl ?_
      refine Tr.iconst (pc := 17) d_X12_must__17 (by decide) ?_
      refine Tr.aload_n (pc := 18) (i := 0) d_X12_must__18 rfl rfl ?_
      refine Tr.getf (pc := 19) d_X12_must__19 f_12_23 (by decide) (by decide) (ty_120 hS.1.1) ?_
      refine Tr.tp g120_4 ((kp_X12_isWord_120_120_4 h10).trans eg120_4) ?_
      refine Tr.callV (pc := 22) (as := [_, _]) d_X12_must__22 s_12_389 ok_X12_blame rfl rfl (Nat.le_of_ble_eq_true rfl) (Nat.le_of_ble_eq_true rfl) (by decide) (ty_120 hS.1.1) ?_
      refine Tr.imp (Tr.deep (by decide) (ns_X12_blame_120 (G120_8 := g120_8) hS.1 (((kp_X12_isWord_120_120_8 h10).trans eg120_8)) 1 (by omega) g120_4 (by and_intros <;> omega))) ?_
      rintro M22 _ ⟨h22, s22_120_8, es22_120_8, bs22_120_8, rfl, z22_0⟩
      have hS := St.tr hS h22 (by decide) (by decide)
      refine Tr.sc [] rfl ?_
      refine Tr.pick [0] (ls2 := [(0, (2, 120))]) rfl ?_
      exact J25 _ _ hS (by and_intros <;> omega) ((kp_X12_blame_120_120_3 h22).trans ((kp_X12_isWord_120_120_3 h10).trans eg120_3)) ((kp_X12_blame_120_120_4 h22).trans ((kp_X12_isWord_120_120_4 h10).trans eg120_4)) ((kp_X12_blame_120_120_5 h22).trans ((kp_X12_isWord_120_120_5 h10).trans eg120_5)) ((kp_X12_blame_120_120_7 h22).trans ((kp_X12_isWord_120_120_7 h10).trans eg120_7)) es22_120_8 ((tav_of ((kp_X12_blame_120_120_5 h22).trans ((kp_X12_isWord_120_120_5 h10).trans rfl)) ((kp_X12_blame_120_120_3 h22).trans ((kp_X12_isWord_120_120_3 h10).trans rfl))).trans eg9010_0) (by exact (hd_o z22_0).elim (fun h1 => by omega) (fun h1 => by omega)) (by omega)
  · have kr_120_3 : rd M0 120 3 = g120_3 := eg120_3
    have kr_120_4 : rd M0 120 4 = g120_4 := eg120_4
    have kr_120_5 : rd M0 120 5 = g120_5 := eg120_5
    have kr_120_7 : rd M0 120 7 = g120_7 := eg120_7
    have kr_120_8 : rd M0 120 8 = g120_8 := eg120_8
    have kr_9010_0 : tav M0 = g9010_0 := eg9010_0
    exact Tr.vret (pc := 7) d_X12_must__7 rfl ⟨hS, rfl, (by first | exact (hd_o hq0) | exact (hd_o hq0).elim (fun h1 => by omega) (fun h1 => by omega)), (by omega), (by first | exact (hd_o hq2) | exact (hd_o hq2).elim (fun h1 => by omega) (fun h1 => h1.elim (fun h1 => by omega) (fun h1 => by omega))), (by and_intros <;> omega), (by omega), (by omega)⟩

set_option maxRecDepth 100000 in
set_option maxHeartbeats 4000000 in
theorem ns_X12_must__120_w2 {l : Launch} {K : EC} {M0 : Mem} {G120_3 G120_4 G120_5 G120_7 G120_8 G9010_0 : Int} (hI : In Pm1 M0) (k120_3 : rd M0 120 3 = G120_3) (k120_4 : rd M0 120 4 = G120_4) (k120_5 : rd M0 120 5 = G120_5) (k120_7 : rd M0 120 7 = G120_7) (k120_8 : rd M0 120 8 = G120_8) (k9010_0 : tav M0 = G9010_0)  (a1 : Int) (ha1 : 2100 ≤ a1 ∧ a1 ≤ 46656)  (hq0 : G120_3 = 0 ∨ G120_4 + 1 ≤ G120_5) (hq1 : G120_4 ≤ G120_5) (hq2 : G120_3 ≠ 1 ∨ G120_4 + 2 ≤ G120_5 ∨ G120_7 < 256) : Tr l K 2 mX12_must_ 0 [(0, (2, 120)), (1, (1, a1))] [] M0 (fun M' r => St Pm1 ws_X12_must__120_w2 as_X12_must__120_w2 M0 M' ∧ ∃ S120_3 S120_4 S120_5 S120_7 S120_8 S9010_0 : Int, rd M' 120 3 = S120_3 ∧ (0 ≤ S120_3 ∧ S120_3 ≤ 3) ∧ rd M' 120 4 = S120_4 ∧ (0 ≤ S120_4 ∧ S120_4 ≤ 900) ∧ rd M' 120 5 = S120_5 ∧ (0 ≤ S120_5 ∧ S120_5 ≤ 900) ∧ rd M' 120 7 = S120_7 ∧ ((-9223372036854775808) ≤ S120_7 ∧ S120_7 ≤ 9223372036854775807) ∧ rd M' 120 8 = S120_8 ∧ (0 ≤ S120_8 ∧ S120_8 ≤ 5) ∧ tav M' = S9010_0 ∧ ((-1) ≤ S9010_0 ∧ S9010_0 ≤ 1800) ∧ r = none ∧ Hd (S120_3 = 0 ∨ S120_4 + 1 ≤ S120_5) ∧ (S120_4 ≤ S120_5) ∧ Hd (S120_3 ≠ 1 ∨ S120_4 + 2 ≤ S120_5 ∨ S120_7 < 256) ∧ (G120_4 ≤ S120_4 ∧ G120_5 ≤ S120_5 ∧ G9010_0 ≤ S9010_0) ∧ Hd (G120_8 = 0 ∨ S120_8 = G120_8) ∧ Hd (1 ≤ S120_8 ∨ G9010_0 < S9010_0)) := by
  subst k120_3
  subst k120_4
  subst k120_5
  subst k120_7
  subst k120_8
  subst k9010_0
  refine Tr.imp (sp_X12_must__120_w2 hI a1 ha1 hq0 hq1 hq2) ?_
  rintro M' _ ⟨hS, rfl, z0, z1, z2, z3, z4, z5⟩
  exact ⟨hS, _, _, _, _, _, _, rfl, ir_120_3 hS.1.2.1, rfl, ir_120_4 hS.1.2.1, rfl, ir_120_5 hS.1.2.1, rfl, ir_120_7 hS.1.2.1, rfl, ir_120_8 hS.1.2.1, rfl, (tav_b hS.1.2.1), rfl, hd_i z0, z1, hd_i z2, z3, hd_i z4, hd_i z5⟩

def ws_X12_part_120 : List (Int × Int) := [(120, 3), (120, 4), (120, 5), (120, 6), (120, 7), (120, 8), (120, 9), (126, 1)]
def as_X12_part_120 : List Int := [130, 131]
def q_X12_part_120 (M0 M' : Mem) (r : Option PV) : Prop := St Pm1 ws_X12_part_120 as_X12_part_120 M0 M' ∧ r = none ∧ (rd M' 120 3 = 0 ∨ rd M' 120 4 + 1 ≤ rd M' 120 5) ∧ (rd M' 120 4 ≤ rd M' 120 5) ∧ (rd M' 120 3 ≠ 1 ∨ rd M' 120 4 + 2 ≤ rd M' 120 5 ∨ rd M' 120 7 < 256) ∧ (rd M0 120 4 ≤ rd M' 120 4 ∧ rd M0 120 5 ≤ rd M' 120 5 ∧ tav M0 ≤ tav M') ∧ (rd M0 120 8 = 0 ∨ rd M' 120 8 = rd M0 120 8) ∧ (1 ≤ rd M' 120 8 ∨ tav M0 < tav M')
theorem kp_X12_part_120_120_37 {q : Mem → Prop} {M0 M : Mem} (h : St q ws_X12_part_120 as_X12_part_120 M0 M) : rd M 120 37 = rd M0 120 37 := St.kp h (by decide) (by decide) (by decide)
theorem kp_X12_counts_120_126_1 {q : Mem → Prop} {M0 M : Mem} (h : St q ws_X12_counts_120 as_X12_counts_120 M0 M) : rd M 126 1 = rd M0 126 1 := St.kp h (by decide) (by decide) (by decide)
theorem kp_X12_fresh_120_126_1 {q : Mem → Prop} {M0 M : Mem} (h : St q ws_X12_fresh_120 as_X12_fresh_120 M0 M) : rd M 126 1 = rd M0 126 1 := St.kp h (by decide) (by decide) (by decide)
theorem kp_X12_must__120_126_1 {q : Mem → Prop} {M0 M : Mem} (h : St q ws_X12_must__120 as_X12_must__120 M0 M) : rd M 126 1 = rd M0 126 1 := St.kp h (by decide) (by decide) (by decide)
theorem kp_X12_number_120_126_1 {q : Mem → Prop} {M0 M : Mem} (h : St q ws_X12_number_120 as_X12_number_120 M0 M) : rd M 126 1 = rd M0 126 1 := St.kp h (by decide) (by decide) (by decide)
theorem kp_X12_must__120_w1_126_1 {q : Mem → Prop} {M0 M : Mem} (h : St q ws_X12_must__120_w1 as_X12_must__120_w1 M0 M) : rd M 126 1 = rd M0 126 1 := St.kp h (by decide) (by decide) (by decide)
theorem kp_X12_must__120_w2_126_1 {q : Mem → Prop} {M0 M : Mem} (h : St q ws_X12_must__120_w2 as_X12_must__120_w2 M0 M) : rd M 126 1 = rd M0 126 1 := St.kp h (by decide) (by decide) (by decide)
set_option maxRecDepth 100000 in
set_option maxHeartbeats 4000000 in
theorem sp_X12_part_120 {l : Launch} {K : EC} {M0 : Mem} (hI : In Pm1 M0) (en_120_37 : rd M0 120 37 = 1)   (hq0 : rd M0 120 3 = 0 ∨ rd M0 120 4 + 1 ≤ rd M0 120 5) (hq1 : rd M0 120 4 ≤ rd M0 120 5) (hq2 : rd M0 120 3 ≠ 1 ∨ rd M0 120 4 + 2 ≤ rd M0 120 5 ∨ rd M0 120 7 < 256) (hq3 : rd M0 120 3 ≠ 0) (hq4 : rd M0 120 8 = 0) : Tr l K 3 mX12_part 0 [(0, (2, 120))] [] M0 (q_X12_part_120 M0) := by
  have hS : St Pm1 ws_X12_part_120 as_X12_part_120 M0 M0 := St.rf hI
  obtain ⟨g120_8, eg120_8⟩ : ∃ v, rd M0 120 8 = v := ⟨_, rfl⟩
  have bg120_8 : 0 ≤ g120_8 ∧ g120_8 ≤ 5 := by rw [← eg120_8]; exact ir_120_8 hI.2.1
  obtain ⟨g120_3, eg120_3⟩ : ∃ v, rd M0 120 3 = v := ⟨_, rfl⟩
  have bg120_3 : 0 ≤ g120_3 ∧ g120_3 ≤ 3 := by rw [← eg120_3]; exact ir_120_3 hI.2.1
  obtain ⟨g120_4, eg120_4⟩ : ∃ v, rd M0 120 4 = v := ⟨_, rfl⟩
  have bg120_4 : 0 ≤ g120_4 ∧ g120_4 ≤ 900 := by rw [← eg120_4]; exact ir_120_4 hI.2.1
  obtain ⟨g120_5, eg120_5⟩ : ∃ v, rd M0 120 5 = v := ⟨_, rfl⟩
  have bg120_5 : 0 ≤ g120_5 ∧ g120_5 ≤ 900 := by rw [← eg120_5]; exact ir_120_5 hI.2.1
  obtain ⟨g120_7, eg120_7⟩ : ∃ v, rd M0 120 7 = v := ⟨_, rfl⟩
  have bg120_7 : (-9223372036854775808) ≤ g120_7 ∧ g120_7 ≤ 9223372036854775807 := by rw [← eg120_7]; exact ir_120_7 hI.2.1
  obtain ⟨g9010_0, eg9010_0⟩ : ∃ v, tav M0 = v := ⟨_, rfl⟩
  have bg9010_0 : (-1) ≤ g9010_0 ∧ g9010_0 ≤ 1800 := by rw [← eg9010_0]; exact (tav_b hI.2.1)
  obtain ⟨g126_1, eg126_1⟩ : ∃ v, rd M0 126 1 = v := ⟨_, rfl⟩
  have bg126_1 : 0 ≤ g126_1 ∧ g126_1 ≤ 6 := by rw [← eg126_1]; exact ir_126_1 hI.2.1
  replace hq0 := hd_i hq0
  replace hq2 := hd_i hq2
  replace hq3 := hd_i hq3
  refine Tr.aload_n (pc := 0) (i := 0) d_X12_part_0 rfl rfl ?_
  refine Tr.aload_n (pc := 1) (i := 0) d_X12_part_1 rfl rfl ?_
  refine Tr.getf (pc := 2) d_X12_part_2 f_12_63 (by decide) (by decide) (ty_120 hS.1.1) ?_
  refine Tr.tp 126 (fx_120_17 hS.1.1) ?_
  refine Tr.aload_n (pc := 5) (i := 0) d_X12_part_5 rfl rfl ?_
  refine Tr.getf (pc := 6) d_X12_part_6 f_12_124 (by decide) (by decide) (ty_120 hS.1.1) ?_
  refine Tr.tp 1 ((kp_X12_part_120_120_37 hS).trans en_120_37) ?_
  refine Tr.iald (pc := 9) d_X12_part_9 (ty_126 hS.1.1) (by omega) (by omega) ?_
  refine Tr.tp g126_1 eg126_1 ?_
  refine Tr.bipush (pc := 10) d_X12_part_10 rfl (by decide) ?_
  have J20 : ∀ (M : Mem) (q20_1 : Int), St Pm1 ws_X12_part_120 as_X12_part_120 M0 M → (0 ≤ q20_1 ∧ q20_1 ≤ 1) → rd M 120 3 = g120_3 → rd M 120 4 = g120_4 → rd M 120 5 = g120_5 → rd M 120 7 = g120_7 → rd M 120 8 = g120_8 → rd M 126 1 = g126_1 → tav M = g9010_0 → ((q20_1 = 1 ∧ g126_1 = 6) ∨ (q20_1 = 0 ∧ g126_1 ≠ 6)) → Tr l K 3 mX12_part 20 [(0, (2, 120))] [(0, q20_1), (2, 120)] M (q_X12_part_120 M0) := by
    intro M q20_1 hS bq20_1 k20_120_3 k20_120_4 k20_120_5 k20_120_7 k20_120_8 k20_126_1 k20_9010_0 t20_0
    replace t20_0 := hd_i t20_0
    refine Tr.callV (pc := 20) (as := [_]) d_X12_part_20 s_12_505 ok_X12_counts rfl rfl (Nat.le_of_ble_eq_true rfl) (Nat.le_of_ble_eq_true rfl) (by decide) (ty_120 hS.1.1) ?_
    refine Tr.imp (Tr.deep (by decide) (ns_X12_counts_120 (G120_3 := g120_3) (G120_4 := g120_4) (G120_5 := g120_5) (G120_7 := g120_7) (G120_8 := g120_8) (G9010_0 := g9010_0) hS.1 (k20_120_3) (k20_120_4) (k20_120_5) (k20_120_7) (k20_120_8) (k20_9010_0) q20_1 (by and_intros <;> omega) (by first | exact (hd_o hq0) | exact (hd_o hq0).elim (fun h1 => by omega) (fun h1 => by omega)) (by omega) (by first | exact (hd_o hq2) | exact (hd_o hq2).elim (fun h1 => by omega) (fun h1 => h1.elim (fun h1 => by omega) (fun h1 => by omega))) (by have h1 := (hd_o hq3); omega))) ?_
    rintro M20 _ ⟨h20, s20_120_3, s20_120_4, s20_120_5, s20_120_7, s20_120_8, s20_9010_0, es20_120_3, bs20_120_3, es20_120_4, bs20_120_4, es20_120_5, bs20_120_5, es20_120_7, bs20_120_7, es20_120_8, bs20_120_8, es20_9010_0, bs20_9010_0, rfl, z20_0, z20_1, z20_2, z20_3, z20_4, z20_5, z20_6⟩
    have hS := St.tr hS h20 (by decide) (by decide)
    refine Tr.sc [] rfl ?_
    refine Tr.aload_n (pc := 23) (i := 0) d_X12_part_23 rfl rfl ?_
    refine Tr.getf (pc := 24) d_X12_part_24 f_12_36 (by decide) (by decide) (ty_120 hS.1.1) ?_
    refine Tr.tp s20_120_8 es20_120_8 ?_
    refine Tr.if_le (pc := 27) (tgt := 31) d_X12_part_27 rfl (fun c27 => ?_) (fun c27 => ?_)
    · refine Tr.bipush (pc := 31) d_X12_part_31 rfl (by decide) ?_
      refine Tr.aload_n (pc := 33) (i := 0) d_X12_part_33 rfl rfl ?_
      refine Tr.getf (pc := 34) d_X12_part_34 f_12_124 (by decide) (by decide) (ty_120 hS.1.1) ?_
      refine Tr.tp 1 ((kp_X12_part_120_120_37 hS).trans en_120_37) ?_
      refine Tr.imul (pc := 37) d_X12_part_37 ?_
      refine Tr.tp 6 (by decide) ?_
      refine Tr.aload_n (pc := 38) (i := 0) d_X12_part_38 rfl rfl ?_
      refine Tr.getf (pc := 39) d_X12_part_39 f_12_63 (by decide) (by decide) (ty_120 hS.1.1) ?_
      refine Tr.tp 126 (fx_120_17 hS.1.1) ?_
      refine Tr.aload_n (pc := 42) (i := 0) d_X12_part_42 rfl rfl ?_
      refine Tr.getf (pc := 43) d_X12_part_43 f_12_124 (by decide) (by decide) (ty_120 hS.1.1) ?_
      refine Tr.tp 1 ((kp_X12_part_120_120_37 hS).trans en_120_37) ?_
      refine Tr.iald (pc := 46) d_X12_part_46 (ty_126 hS.1.1) (by omega) (by omega) ?_
      refine Tr.tp g126_1 ((kp_X12_counts_120_126_1 h20).trans k20_126_1) ?_
      refine Tr.iadd (pc := 47) d_X12_part_47 ?_
      refine Tr.tp (g126_1 + 6) ((w32_id (by and_intros <;> omega)).trans (by omega)) ?_
      refine Tr.istore_n (pc := 48) (i := 1) (ls2 := [(1, (0, (g126_1 + 6))), (0, (2, 120))]) d_X12_part_48 rfl (by decide) rfl ?_
      refine Tr.aload_n (pc := 49) (i := 0) d_X12_part_49 rfl rfl ?_
      refine Tr.getf (pc := 50) d_X12_part_50 f_12_75 (by decide) (by decide) (ty_120 hS.1.1) ?_
      refine Tr.tp 130 (fx_120_21 hS.1.1) ?_
      refine Tr.iload_n (pc := 53) (i := 1) d_X12_part_53 rfl rfl ?_
      refine Tr.aload_n (pc := 54) (i := 0) d_X12_part_54 rfl rfl ?_
      refine Tr.callV (pc := 55) (as := []) d_X12_part_55 s_12_508 ok_X12_fresh rfl rfl (Nat.le_of_ble_eq_true rfl) (Nat.le_of_ble_eq_true rfl) (by decide) (ty_120 hS.1.1) ?_
      refine Tr.imp (Tr.deep (by decide) (ns_X12_fresh_120 (G120_3 := s20_120_3) (G120_4 := s20_120_4) (G120_5 := s20_120_5) (G120_7 := s20_120_7) (G120_8 := s20_120_8) (G9010_0 := s20_9010_0) hS.1 (es20_120_3) (es20_120_4) (es20_120_5) (es20_120_7) (es20_120_8) (es20_9010_0) ((kp_X12_part_120_120_37 hS).trans en_120_37) (by first | exact (hd_o z20_0) | exact (hd_o z20_0).elim (fun h1 => by omega) (fun h1 => by omega)) (by omega) (by first | exact (hd_o z20_2) | exact (hd_o z20_2).elim (fun h1 => by omega) (fun h1 => h1.elim (fun h1 => by omega) (fun h1 => by omega))))) ?_
      rintro M55 _ ⟨h55, s55_120_3, s55_120_4, s55_120_5, s55_120_7, s55_120_8, s55_9010_0, es55_120_3, bs55_120_3, es55_120_4, bs55_120_4, es55_120_5, bs55_120_5, es55_120_7, bs55_120_7, es55_120_8, bs55_120_8, es55_9010_0, bs55_9010_0, r55, rfl, lr55, ur55, z55_0, z55_1, z55_2, z55_3, z55_4, z55_5⟩
      have hS := St.tr hS h55 (by decide) (by decide)
      refine Tr.sc [(1, r55), (0, (g126_1 + 6)), (2, 130)] rfl ?_
      refine Tr.lastS (pc := 58) (P := St Pm1 ws_X12_part_120 as_X12_part_120 M0) d_X12_part_58 (ty_130 hS.1.1) (by omega) (by exact (hd_o t20_0).elim (fun h1 => (hd_o z20_6).elim (fun h2 => by omega) (fun h2 => by omega)) (fun h1 => (ne_o h1.2).elim (fun h2 => by omega) (fun h2 => by omega))) (sa_130 hS (by decide) (by omega) (Pm1.of hS.1.2.2.2.2 (fun _ => rd_wb _ rfl) (fun _ => rd_wb _ rfl) (fun _ => rd_wb _ rfl) (fun _ => rd_wb _ rfl) (fun _ => rd_wb _ rfl) (fun _ => rd_wb _ rfl) (fun _ => rd_wb _ rfl) (fun _ => rd_wb _ rfl) (fun _ => rd_wb _ rfl) (fun _ => rd_wb _ rfl) (rd_wb _ rfl) (rd_wb _ rfl) (rd_wb _ rfl) (rd_wb _ rfl) (rd_wb _ rfl) (rd_wb _ rfl) (rd_wb _ rfl) (rd_wb _ rfl) (rd_wb _ rfl) (rd_wb _ rfl) (rd_wb _ rfl))) (fun M58 hS w58 => ?_)
      refine Tr.aload_n (pc := 59) (i := 0) d_X12_part_59 rfl rfl ?_
      refine Tr.ldc2 (pc := 60) d_X12_part_60 kl_12_405 (by decide) ?_
      refine Tr.callV (pc := 63) (as := [_]) d_X12_part_63 s_12_512 ok_X12_must_ rfl rfl (Nat.le_of_ble_eq_true rfl) (Nat.le_of_ble_eq_true rfl) (by decide) (ty_120 hS.1.1) ?_
      refine Tr.imp (Tr.deep (by decide) (ns_X12_must__120 (G120_3 := s55_120_3) (G120_4 := s55_120_4) (G120_5 := s55_120_5) (G120_7 := s55_120_7) (G120_8 := s55_120_8) (G9010_0 := s55_9010_0) hS.1 (((Wr.b w58 rfl).trans es55_120_3)) (((Wr.b w58 rfl).trans es55_120_4)) (((Wr.b w58 rfl).trans es55_120_5)) (((Wr.b w58 rfl).trans es55_120_7)) (((Wr.b w58 rfl).trans es55_120_8)) (((tav_of ((Wr.b w58 rfl).trans rfl) ((Wr.b w58 rfl).trans rfl)).trans es55_9010_0)) 495739823472 (by omega) (by first | exact (hd_o z55_0) | exact (hd_o z55_0).elim (fun h1 => by omega) (fun h1 => by omega)) (by omega) (by first | exact (hd_o z55_2) | exact (hd_o z55_2).elim (fun h1 => by omega) (fun h1 => h1.elim (fun h1 => by omega) (fun h1 => by omega))))) ?_
      rintro M63 _ ⟨h63, s63_120_3, s63_120_4, s63_120_5, s63_120_7, s63_120_8, s63_9010_0, es63_120_3, bs63_120_3, es63_120_4, bs63_120_4, es63_120_5, bs63_120_5, es63_120_7, bs63_120_7, es63_120_8, bs63_120_8, es63_9010_0, bs63_9010_0, rfl, z63_0, z63_1, z63_2, z63_3, z63_4, z63_5⟩
      have hS := St.tr hS h63 (by decide) (by decide)
      refine Tr.sc [] rfl ?_
      refine Tr.aload_n (pc := 66) (i := 0) d_X12_part_66 rfl rfl ?_
      refine Tr.getf (pc := 67) d_X12_part_67 f_12_79 (by decide) (by decide) (ty_120 hS.1.1) ?_
      refine Tr.tp 131 (fx_120_22 hS.1.1) ?_
      refine Tr.bipush (pc := 70) d_X12_part_70 rfl (by decide) ?_
      refine Tr.iload_n (pc := 72) (i := 1) d_X12_part_72 rfl rfl ?_
      refine Tr.imul (pc := 73) d_X12_part_73 ?_
      refine Tr.tp (6 * g126_1 + 36) ((w32_id (by and_intros <;> omega)).trans (by omega)) ?_
      refine Tr.aload_n (pc := 74) (i := 0) d_X12_part_74 rfl rfl ?_
      refine Tr.iconst (pc := 75) d_X12_part_75 (by decide) ?_
      refine Tr.sipush (pc := 76) d_X12_part_76 rfl (by decide) ?_
      refine Tr.callV (pc := 79) (as := [_, _]) d_X12_part_79 s_12_516 ok_X12_number rfl rfl (Nat.le_of_ble_eq_true rfl) (Nat.le_of_ble_eq_true rfl) (by decide) (ty_120 hS.1.1) ?_
      refine Tr.imp (Tr.deep (by decide) (ns_X12_number_120 (G120_3 := s63_120_3) (G120_4 := s63_120_4) (G120_5 := s63_120_5) (G120_7 := s63_120_7) (G120_8 := s63_120_8) (G9010_0 := s63_9010_0) hS.1 (es63_120_3) (es63_120_4) (es63_120_5) (es63_120_7) (es63_120_8) (es63_9010_0) 0 (by omega) 999 (by omega) (by first | exact (hd_o z63_0) | exact (hd_o z63_0).elim (fun h1 => by omega) (fun h1 => by omega)) (by omega) (by first | exact (hd_o z63_2) | exact (hd_o z63_2).elim (fun h1 => by omega) (fun h1 => h1.elim (fun h1 => by omega) (fun h1 => by omega))))) ?_
      rintro M79 _ ⟨h79, s79_120_3, s79_120_4, s79_120_5, s79_120_7, s79_120_8, s79_9010_0, es79_120_3, bs79_120_3, es79_120_4, bs79_120_4, es79_120_5, bs79_120_5, es79_120_7, bs79_120_7, es79_120_8, bs79_120_8, es79_9010_0, bs79_9010_0, r79, rfl, lr79, ur79, z79_0, z79_1, z79_2, z79_3, z79_4, z79_5, z79_6⟩
      have hS := St.tr hS h79 (by decide) (by decide)
      refine Tr.sc [(0, r79), (0, (6 * g126_1 + 36)), (2, 131)] rfl ?_
      have kx_126_1 : rd M79 126 1 = g126_1 := ((kp_X12_number_120_126_1 h79).trans ((kp_X12_must__120_126_1 h63).trans ((Wr.b w58 rfl).trans ((kp_X12_fresh_120_126_1 h55).trans ((kp_X12_counts_120_126_1 h20).trans k20_126_1)))))
      refine Tr.iastS (pc := 82) (P := St Pm1 ws_X12_part_120 as_X12_part_120 M0) d_X12_part_82 (ty_131 hS.1.1) (by omega) (by exact (hd_o t20_0).elim (fun h1 => (hd_o z20_6).elim (fun h2 => by omega) (fun h2 => by omega)) (fun h1 => (ne_o h1.2).elim (fun h2 => by omega) (fun h2 => by omega))) (sa_131 hS (by decide) (by and_intros <;> omega) (Pm1_rate hS.1.2.2.2.2 hS.1.2.1 (by omega) (by exact (hd_o t20_0).elim (fun h1 => (hd_o z20_6).elim (fun h2 => by omega) (fun h2 => by omega)) (fun h1 => (ne_o h1.2).elim (fun h2 => by omega) (fun h2 => by omega))))) (fun M82 hS w82 => ?_)
      refine Tr.aload_n (pc := 83) (i := 0) d_X12_part_83 rfl rfl ?_
      refine Tr.ldc2 (pc := 84) d_X12_part_84 kl_12_407 (by decide) ?_
      refine Tr.callV (pc := 87) (as := [_]) d_X12_part_87 s_12_512 ok_X12_must_ rfl rfl (Nat.le_of_ble_eq_true rfl) (Nat.le_of_ble_eq_true rfl) (by decide) (ty_120 hS.1.1) ?_
      refine Tr.imp (Tr.deep (by decide) (ns_X12_must__120_w1 (G120_3 := s79_120_3) (G120_4 := s79_120_4) (G120_5 := s79_120_5) (G120_7 := s79_120_7) (G120_8 := s79_120_8) (G9010_0 := s79_9010_0) hS.1 (((Wr.b w82 rfl).trans es79_120_3)) (((Wr.b w82 rfl).trans es79_120_4)) (((Wr.b w82 rfl).trans es79_120_5)) (((Wr.b w82 rfl).trans es79_120_7)) (((Wr.b w82 rfl).trans es79_120_8)) (((tav_of ((Wr.b w82 rfl).trans rfl) ((Wr.b w82 rfl).trans rfl)).trans es79_9010_0)) 2002873189 (by omega) (by first | exact (hd_o z79_0) | exact (hd_o z79_0).elim (fun h1 => by omega) (fun h1 => by omega)) (by omega) (by first | exact (hd_o z79_2) | exact (hd_o z79_2).elim (fun h1 => by omega) (fun h1 => h1.elim (fun h1 => by omega) (fun h1 => by omega))))) ?_
      rintro M87 _ ⟨h87, s87_120_3, s87_120_4, s87_120_5, s87_120_7, s87_120_8, s87_9010_0, es87_120_3, bs87_120_3, es87_120_4, bs87_120_4, es87_120_5, bs87_120_5, es87_120_7, bs87_120_7, es87_120_8, bs87_120_8, es87_9010_0, bs87_9010_0, rfl, z87_0, z87_1, z87_2, z87_3, z87_4, z87_5⟩
      have hS := St.tr hS h87 (by decide) (by decide)
      refine Tr.sc [] rfl ?_
      refine Tr.aload_n (pc := 90) (i := 0) d_X12_part_90 rfl rfl ?_
      refine Tr.getf (pc := 91) d_X12_part_91 f_12_79 (by decide) (by decide) (ty_120 hS.1.1) ?_
      refine Tr.tp 131 (fx_120_22 hS.1.1) ?_
      refine Tr.bipush (pc := 94) d_X12_part_94 rfl (by decide) ?_
      refine Tr.iload_n (pc := 96) (i := 1) d_X12_part_96 rfl rfl ?_
      refine Tr.imul (pc := 97) d_X12_part_97 ?_
      refine Tr.tp (6 * g126_1 + 36) ((w32_id (by and_intros <;> omega)).trans (by omega)) ?_
      refine Tr.iconst (pc := 98) d_X12_part_98 (by decide) ?_
      refine Tr.iadd (pc := 99) d_X12_part_99 ?_
      refine Tr.tp (6 * g126_1 + 37) ((w32_id (by and_intros <;> omega)).trans (by omega)) ?_
      refine Tr.aload_n (pc := 100) (i := 0) d_X12_part_100 rfl rfl ?_
      refine Tr.iconst (pc := 101) d_X12_part_101 (by decide) ?_
      refine Tr.bipush (pc := 102) d_X12_part_102 rfl (by decide) ?_
      refine Tr.callV (pc := 104) (as := [_, _]) d_X12_part_104 s_12_516 ok_X12_number rfl rfl (Nat.le_of_ble_eq_true rfl) (Nat.le_of_ble_eq_true rfl) (by decide) (ty_120 hS.1.1) ?_
      refine Tr.imp (Tr.deep (by decide) (ns_X12_number_120 (G120_3 := s87_120_3) (G120_4 := s87_120_4) (G120_5 := s87_120_5) (G120_7 := s87_120_7) (G120_8 := s87_120_8) (G9010_0 := s87_9010_0) hS.1 (es87_120_3) (es87_120_4) (es87_120_5) (es87_120_7) (es87_120_8) (es87_9010_0) 0 (by omega) 20 (by omega) (by first | exact (hd_o z87_0) | exact (hd_o z87_0).elim (fun h1 => by omega) (fun h1 => by omega)) (by omega) (by first | exact (hd_o z87_2) | exact (hd_o z87_2).elim (fun h1 => by omega) (fun h1 => h1.elim (fun h1 => by omega) (fun h1 => by omega))))) ?_
      rintro M104 _ ⟨h104, s104_120_3, s104_120_4, s104_120_5, s104_120_7, s104_120_8, s104_9010_0, es104_120_3, bs104_120_3, es104_120_4, bs104_120_4, es104_120_5, bs104_120_5, es104_120_7, bs104_120_7, es104_120_8, bs104_120_8, es104_9010_0, bs104_9010_0, r104, rfl, lr104, ur104, z104_0, z104_1, z104_2, z104_3, z104_4, z104_5, z104_6⟩
      have hS := St.tr hS h104 (by decide) (by decide)
      refine Tr.sc [(0, r104), (0, (6 * g126_1 + 37)), (2, 131)] rfl ?_
      have kx_126_1 : rd M104 126 1 = g126_1 := ((kp_X12_number_120_126_1 h104).trans ((kp_X12_must__120_w1_126_1 h87).trans ((Wr.b w82 rfl).trans ((kp_X12_number_120_126_1 h79).trans ((kp_X12_must__120_126_1 h63).trans ((Wr.b w58 rfl).trans ((kp_X12_fresh_120_126_1 h55).trans ((kp_X12_counts_120_126_1 h20).trans k20_126_1))))))))
      refine Tr.iastS (pc := 107) (P := St Pm1 ws_X12_part_120 as_X12_part_120 M0) d_X12_part_107 (ty_131 hS.1.1) (by omega) (by exact (hd_o t20_0).elim (fun h1 => (hd_o z20_6).elim (fun h2 => by omega) (fun h2 => by omega)) (fun h1 => (ne_o h1.2).elim (fun h2 => by omega) (fun h2 => by omega))) (sa_131 hS (by decide) (by and_intros <;> omega) (Pm1_rate hS.1.2.2.2.2 hS.1.2.1 (by omega) (by exact (hd_o t20_0).elim (fun h1 => (hd_o z20_6).elim (fun h2 => by omega) (fun h2 => by omega)) (fun h1 => (ne_o h1.2).elim (fun h2 => by omega) (fun h2 => by omega))))) (fun M107 hS w107 => ?_)
      refine Tr.aload_n (pc := 108) (i := 0) d_X12_part_108 rfl rfl ?_
      refine Tr.getf (pc := 109) d_X12_part_109 f_12_79 (by decide) (by decide) (ty_120 hS.1.1) ?_
      refine Tr.tp 131 (fx_120_22 hS.1.1) ?_
      refine Tr.bipush (pc := 112) d_X12_part_112 rfl (by decide) ?_
      refine Tr.iload_n (pc := 114) (i := 1) d_X12_part_114 rfl rfl ?_
      refine Tr.imul (pc := 115) d_X12_part_115 ?_
      refine Tr.tp (6 * g126_1 + 36) ((w32_id (by and_intros <;> omega)).trans (by omega)) ?_
      refine Tr.iconst (pc := 116) d_X12_part_116 (by decide) ?_
      refine Tr.iadd (pc := 117) d_X12_part_117 ?_
      refine Tr.tp (6 * g126_1 + 38) ((w32_id (by and_intros <;> omega)).trans (by omega)) ?_
      refine Tr.aload_n (pc := 118) (i := 0) d_X12_part_118 rfl rfl ?_
      refine Tr.iconst (pc := 119) d_X12_part_119 (by decide) ?_
      refine Tr.sipush (pc := 120) d_X12_part_120 rfl (by decide) ?_
      refine Tr.callV (pc := 123) (as := [_, _]) d_X12_part_123 s_12_516 ok_X12_number rfl rfl (Nat.le_of_ble_eq_true rfl) (Nat.le_of_ble_eq_true rfl) (by decide) (ty_120 hS.1.1) ?_
      refine Tr.imp (Tr.deep (by decide) (ns_X12_number_120 (G120_3 := s104_120_3) (G120_4 := s104_120_4) (G120_5 := s104_120_5) (G120_7 := s104_120_7) (G120_8 := s104_120_8) (G9010_0 := s104_9010_0) hS.1 (((Wr.b w107 rfl).trans es104_120_3)) (((Wr.b w107 rfl).trans es104_120_4)) (((Wr.b w107 rfl).trans es104_120_5)) (((Wr.b w107 rfl).trans es104_120_7)) (((Wr.b w107 rfl).trans es104_120_8)) (((tav_of ((Wr.b w107 rfl).trans rfl) ((Wr.b w107 rfl).trans rfl)).trans es104_9010_0)) 0 (by omega) 999 (by omega) (by first | exact (hd_o z104_0) | exact (hd_o z104_0).elim (fun h1 => by omega) (fun h1 => by omega)) (by omega) (by first | exact (hd_o z104_2) | exact (hd_o z104_2).elim (fun h1 => by omega) (fun h1 => h1.elim (fun h1 => by omega) (fun h1 => by omega))))) ?_
      rintro M123 _ ⟨h123, s123_120_3, s123_120_4, s123_120_5, s123_120_7, s123_120_8, s123_9010_0, es123_120_3, bs123_120_3, es123_120_4, bs123_120_4, es123_120_5, bs123_120_5, es123_120_7, bs123_120_7, es123_120_8, bs123_120_8, es123_9010_0, bs123_9010_0, r123, rfl, lr123, ur123, z123_0, z123_1, z123_2, z123_3, z123_4, z123_5, z123_6⟩
      have hS := St.tr hS h123 (by decide) (by decide)
      refine Tr.sc [(0, r123), (0, (6 * g126_1 + 38)), (2, 131)] rfl ?_
      have kx_126_1 : rd M123 126 1 = g126_1 := ((kp_X12_number_120_126_1 h123).trans ((Wr.b w107 rfl).trans ((kp_X12_number_120_126_1 h104).trans ((kp_X12_must__120_w1_126_1 h87).trans ((Wr.b w82 rfl).trans ((kp_X12_number_120_126_1 h79).trans ((kp_X12_must__120_126_1 h63).trans ((Wr.b w58 rfl).trans ((kp_X12_fresh_120_126_1 h55).trans ((kp_X12_counts_120_126_1 h20).trans k20_126_1))))))))))
      refine Tr.iastS (pc := 126) (P := St Pm1 ws_X12_part_120 as_X12_part_120 M0) d_X12_part_126 (ty_131 hS.1.1) (by omega) (by exact (hd_o t20_0).elim (fun h1 => (hd_o z20_6).elim (fun h2 => by omega) (fun h2 => by omega)) (fun h1 => (ne_o h1.2).elim (fun h2 => by omega) (fun h2 => by omega))) (sa_131 hS (by decide) (by and_intros <;> omega) (Pm1_rate hS.1.2.2.2.2 hS.1.2.1 (by omega) (by exact (hd_o t20_0).elim (fun h1 => (hd_o z20_6).elim (fun h2 => by omega) (fun h2 => by omega)) (fun h1 => (ne_o h1.2).elim (fun h2 => by omega) (fun h2 => by omega))))) (fun M126 hS w126 => ?_)
      refine Tr.aload_n (pc := 127) (i := 0) d_X12_part_127 rfl rfl ?_
      refine Tr.ldc2 (pc := 128) d_X12_part_128 kl_12_409 (by decide) ?_
      refine Tr.callV (pc := 131) (as := [_]) d_X12_part_131 s_12_512 ok_X12_must_ rfl rfl (Nat.le_of_ble_eq_true rfl) (Nat.le_of_ble_eq_true rfl) (by decide) (ty_120 hS.1.1) ?_
      refine Tr.imp (Tr.deep (by decide) (ns_X12_must__120_w2 (G120_3 := s123_120_3) (G120_4 := s123_120_4) (G120_5 := s123_120_5) (G120_7 := s123_120_7) (G120_8 := s123_120_8) (G9010_0 := s123_9010_0) hS.1 (((Wr.b w126 rfl).trans es123_120_3)) (((Wr.b w126 rfl).trans es123_120_4)) (((Wr.b w126 rfl).trans es123_120_5)) (((Wr.b w126 rfl).trans es123_120_7)) (((Wr.b w126 rfl).trans es123_120_8)) (((tav_of ((Wr.b w126 rfl).trans rfl) ((Wr.b w126 rfl).trans rfl)).trans es123_9010_0)) 28526 (by omega) (by first | exact (hd_o z123_0) | exact (hd_o z123_0).elim (fun h1 => by omega) (fun h1 => by omega)) (by omega) (by first | exact (hd_o z123_2) | exact (hd_o z123_2).elim (fun h1 => by omega) (fun h1 => h1.elim (fun h1 => by omega) (fun h1 => by omega))))) ?_
      rintro M131 _ ⟨h131, s131_120_3, s131_120_4, s131_120_5, s131_120_7, s131_120_8, s131_9010_0, es131_120_3, bs131_120_3, es131_120_4, bs131_120_4, es131_120_5, bs131_120_5, es131_120_7, bs131_120_7, es131_120_8, bs131_120_8, es131_9010_0, bs131_9010_0, rfl, z131_0, z131_1, z131_2, z131_3, z131_4, z131_5⟩
      have hS := St.tr hS h131 (by decide) (by decide)
      refine Tr.sc [] rfl ?_
      refine Tr.aload_n (pc := 134) (i := 0) d_X12_part_134 rfl rfl ?_
      refine Tr.getf (pc := 135) d_X12_part_135 f_12_79 (by decide) (by decide) (ty_120 hS.1.1) ?_
      refine Tr.tp 131 (fx_120_22 hS.1.1) ?_
      refine Tr.bipush (pc := 138) d_X12_part_138 rfl (by decide) ?_
      refine Tr.iload_n (pc := 140) (i := 1) d_X12_part_140 rfl rfl ?_
      refine Tr.imul (pc := 141) d_X12_part_141 ?_
      refine Tr.tp (6 * g126_1 + 36) ((w32_id (by and_intros <;> omega)).trans (by omega)) ?_
      refine Tr.iconst (pc := 142) d_X12_part_142 (by decide) ?_
      refine Tr.iadd (pc := 143) d_X12_part_143 ?_
      refine Tr.tp (6 * g126_1 + 39) ((w32_id (by and_intros <;> omega)).trans (by omega)) ?_
      refine Tr.aload_n (pc := 144) (i := 0) d_X12_part_144 rfl rfl ?_
      refine Tr.iconst (pc := 145) d_X12_part_145 (by decide) ?_
      refine Tr.sipush (pc := 146) d_X12_part_146 rfl (by decide) ?_
      refine Tr.callV (pc := 149) (as := [_, _]) d_X12_part_149 s_12_516 ok_X12_number rfl rfl (Nat.le_of_ble_eq_true rfl) (Nat.le_of_ble_eq_true rfl) (by decide) (ty_120 hS.1.1) ?_
      refine Tr.imp (Tr.deep (by decide) (ns_X12_number_120 (G120_3 := s131_120_3) (G120_4 := s131_120_4) (G120_5 := s131_120_5) (G120_7 := s131_120_7) (G120_8 := s131_120_8) (G9010_0 := s131_9010_0) hS.1 (es131_120_3) (es131_120_4) (es131_120_5) (es131_120_7) (es131_120_8) (es131_9010_0) 0 (by omega) 999 (by omega) (by first | exact (hd_o z131_0) | exact (hd_o z131_0).elim (fun h1 => by omega) (fun h1 => by omega)) (by omega) (by first | exact (hd_o z131_2) | exact (hd_o z131_2).elim (fun h1 => by omega) (fun h1 => h1.elim (fun h1 => by omega) (fun h1 => by omega))))) ?_
      rintro M149 _ ⟨h149, s149_120_3, s149_120_4, s149_120_5, s149_120_7, s149_120_8, s149_9010_0, es149_120_3, bs149_120_3, es149_120_4, bs149_120_4, es149_120_5, bs149_120_5, es149_120_7, bs149_120_7, es149_120_8, bs149_120_8, es149_9010_0, bs149_9010_0, r149, rfl, lr149, ur149, z149_0, z149_1, z149_2, z149_3, z149_4, z149_5, z149_6⟩
      have hS := St.tr hS h149 (by decide) (by decide)
      refine Tr.sc [(0, r149), (0, (6 * g126_1 + 39)), (2, 131)] rfl ?_
      have kx_126_1 : rd M149 126 1 = g126_1 := ((kp_X12_number_120_126_1 h149).trans ((kp_X12_must__120_w2_126_1 h131).trans ((Wr.b w126 rfl).trans ((kp_X12_number_120_126_1 h123).trans ((Wr.b w107 rfl).trans ((kp_X12_number_120_126_1 h104).trans ((kp_X12_must__120_w1_126_1 h87).trans ((Wr.b w82 rfl).trans ((kp_X12_number_120_126_1 h79).trans ((kp_X12_must__120_126_1 h63).trans ((Wr.b w58 rfl).trans ((kp_X12_fresh_120_126_1 h55).trans ((kp_X12_counts_120_126_1 h20).trans k20_126_1)))))))))))))
      refine Tr.iastS (pc := 152) (P := St Pm1 ws_X12_part_120 as_X12_part_120 M0) d_X12_part_152 (ty_131 hS.1.1) (by omega) (by exact (hd_o t20_0).elim (fun h1 => (hd_o z20_6).elim (fun h2 => by omega) (fun h2 => by omega)) (fun h1 => (ne_o h1.2).elim (fun h2 => by omega) (fun h2 => by omega))) (sa_131 hS (by decide) (by and_intros <;> omega) (Pm1_rate hS.1.2.2.2.2 hS.1.2.1 (by omega) (by exact (hd_o t20_0).elim (fun h1 => (hd_o z20_6).elim (fun h2 => by omega) (fun h2 => by omega)) (fun h1 => (ne_o h1.2).elim (fun h2 => by omega) (fun h2 => by omega))))) (fun M152 hS w152 => ?_)
      refine Tr.aload_n (pc := 153) (i := 0) d_X12_part_153 rfl rfl ?_
      refine Tr.ldc2 (pc := 154) d_X12_part_154 kl_12_411 (by decide) ?_
      refine Tr.callV (pc := 157) (as := [_]) d_X12_part_157 s_12_512 ok_X12_must_ rfl rfl (Nat.le_of_ble_eq_true rfl) (Nat.le_of_ble_eq_true rfl) (by decide) (ty_120 hS.1.1) ?_
      refine Tr.imp (Tr.deep (by decide) (ns_X12_must__120_w1 (G120_3 := s149_120_3) (G120_4 := s149_120_4) (G120_5 := s149_120_5) (G120_7 := s149_120_7) (G120_8 := s149_120_8) (G9010_0 := s149_9010_0) hS.1 (((Wr.b w152 rfl).trans es149_120_3)) (((Wr.b w152 rfl).trans es149_120_4)) (((Wr.b w152 rfl).trans es149_120_5)) (((Wr.b w152 rfl).trans es149_120_7)) (((Wr.b w152 rfl).trans es149_120_8)) (((tav_of ((Wr.b w152 rfl).trans rfl) ((Wr.b w152 rfl).trans rfl)).trans es149_9010_0)) 2003792491 (by omega) (by first | exact (hd_o z149_0) | exact (hd_o z149_0).elim (fun h1 => by omega) (fun h1 => by omega)) (by omega) (by first | exact (hd_o z149_2) | exact (hd_o z149_2).elim (fun h1 => by omega) (fun h1 => h1.elim (fun h1 => by omega) (fun h1 => by omega))))) ?_
      rintro M157 _ ⟨h157, s157_120_3, s157_120_4, s157_120_5, s157_120_7, s157_120_8, s157_9010_0, es157_120_3, bs157_120_3, es157_120_4, bs157_120_4, es157_120_5, bs157_120_5, es157_120_7, bs157_120_7, es157_120_8, bs157_120_8, es157_9010_0, bs157_9010_0, rfl, z157_0, z157_1, z157_2, z157_3, z157_4, z157_5⟩
      have hS := St.tr hS h157 (by decide) (by decide)
      refine Tr.sc [] rfl ?_
      refine Tr.aload_n (pc := 160) (i := 0) d_X12_part_160 rfl rfl ?_
      refine Tr.getf (pc := 161) d_X12_part_161 f_12_79 (by decide) (by decide) (ty_120 hS.1.1) ?_
      refine Tr.tp 131 (fx_120_22 hS.1.1) ?_
      refine Tr.bipush (pc := 164) d_X12_part_164 rfl (by decide) ?_
      refine Tr.iload_n (pc := 166) (i := 1) d_X12_part_166 rfl rfl ?_
      refine Tr.imul (pc := 167) d_X12_part_167 ?_
      refine Tr.tp (6 * g126_1 + 36) ((w32_id (by and_intros <;> omega)).trans (by omega)) ?_
      refine Tr.iconst (pc := 168) d_X12_part_168 (by decide) ?_
      refine Tr.iadd (pc := 169) d_X12_part_169 ?_
      refine Tr.tp (6 * g126_1 + 40) ((w32_id (by and_intros <;> omega)).trans (by omega)) ?_
      refine Tr.aload_n (pc := 170) (i := 0) d_X12_part_170 rfl rfl ?_
      refine Tr.iconst (pc := 171) d_X12_part_171 (by decide) ?_
      refine Tr.sipush (pc := 172) d_X12_part_172 rfl (by decide) ?_
      refine Tr.callV (pc := 175) (as := [_, _]) d_X12_part_175 s_12_516 ok_X12_number rfl rfl (Nat.le_of_ble_eq_true rfl) (Nat.le_of_ble_eq_true rfl) (by decide) (ty_120 hS.1.1) ?_
      refine Tr.imp (Tr.deep (by decide) (ns_X12_number_120 (G120_3 := s157_120_3) (G120_4 := s157_120_4) (G120_5 := s157_120_5) (G120_7 := s157_120_7) (G120_8 := s157_120_8) (G9010_0 := s157_9010_0) hS.1 (es157_120_3) (es157_120_4) (es157_120_5) (es157_120_7) (es157_120_8) (es157_9010_0) 0 (by omega) 999 (by omega) (by first | exact (hd_o z157_0) | exact (hd_o z157_0).elim (fun h1 => by omega) (fun h1 => by omega)) (by omega) (by first | exact (hd_o z157_2) | exact (hd_o z157_2).elim (fun h1 => by omega) (fun h1 => h1.elim (fun h1 => by omega) (fun h1 => by omega))))) ?_
      rintro M175 _ ⟨h175, s175_120_3, s175_120_4, s175_120_5, s175_120_7, s175_120_8, s175_9010_0, es175_120_3, bs175_120_3, es175_120_4, bs175_120_4, es175_120_5, bs175_120_5, es175_120_7, bs175_120_7, es175_120_8, bs175_120_8, es175_9010_0, bs175_9010_0, r175, rfl, lr175, ur175, z175_0, z175_1, z175_2, z175_3, z175_4, z175_5, z175_6⟩
      have hS := St.tr hS h175 (by decide) (by decide)
      refine Tr.sc [(0, r175), (0, (6 * g126_1 + 40)), (2, 131)] rfl ?_
      have kx_126_1 : rd M175 126 1 = g126_1 := ((kp_X12_number_120_126_1 h175).trans ((kp_X12_must__120_w1_126_1 h157).trans ((Wr.b w152 rfl).trans ((kp_X12_number_120_126_1 h149).trans ((kp_X12_must__120_w2_126_1 h131).trans ((Wr.b w126 rfl).trans ((kp_X12_number_120_126_1 h123).trans ((Wr.b w107 rfl).trans ((kp_X12_number_120_126_1 h104).trans ((kp_X12_must__120_w1_126_1 h87).trans ((Wr.b w82 rfl).trans ((kp_X12_number_120_126_1 h79).trans ((kp_X12_must__120_126_1 h63).trans ((Wr.b w58 rfl).trans ((kp_X12_fresh_120_126_1 h55).trans ((kp_X12_counts_120_126_1 h20).trans k20_126_1))))))))))))))))
      refine Tr.iastS (pc := 178) (P := St Pm1 ws_X12_part_120 as_X12_part_120 M0) d_X12_part_178 (ty_131 hS.1.1) (by omega) (by exact (hd_o t20_0).elim (fun h1 => (hd_o z20_6).elim (fun h2 => by omega) (fun h2 => by omega)) (fun h1 => (ne_o h1.2).elim (fun h2 => by omega) (fun h2 => by omega))) (sa_131 hS (by decide) (by and_intros <;> omega) (Pm1_rate hS.1.2.2.2.2 hS.1.2.1 (by omega) (by exact (hd_o t20_0).elim (fun h1 => (hd_o z20_6).elim (fun h2 => by omega) (fun h2 => by omega)) (fun h1 => (ne_o h1.2).elim (fun h2 => by omega) (fun h2 => by omega))))) (fun M178 hS w178 => ?_)
      refine Tr.aload_n (pc := 179) (i := 0) d_X12_part_179 rfl rfl ?_
      refine Tr.ldc2 (pc := 180) d_X12_part_180 kl_12_413 (by decide) ?_
      refine Tr.callV (pc := 183) (as := [_]) d_X12_part_183 s_12_512 ok_X12_must_ rfl rfl (Nat.le_of_ble_eq_true rfl) (Nat.le_of_ble_eq_true rfl) (by decide) (ty_120 hS.1.1) ?_
      refine Tr.imp (Tr.deep (by decide) (ns_X12_must__120_w1 (G120_3 := s175_120_3) (G120_4 := s175_120_4) (G120_5 := s175_120_5) (G120_7 := s175_120_7) (G120_8 := s175_120_8) (G9010_0 := s175_9010_0) hS.1 (((Wr.b w178 rfl).trans es175_120_3)) (((Wr.b w178 rfl).trans es175_120_4)) (((Wr.b w178 rfl).trans es175_120_5)) (((Wr.b w178 rfl).trans es175_120_7)) (((Wr.b w178 rfl).trans es175_120_8)) (((tav_of ((Wr.b w178 rfl).trans rfl) ((Wr.b w178 rfl).trans rfl)).trans es175_9010_0)) 1952541036 (by omega) (by first | exact (hd_o z175_0) | exact (hd_o z175_0).elim (fun h1 => by omega) (fun h1 => by omega)) (by omega) (by first | exact (hd_o z175_2) | exact (hd_o z175_2).elim (fun h1 => by omega) (fun h1 => h1.elim (fun h1 => by omega) (fun h1 => by omega))))) ?_
      rintro M183 _ ⟨h183, s183_120_3, s183_120_4, s183_120_5, s183_120_7, s183_120_8, s183_9010_0, es183_120_3, bs183_120_3, es183_120_4, bs183_120_4, es183_120_5, bs183_120_5, es183_120_7, bs183_120_7, es183_120_8, bs183_120_8, es183_9010_0, bs183_9010_0, rfl, z183_0, z183_1, z183_2, z183_3, z183_4, z183_5⟩
      have hS := St.tr hS h183 (by decide) (by decide)
      refine Tr.sc [] rfl ?_
      refine Tr.aload_n (pc := 186) (i := 0) d_X12_part_186 rfl rfl ?_
      refine Tr.getf (pc := 187) d_X12_part_187 f_12_79 (by decide) (by decide) (ty_120 hS.1.1) ?_
      refine Tr.tp 131 (fx_120_22 hS.1.1) ?_
      refine Tr.bipush (pc := 190) d_X12_part_190 rfl (by decide) ?_
      refine Tr.iload_n (pc := 192) (i := 1) d_X12_part_192 rfl rfl ?_
      refine Tr.imul (pc := 193) d_X12_part_193 ?_
      refine Tr.tp (6 * g126_1 + 36) ((w32_id (by and_intros <;> omega)).trans (by omega)) ?_
      refine Tr.iconst (pc := 194) d_X12_part_194 (by decide) ?_
      refine Tr.iadd (pc := 195) d_X12_part_195 ?_
      refine Tr.tp (6 * g126_1 + 41) ((w32_id (by and_intros <;> omega)).trans (by omega)) ?_
      refine Tr.aload_n (pc := 196) (i := 0) d_X12_part_196 rfl rfl ?_
      refine Tr.iconst (pc := 197) d_X12_part_197 (by decide) ?_
      refine Tr.bipush (pc := 198) d_X12_part_198 rfl (by decide) ?_
      refine Tr.callV (pc := 200) (as := [_, _]) d_X12_part_200 s_12_516 ok_X12_number rfl rfl (Nat.le_of_ble_eq_true rfl) (Nat.le_of_ble_eq_true rfl) (by decide) (ty_120 hS.1.1) ?_
      refine Tr.imp (Tr.deep (by decide) (ns_X12_number_120 (G120_3 := s183_120_3) (G120_4 := s183_120_4) (G120_5 := s183_120_5) (G120_7 := s183_120_7) (G120_8 := s183_120_8) (G9010_0 := s183_9010_0) hS.1 (es183_120_3) (es183_120_4) (es183_120_5) (es183_120_7) (es183_120_8) (es183_9010_0) 0 (by omega) 50 (by omega) (by first | exact (hd_o z183_0) | exact (hd_o z183_0).elim (fun h1 => by omega) (fun h1 => by omega)) (by omega) (by first | exact (hd_o z183_2) | exact (hd_o z183_2).elim (fun h1 => by omega) (fun h1 => h1.elim (fun h1 => by omega) (fun h1 => by omega))))) ?_
      rintro M200 _ ⟨h200, s200_120_3, s200_120_4, s200_120_5, s200_120_7, s200_120_8, s200_9010_0, es200_120_3, bs200_120_3, es200_120_4, bs200_120_4, es200_120_5, bs200_120_5, es200_120_7, bs200_120_7, es200_120_8, bs200_120_8, es200_9010_0, bs200_9010_0, r200, rfl, lr200, ur200, z200_0, z200_1, z200_2, z200_3, z200_4, z200_5, z200_6⟩
      have hS := St.tr hS h200 (by decide) (by decide)
      refine Tr.sc [(0, r200), (0, (6 * g126_1 + 41)), (2, 131)] rfl ?_
      have kx_126_1 : rd M200 126 1 = g126_1 := ((kp_X12_number_120_126_1 h200).trans ((kp_X12_must__120_w1_126_1 h183).trans ((Wr.b w178 rfl).trans ((kp_X12_number_120_126_1 h175).trans ((kp_X12_must__120_w1_126_1 h157).trans ((Wr.b w152 rfl).trans ((kp_X12_number_120_126_1 h149).trans ((kp_X12_must__120_w2_126_1 h131).trans ((Wr.b w126 rfl).trans ((kp_X12_number_120_126_1 h123).trans ((Wr.b w107 rfl).trans ((kp_X12_number_120_126_1 h104).trans ((kp_X12_must__120_w1_126_1 h87).trans ((Wr.b w82 rfl).trans ((kp_X12_number_120_126_1 h79).trans ((kp_X12_must__120_126_1 h63).trans ((Wr.b w58 rfl).trans ((kp_X12_fresh_120_126_1 h55).trans ((kp_X12_counts_120_126_1 h20).trans k20_126_1)))))))))))))))))))
      refine Tr.iastS (pc := 203) (P := St Pm1 ws_X12_part_120 as_X12_part_120 M0) d_X12_part_203 (ty_131 hS.1.1) (by omega) (by exact (hd_o t20_0).elim (fun h1 => (hd_o z20_6).elim (fun h2 => by omega) (fun h2 => by omega)) (fun h1 => (ne_o h1.2).elim (fun h2 => by omega) (fun h2 => by omega))) (sa_131 hS (by decide) (by and_intros <;> omega) (Pm1_rate hS.1.2.2.2.2 hS.1.2.1 (by omega) (by exact (hd_o t20_0).elim (fun h1 => (hd_o z20_6).elim (fun h2 => by omega) (fun h2 => by omega)) (fun h1 => (ne_o h1.2).elim (fun h2 => by omega) (fun h2 => by omega))))) (fun M203 hS w203 => ?_)
      refine Tr.aload_n (pc := 204) (i := 0) d_X12_part_204 rfl rfl ?_
      refine Tr.getf (pc := 205) d_X12_part_205 f_12_36 (by decide) (by decide) (ty_120 hS.1.1) ?_
      refine Tr.tp s200_120_8 ((Wr.b w203 rfl).trans es200_120_8) ?_
      refine Tr.if_ne (pc := 208) (tgt := 224) d_X12_part_208 rfl (fun c208 => ?_) (fun c208 => ?_)
      · have c208b : 1 ≤ s200_120_8 ∧ s200_120_8 ≤ 5 := by omega
        replace c208 := hd_i c208
        have kr_120_3 : rd M203 120 3 = s200_120_3 := ((Wr.b w203 rfl).trans es200_120_3)
        have kr_120_4 : rd M203 120 4 = s200_120_4 := ((Wr.b w203 rfl).trans es200_120_4)
        have kr_120_5 : rd M203 120 5 = s200_120_5 := ((Wr.b w203 rfl).trans es200_120_5)
        have kr_120_7 : rd M203 120 7 = s200_120_7 := ((Wr.b w203 rfl).trans es200_120_7)
        have kr_120_8 : rd M203 120 8 = s200_120_8 := ((Wr.b w203 rfl).trans es200_120_8)
        have kr_9010_0 : tav M203 = s200_9010_0 := ((tav_of ((Wr.b w203 rfl).trans rfl) ((Wr.b w203 rfl).trans rfl)).trans es200_9010_0)
        exact Tr.vret (pc := 224) d_X12_part_224 rfl ⟨hS, rfl, (by first | exact (hd_o z200_0) | exact (hd_o z200_0).elim (fun h1 => by omega) (fun h1 => by omega)), (by omega), (by first | exact (hd_o z200_2) | exact (hd_o z200_2).elim (fun h1 => by omega) (fun h1 => h1.elim (fun h1 => by omega) (fun h1 => by omega))), (by and_intros <;> omega), (by omega), (by omega)⟩
      · refine Tr.aload_n (pc := 211) (i := 0) d_X12_part_211 rfl rfl ?_
        refine Tr.getf (pc := 212) d_X12_part_212 f_12_63 (by decide) (by decide) (ty_120 hS.1.1) ?_
        refine Tr.tp 126 (fx_120_17 hS.1.1) ?_
        refine Tr.aload_n (pc := 215) (i := 0) d_X12_part_215 rfl rfl ?_
        refine Tr.getf (pc := 216) d_X12_part_216 f_12_124 (by decide) (by decide) (ty_120 hS.1.1) ?_
        refine Tr.tp 1 ((kp_X12_part_120_120_37 hS).trans en_120_37) ?_
        refine Tr.dup2 (pc := 219) d_X12_part_219 ne01 ne21 ?_
        refine Tr.iald (pc := 220) d_X12_part_220 (ty_126 hS.1.1) (by omega) (by omega) ?_
        refine Tr.tp g126_1 ((Wr.b w203 rfl).trans ((kp_X12_number_120_126_1 h200).trans ((kp_X12_must__120_w1_126_1 h183).trans ((Wr.b w178 rfl).trans ((kp_X12_number_120_126_1 h175).trans ((kp_X12_must__120_w1_126_1 h157).trans ((Wr.b w152 rfl).trans ((kp_X12_number_120_126_1 h149).trans ((kp_X12_must__120_w2_126_1 h131).trans ((Wr.b w126 rfl).trans ((kp_X12_number_120_126_1 h123).trans ((Wr.b w107 rfl).trans ((kp_X12_number_120_126_1 h104).trans ((kp_X12_must__120_w1_126_1 h87).trans ((Wr.b w82 rfl).trans ((kp_X12_number_120_126_1 h79).trans ((kp_X12_must__120_126_1 h63).trans ((Wr.b w58 rfl).trans ((kp_X12_fresh_120_126_1 h55).trans ((kp_X12_counts_120_126_1 h20).trans k20_126_1)))))))))))))))))))) ?_
        refine Tr.iconst (pc := 221) d_X12_part_221 (by decide) ?_
        refine Tr.iadd (pc := 222) d_X12_part_222 ?_
        refine Tr.tp (g126_1 + 1) ((w32_id (by and_intros <;> omega)).trans (by omega)) ?_
        have hr5 : rd M203 131 (6 * g126_1 + 41) = r200 := w203.1
        have kx_126_1 : rd M203 126 1 = g126_1 := ((Wr.b w203 rfl).trans ((kp_X12_number_120_126_1 h200).trans ((kp_X12_must__120_w1_126_1 h183).trans ((Wr.b w178 rfl).trans ((kp_X12_number_120_126_1 h175).trans ((kp_X12_must__120_w1_126_1 h157).trans ((Wr.b w152 rfl).trans ((kp_X12_number_120_126_1 h149).trans ((kp_X12_must__120_w2_126_1 h131).trans ((Wr.b w126 rfl).trans ((kp_X12_number_120_126_1 h123).trans ((Wr.b w107 rfl).trans ((kp_X12_number_120_126_1 h104).trans ((kp_X12_must__120_w1_126_1 h87).trans ((Wr.b w82 rfl).trans ((kp_X12_number_120_126_1 h79).trans ((kp_X12_must__120_126_1 h63).trans ((Wr.b w58 rfl).trans ((kp_X12_fresh_120_126_1 h55).trans ((kp_X12_counts_120_126_1 h20).trans k20_126_1))))))))))))))))))))
        refine Tr.iastS (pc := 223) (P := St Pm1 ws_X12_part_120 as_X12_part_120 M0) d_X12_part_223 (ty_126 hS.1.1) (by omega) (by omega) (st_126_1 hS (by decide) (by exact (hd_o t20_0).elim (fun h1 => (hd_o z20_6).elim (fun h2 => by omega) (fun h2 => by omega)) (fun h1 => (ne_o h1.2).elim (fun h2 => by omega) (fun h2 => by omega))) (Pm1_parts hS.1.2.2.2.2 (by omega) (by have e9 : rd M203 126 1 = g126_1 := ((Wr.b w203 rfl).trans ((kp_X12_number_120_126_1 h200).trans ((kp_X12_must__120_w1_126_1 h183).trans ((Wr.b w178 rfl).trans ((kp_X12_number_120_126_1 h175).trans ((kp_X12_must__120_w1_126_1 h157).trans ((Wr.b w152 rfl).trans ((kp_X12_number_120_126_1 h149).trans ((kp_X12_must__120_w2_126_1 h131).trans ((Wr.b w126 rfl).trans ((kp_X12_number_120_126_1 h123).trans ((Wr.b w107 rfl).trans ((kp_X12_number_120_126_1 h104).trans ((kp_X12_must__120_w1_126_1 h87).trans ((Wr.b w82 rfl).trans ((kp_X12_number_120_126_1 h79).trans ((kp_X12_must__120_126_1 h63).trans ((Wr.b w58 rfl).trans ((kp_X12_fresh_120_126_1 h55).trans ((kp_X12_counts_120_126_1 h20).trans k20_126_1)))))))))))))))))))); rw [e9]; have e8 : rd M203 131 (36 + 6 * g126_1 + 5) = rd M203 131 (6 * g126_1 + 41) := congrArg _ (by omega); have e7 : r200 ≤ 50 := (by exact (hd_o z200_6).elim (fun h1 => by omega) (fun h1 => by omega)); omega))) (fun M223 hS w223 => ?_)
        have kr_120_3 : rd M223 120 3 = s200_120_3 := ((Wr.b w223 rfl).trans ((Wr.b w203 rfl).trans es200_120_3))
        have kr_120_4 : rd M223 120 4 = s200_120_4 := ((Wr.b w223 rfl).trans ((Wr.b w203 rfl).trans es200_120_4))
        have kr_120_5 : rd M223 120 5 = s200_120_5 := ((Wr.b w223 rfl).trans ((Wr.b w203 rfl).trans es200_120_5))
        have kr_120_7 : rd M223 120 7 = s200_120_7 := ((Wr.b w223 rfl).trans ((Wr.b w203 rfl).trans es200_120_7))
        have kr_120_8 : rd M223 120 8 = s200_120_8 := ((Wr.b w223 rfl).trans ((Wr.b w203 rfl).trans es200_120_8))
        have kr_9010_0 : tav M223 = s200_9010_0 := ((tav_of ((Wr.b w223 rfl).trans ((Wr.b w203 rfl).trans rfl)) ((Wr.b w223 rfl).trans ((Wr.b w203 rfl).trans rfl))).trans es200_9010_0)
        exact Tr.vret (pc := 224) d_X12_part_224 rfl ⟨hS, rfl, (by first | exact (hd_o z200_0) | exact (hd_o z200_0).elim (fun h1 => by omega) (fun h1 => by omega)), (by omega), (by first | exact (hd_o z200_2) | exact (hd_o z200_2).elim (fun h1 => by omega) (fun h1 => h1.elim (fun h1 => by omega) (fun h1 => by omega))), (by and_intros <;> omega), (by omega), (by exact (hd_o z200_5).elim (fun h1 => by omega) (fun h1 => by omega))⟩
    · have kr_120_3 : rd M20 120 3 = s20_120_3 := es20_120_3
      have kr_120_4 : rd M20 120 4 = s20_120_4 := es20_120_4
      have kr_120_5 : rd M20 120 5 = s20_120_5 := es20_120_5
      have kr_120_7 : rd M20 120 7 = s20_120_7 := es20_120_7
      have kr_120_8 : rd M20 120 8 = s20_120_8 := es20_120_8
      have kr_9010_0 : tav M20 = s20_9010_0 := es20_9010_0
      exact Tr.vret (pc := 30) d_X12_part_30 rfl ⟨hS, rfl, (by first | exact (hd_o z20_0) | exact (hd_o z20_0).elim (fun h1 => by omega) (fun h1 => by omega)), (by omega), (by first | exact (hd_o z20_2) | exact (hd_o z20_2).elim (fun h1 => by omega) (fun h1 => h1.elim (fun h1 => by omega) (fun h1 => by omega))), (by and_intros <;> omega), (by first | exact (hd_o z20_4) | exact (hd_o z20_4).elim (fun h1 => by omega) (fun h1 => by omega)), (by first | exact (hd_o z20_5) | exact (hd_o z20_5).elim (fun h1 => by omega) (fun h1 => by omega))⟩
  refine Tr.icmp_ne (pc := 12) (tgt := 19) d_X12_part_12 rfl (fun c12 => ?_) (fun c12 => ?_)
  · have c12b : 0 ≤ g126_1 ∧ g126_1 ≤ 5 := by omega
    replace c12 := hd_i c12
    refine Tr.iconst (pc := 19) d_X12_part_19 (by decide) ?_
    refine Tr.pick [0] (ls2 := [(0, (2, 120))]) rfl ?_
    exact J20 _ _ hS (by omega) eg120_3 eg120_4 eg120_5 eg120_7 eg120_8 eg126_1 eg9010_0 (by omega)
  · refine Tr.iconst (pc := 15) d_X12_part_15 (by decide) ?_
    refine Tr.goto (pc := 16) (tgt := 20) d_X12_part_16 rfl ?_
    refine Tr.pick [0] (ls2 := [(0, (2, 120))]) rfl ?_
    exact J20 _ _ hS (by omega) eg120_3 eg120_4 eg120_5 eg120_7 eg120_8 eg126_1 eg9010_0 (by omega)

set_option maxRecDepth 100000 in
set_option maxHeartbeats 4000000 in
theorem ns_X12_part_120 {l : Launch} {K : EC} {M0 : Mem} {G120_3 G120_4 G120_5 G120_7 G120_8 G9010_0 : Int} (hI : In Pm1 M0) (k120_3 : rd M0 120 3 = G120_3) (k120_4 : rd M0 120 4 = G120_4) (k120_5 : rd M0 120 5 = G120_5) (k120_7 : rd M0 120 7 = G120_7) (k120_8 : rd M0 120 8 = G120_8) (k9010_0 : tav M0 = G9010_0) (en_120_37 : rd M0 120 37 = 1)   (hq0 : G120_3 = 0 ∨ G120_4 + 1 ≤ G120_5) (hq1 : G120_4 ≤ G120_5) (hq2 : G120_3 ≠ 1 ∨ G120_4 + 2 ≤ G120_5 ∨ G120_7 < 256) (hq3 : G120_3 ≠ 0) (hq4 : G120_8 = 0) : Tr l K 3 mX12_part 0 [(0, (2, 120))] [] M0 (fun M' r => St Pm1 ws_X12_part_120 as_X12_part_120 M0 M' ∧ ∃ S120_3 S120_4 S120_5 S120_7 S120_8 S9010_0 : Int, rd M' 120 3 = S120_3 ∧ (0 ≤ S120_3 ∧ S120_3 ≤ 3) ∧ rd M' 120 4 = S120_4 ∧ (0 ≤ S120_4 ∧ S120_4 ≤ 900) ∧ rd M' 120 5 = S120_5 ∧ (0 ≤ S120_5 ∧ S120_5 ≤ 900) ∧ rd M' 120 7 = S120_7 ∧ ((-9223372036854775808) ≤ S120_7 ∧ S120_7 ≤ 9223372036854775807) ∧ rd M' 120 8 = S120_8 ∧ (0 ≤ S120_8 ∧ S120_8 ≤ 5) ∧ tav M' = S9010_0 ∧ ((-1) ≤ S9010_0 ∧ S9010_0 ≤ 1800) ∧ r = none ∧ Hd (S120_3 = 0 ∨ S120_4 + 1 ≤ S120_5) ∧ (S120_4 ≤ S120_5) ∧ Hd (S120_3 ≠ 1 ∨ S120_4 + 2 ≤ S120_5 ∨ S120_7 < 256) ∧ (G120_4 ≤ S120_4 ∧ G120_5 ≤ S120_5 ∧ G9010_0 ≤ S9010_0) ∧ Hd (G120_8 = 0 ∨ S120_8 = G120_8) ∧ Hd (1 ≤ S120_8 ∨ G9010_0 < S9010_0)) := by
  subst k120_3
  subst k120_4
  subst k120_5
  subst k120_7
  subst k120_8
  subst k9010_0
  refine Tr.imp (sp_X12_part_120 hI en_120_37 hq0 hq1 hq2 hq3 hq4) ?_
  rintro M' _ ⟨hS, rfl, z0, z1, z2, z3, z4, z5⟩
  exact ⟨hS, _, _, _, _, _, _, rfl, ir_120_3 hS.1.2.1, rfl, ir_120_4 hS.1.2.1, rfl, ir_120_5 hS.1.2.1, rfl, ir_120_7 hS.1.2.1, rfl, ir_120_8 hS.1.2.1, rfl, (tav_b hS.1.2.1), rfl, hd_i z0, z1, hd_i z2, z3, hd_i z4, hd_i z5⟩

def ws_X12_must_120 : List (Int × Int) := [(120, 3), (120, 4), (120, 5), (120, 6), (120, 7), (120, 8), (120, 9)]
def as_X12_must_120 : List Int := []
def q_X12_must_120 (a1 : Int) (M0 M' : Mem) (r : Option PV) : Prop := St Pm1 ws_X12_must_120 as_X12_must_120 M0 M' ∧ r = none ∧ (rd M' 120 3 = 0 ∨ rd M' 120 4 + 1 ≤ rd M' 120 5) ∧ (rd M' 120 4 ≤ rd M' 120 5) ∧ (rd M' 120 3 ≠ 1 ∨ rd M' 120 4 + 2 ≤ rd M' 120 5 ∨ rd M' 120 7 < 256) ∧ (rd M0 120 4 ≤ rd M' 120 4 ∧ rd M0 120 5 ≤ rd M' 120 5 ∧ tav M0 ≤ tav M') ∧ (rd M0 120 8 = 0 ∨ rd M' 120 8 = rd M0 120 8) ∧ (1 ≤ rd M' 120 8 ∨ tav M0 < tav M')
theorem ka_X12_isSign_120_131 {q : Mem → Prop} {M0 M : Mem} (h : St q ws_X12_isSign_120 as_X12_isSign_120 M0 M) (j : Int) : rd M 131 j = rd M0 131 j := St.ka h (by decide) (by decide) (by decide)
theorem ka_X12_isSign_120_137 {q : Mem → Prop} {M0 M : Mem} (h : St q ws_X12_isSign_120 as_X12_isSign_120 M0 M) (j : Int) : rd M 137 j = rd M0 137 j := St.ka h (by decide) (by decide) (by decide)
theorem ka_X12_isSign_120_138 {q : Mem → Prop} {M0 M : Mem} (h : St q ws_X12_isSign_120 as_X12_isSign_120 M0 M) (j : Int) : rd M 138 j = rd M0 138 j := St.ka h (by decide) (by decide) (by decide)
theorem ka_X12_isSign_120_139 {q : Mem → Prop} {M0 M : Mem} (h : St q ws_X12_isSign_120 as_X12_isSign_120 M0 M) (j : Int) : rd M 139 j = rd M0 139 j := St.ka h (by decide) (by decide) (by decide)
theorem ka_X12_isSign_120_140 {q : Mem → Prop} {M0 M : Mem} (h : St q ws_X12_isSign_120 as_X12_isSign_120 M0 M) (j : Int) : rd M 140 j = rd M0 140 j := St.ka h (by decide) (by decide) (by decide)
theorem ka_X12_isSign_120_141 {q : Mem → Prop} {M0 M : Mem} (h : St q ws_X12_isSign_120 as_X12_isSign_120 M0 M) (j : Int) : rd M 141 j = rd M0 141 j := St.ka h (by decide) (by decide) (by decide)
theorem ka_X12_isSign_120_142 {q : Mem → Prop} {M0 M : Mem} (h : St q ws_X12_isSign_120 as_X12_isSign_120 M0 M) (j : Int) : rd M 142 j = rd M0 142 j := St.ka h (by decide) (by decide) (by decide)
theorem ka_X12_isSign_120_143 {q : Mem → Prop} {M0 M : Mem} (h : St q ws_X12_isSign_120 as_X12_isSign_120 M0 M) (j : Int) : rd M 143 j = rd M0 143 j := St.ka h (by decide) (by decide) (by decide)
theorem ka_X12_isSign_120_151 {q : Mem → Prop} {M0 M : Mem} (h : St q ws_X12_isSign_120 as_X12_isSign_120 M0 M) (j : Int) : rd M 151 j = rd M0 151 j := St.ka h (by decide) (by decide) (by decide)
theorem ka_X12_isSign_120_152 {q : Mem → Prop} {M0 M : Mem} (h : St q ws_X12_isSign_120 as_X12_isSign_120 M0 M) (j : Int) : rd M 152 j = rd M0 152 j := St.ka h (by decide) (by decide) (by decide)
theorem kp_X12_isSign_120_126_0 {q : Mem → Prop} {M0 M : Mem} (h : St q ws_X12_isSign_120 as_X12_isSign_120 M0 M) : rd M 126 0 = rd M0 126 0 := St.kp h (by decide) (by decide) (by decide)
theorem kp_X12_isSign_120_126_1 {q : Mem → Prop} {M0 M : Mem} (h : St q ws_X12_isSign_120 as_X12_isSign_120 M0 M) : rd M 126 1 = rd M0 126 1 := St.kp h (by decide) (by decide) (by decide)
theorem kp_X12_isSign_120_136_0 {q : Mem → Prop} {M0 M : Mem} (h : St q ws_X12_isSign_120 as_X12_isSign_120 M0 M) : rd M 136 0 = rd M0 136 0 := St.kp h (by decide) (by decide) (by decide)
theorem kp_X12_isSign_120_136_1 {q : Mem → Prop} {M0 M : Mem} (h : St q ws_X12_isSign_120 as_X12_isSign_120 M0 M) : rd M 136 1 = rd M0 136 1 := St.kp h (by decide) (by decide) (by decide)
theorem kp_X12_isSign_120_123_0 {q : Mem → Prop} {M0 M : Mem} (h : St q ws_X12_isSign_120 as_X12_isSign_120 M0 M) : rd M 123 0 = rd M0 123 0 := St.kp h (by decide) (by decide) (by decide)
theorem kp_X12_isSign_120_123_1 {q : Mem → Prop} {M0 M : Mem} (h : St q ws_X12_isSign_120 as_X12_isSign_120 M0 M) : rd M 123 1 = rd M0 123 1 := St.kp h (by decide) (by decide) (by decide)
theorem kp_X12_isSign_120_124_0 {q : Mem → Prop} {M0 M : Mem} (h : St q ws_X12_isSign_120 as_X12_isSign_120 M0 M) : rd M 124 0 = rd M0 124 0 := St.kp h (by decide) (by decide) (by decide)
theorem kp_X12_isSign_120_124_1 {q : Mem → Prop} {M0 M : Mem} (h : St q ws_X12_isSign_120 as_X12_isSign_120 M0 M) : rd M 124 1 = rd M0 124 1 := St.kp h (by decide) (by decide) (by decide)
theorem kp_X12_isSign_120_120_8 {q : Mem → Prop} {M0 M : Mem} (h : St q ws_X12_isSign_120 as_X12_isSign_120 M0 M) : rd M 120 8 = rd M0 120 8 := St.kp h (by decide) (by decide) (by decide)
theorem kp_X12_isSign_120_120_36 {q : Mem → Prop} {M0 M : Mem} (h : St q ws_X12_isSign_120 as_X12_isSign_120 M0 M) : rd M 120 36 = rd M0 120 36 := St.kp h (by decide) (by decide) (by decide)
theorem kp_X12_isSign_120_120_50 {q : Mem → Prop} {M0 M : Mem} (h : St q ws_X12_isSign_120 as_X12_isSign_120 M0 M) : rd M 120 50 = rd M0 120 50 := St.kp h (by decide) (by decide) (by decide)
theorem kp_X12_isSign_120_120_3 {q : Mem → Prop} {M0 M : Mem} (h : St q ws_X12_isSign_120 as_X12_isSign_120 M0 M) : rd M 120 3 = rd M0 120 3 := St.kp h (by decide) (by decide) (by decide)
theorem kp_X12_isSign_120_120_4 {q : Mem → Prop} {M0 M : Mem} (h : St q ws_X12_isSign_120 as_X12_isSign_120 M0 M) : rd M 120 4 = rd M0 120 4 := St.kp h (by decide) (by decide) (by decide)
theorem kp_X12_isSign_120_120_5 {q : Mem → Prop} {M0 M : Mem} (h : St q ws_X12_isSign_120 as_X12_isSign_120 M0 M) : rd M 120 5 = rd M0 120 5 := St.kp h (by decide) (by decide) (by decide)
theorem kp_X12_isSign_120_120_6 {q : Mem → Prop} {M0 M : Mem} (h : St q ws_X12_isSign_120 as_X12_isSign_120 M0 M) : rd M 120 6 = rd M0 120 6 := St.kp h (by decide) (by decide) (by decide)
theorem kp_X12_isSign_120_120_7 {q : Mem → Prop} {M0 M : Mem} (h : St q ws_X12_isSign_120 as_X12_isSign_120 M0 M) : rd M 120 7 = rd M0 120 7 := St.kp h (by decide) (by decide) (by decide)
set_option maxRecDepth 100000 in
set_option maxHeartbeats 4000000 in
theorem sp_X12_must_120 {l : Launch} {K : EC} {M0 : Mem} (hI : In Pm1 M0)  (a1 : Int) (ha1 : 0 ≤ a1 ∧ a1 ≤ 300)  (hq0 : rd M0 120 3 = 0 ∨ rd M0 120 4 + 1 ≤ rd M0 120 5) (hq1 : rd M0 120 4 ≤ rd M0 120 5) (hq2 : rd M0 120 3 ≠ 1 ∨ rd M0 120 4 + 2 ≤ rd M0 120 5 ∨ rd M0 120 7 < 256) : Tr l K 2 mX12_must 0 [(0, (2, 120)), (1, (0, a1))] [] M0 (q_X12_must_120 a1 M0) := by
  have hS : St Pm1 ws_X12_must_120 as_X12_must_120 M0 M0 := St.rf hI
  obtain ⟨g120_8, eg120_8⟩ : ∃ v, rd M0 120 8 = v := ⟨_, rfl⟩
  have bg120_8 : 0 ≤ g120_8 ∧ g120_8 ≤ 5 := by rw [← eg120_8]; exact ir_120_8 hI.2.1
  obtain ⟨g120_3, eg120_3⟩ : ∃ v, rd M0 120 3 = v := ⟨_, rfl⟩
  have bg120_3 : 0 ≤ g120_3 ∧ g120_3 ≤ 3 := by rw [← eg120_3]; exact ir_120_3 hI.2.1
  obtain ⟨g120_4, eg120_4⟩ : ∃ v, rd M0 120 4 = v := ⟨_, rfl⟩
  have bg120_4 : 0 ≤ g120_4 ∧ g120_4 ≤ 900 := by rw [← eg120_4]; exact ir_120_4 hI.2.1
  obtain ⟨g120_5, eg120_5⟩ : ∃ v, rd M0 120 5 = v := ⟨_, rfl⟩
  have bg120_5 : 0 ≤ g120_5 ∧ g120_5 ≤ 900 := by rw [← eg120_5]; exact ir_120_5 hI.2.1
  obtain ⟨g120_7, eg120_7⟩ : ∃ v, rd M0 120 7 = v := ⟨_, rfl⟩
  have bg120_7 : (-9223372036854775808) ≤ g120_7 ∧ g120_7 ≤ 9223372036854775807 := by rw [← eg120_7]; exact ir_120_7 hI.2.1
  obtain ⟨g9010_0, eg9010_0⟩ : ∃ v, tav M0 = v := ⟨_, rfl⟩
  have bg9010_0 : (-1) ≤ g9010_0 ∧ g9010_0 ≤ 1800 := by rw [← eg9010_0]; exact (tav_b hI.2.1)
  obtain ⟨g120_6, eg120_6⟩ : ∃ v, rd M0 120 6 = v := ⟨_, rfl⟩
  have bg120_6 : (-2147483648) ≤ g120_6 ∧ g120_6 ≤ 2147483647 := by rw [← eg120_6]; exact ir_120_6 hI.2.1
  replace hq0 := hd_i hq0
  replace hq2 := hd_i hq2
  refine Tr.aload_n (pc := 0) (i := 0) d_X12_must_0 rfl rfl ?_
  refine Tr.iload_n (pc := 1) (i := 1) d_X12_must_1 rfl rfl ?_
  refine Tr.callV (pc := 2) (as := [_]) d_X12_must_2 s_12_393 ok_X12_isSign rfl rfl (Nat.le_of_ble_eq_true rfl) (Nat.le_of_ble_eq_true rfl) (by decide) (ty_120 hS.1.1) ?_
  refine Tr.imp (Tr.deep (by decide) (ns_X12_isSign_120 (G120_3 := g120_3) (G120_6 := g120_6) hS.1.wk (eg120_3) (eg120_6) a1 (by and_intros <;> omega))) ?_
  rintro M2 _ ⟨h2, r2, rfl, lr2, ur2, z2_0⟩
  have h2 := St.rn h2 (Pm1.of hS.1.2.2.2.2 (fun _ => (ka_X12_isSign_120_131 h2 _)) (fun _ => (ka_X12_isSign_120_137 h2 _)) (fun _ => (ka_X12_isSign_120_138 h2 _)) (fun _ => (ka_X12_isSign_120_139 h2 _)) (fun _ => (ka_X12_isSign_120_140 h2 _)) (fun _ => (ka_X12_isSign_120_141 h2 _)) (fun _ => (ka_X12_isSign_120_142 h2 _)) (fun _ => (ka_X12_isSign_120_143 h2 _)) (fun _ => (ka_X12_isSign_120_151 h2 _)) (fun _ => (ka_X12_isSign_120_152 h2 _)) (kp_X12_isSign_120_126_0 h2) (kp_X12_isSign_120_126_1 h2) (kp_X12_isSign_120_136_0 h2) (kp_X12_isSign_120_136_1 h2) (kp_X12_isSign_120_123_0 h2) (kp_X12_isSign_120_123_1 h2) (kp_X12_isSign_120_124_0 h2) (kp_X12_isSign_120_124_1 h2) (kp_X12_isSign_120_120_8 h2) (kp_X12_isSign_120_120_36 h2) (kp_X12_isSign_120_120_50 h2))
  have hS := St.tr hS h2 (by decide) (by decide)
  refine Tr.sc [(0, r2)] rfl ?_
  have J17 : ∀ (M : Mem) (u17_120_8 : Int), St Pm1 ws_X12_must_120 as_X12_must_120 M0 M → (0 ≤ u17_120_8 ∧ u17_120_8 ≤ 5) → rd M 120 3 = g120_3 → rd M 120 4 = g120_4 → rd M 120 5 = g120_5 → rd M 120 6 = g120_6 → rd M 120 7 = g120_7 → rd M 120 8 = u17_120_8 → tav M = g9010_0 → (u17_120_8 ≠ 0 ∨ g120_3 ≠ 0) → (g120_8 = 0 ∨ u17_120_8 = g120_8) → Tr l K 2 mX12_must 17 [(0, (2, 120))] [] M (q_X12_must_120 a1 M0) := by
    intro M u17_120_8 hS bu17_120_8 k17_120_3 k17_120_4 k17_120_5 k17_120_6 k17_120_7 k17_120_8 k17_9010_0 t17_0 t17_1
    replace t17_0 := hd_i t17_0
    replace t17_1 := hd_i t17_1
    refine Tr.aload_n (pc := 17) (i := 0) d_X12_must_17 rfl rfl ?_
    refine Tr.getf (pc := 18) d_X12_must_18 f_12_36 (by decide) (by decide) (ty_120 hS.1.1) ?_
    refine Tr.tp u17_120_8 k17_120_8 ?_
    refine Tr.if_ne (pc := 21) (tgt := 28) d_X12_must_21 rfl (fun c21 => ?_) (fun c21 => ?_)
    · have c21b : 1 ≤ u17_120_8 ∧ u17_120_8 ≤ 5 := by omega
      replace c21 := hd_i c21
      have kr_120_3 : rd M 120 3 = g120_3 := k17_120_3
      have kr_120_4 : rd M 120 4 = g120_4 := k17_120_4
      have kr_120_5 : rd M 120 5 = g120_5 := k17_120_5
      have kr_120_7 : rd M 120 7 = g120_7 := k17_120_7
      have kr_120_8 : rd M 120 8 = u17_120_8 := k17_120_8
      have kr_9010_0 : tav M = g9010_0 := k17_9010_0
      exact Tr.vret (pc := 28) d_X12_must_28 rfl ⟨hS, rfl, (by first | exact (hd_o hq0) | exact (hd_o hq0).elim (fun h1 => by omega) (fun h1 => by omega)), (by omega), (by first | exact (hd_o hq2) | exact (hd_o hq2).elim (fun h1 => by omega) (fun h1 => h1.elim (fun h1 => by omega) (fun h1 => by omega))), (by and_intros <;> omega), (by first | exact (hd_o t17_1) | exact (hd_o t17_1).elim (fun h1 => by omega) (fun h1 => by omega)), (by omega)⟩
    · refine Tr.aload_n (pc := 24) (i := 0) d_X12_must_24 rfl rfl ?_
      refine Tr.callV (pc := 25) (as := []) d_X12_must_25 s_12_396 ok_X12_next rfl rfl (Nat.le_of_ble_eq_true rfl) (Nat.le_of_ble_eq_true rfl) (by decide) (ty_120 hS.1.1) ?_
      refine Tr.imp (Tr.deep (by decide) (ns_X12_next_120 (G120_3 := g120_3) (G120_5 := g120_5) (G120_8 := u17_120_8) (G9010_0 := g9010_0) hS.1 (k17_120_3) (k17_120_5) (k17_120_8) (k17_9010_0))) ?_
      rintro M25 _ ⟨h25, s25_120_3, s25_120_4, s25_120_5, s25_120_7, s25_120_8, s25_9010_0, es25_120_3, bs25_120_3, es25_120_4, bs25_120_4, es25_120_5, bs25_120_5, es25_120_7, bs25_120_7, es25_120_8, bs25_120_8, es25_9010_0, bs25_9010_0, rfl, z25_0, z25_1, z25_2, z25_3, z25_4, z25_5, z25_6⟩
      have hS := St.tr hS h25 (by decide) (by decide)
      refine Tr.sc [] rfl ?_
      have kr_120_3 : rd M25 120 3 = s25_120_3 := es25_120_3
      have kr_120_4 : rd M25 120 4 = s25_120_4 := es25_120_4
      have kr_120_5 : rd M25 120 5 = s25_120_5 := es25_120_5
      have kr_120_7 : rd M25 120 7 = s25_120_7 := es25_120_7
      have kr_120_8 : rd M25 120 8 = s25_120_8 := es25_120_8
      have kr_9010_0 : tav M25 = s25_9010_0 := es25_9010_0
      exact Tr.vret (pc := 28) d_X12_must_28 rfl ⟨hS, rfl, (by first | exact (hd_o z25_0) | exact (hd_o z25_0).elim (fun h1 => by omega) (fun h1 => by omega)), (by omega), (by first | exact (hd_o z25_2) | exact (hd_o z25_2).elim (fun h1 => by omega) (fun h1 => h1.elim (fun h1 => by omega) (fun h1 => by omega))), (by and_intros <;> omega), (by exact (hd_o t17_1).elim (fun h1 => by omega) (fun h1 => by omega)), (by exact (hd_o t17_0).elim (fun h1 => (ne_o h1).elim (fun h2 => by omega) (fun h2 => by omega)) (fun h1 => (ne_o h1).elim (fun h2 => by omega) (fun h2 => (hd_o z25_5).elim (fun h3 => by omega) (fun h3 => by omega))))⟩
  refine Tr.if_ne (pc := 5) (tgt := 17) d_X12_must_5 rfl (fun c5 => ?_) (fun c5 => ?_)
  · have c5b : 1 ≤ r2 ∧ r2 ≤ 1 := by omega
    replace c5 := hd_i c5
    refine Tr.pick [0] (ls2 := [(0, (2, 120))]) rfl ?_
    exact J17 _ _ hS (by and_intros <;> omega) ((kp_X12_isSign_120_120_3 h2).trans eg120_3) ((kp_X12_isSign_120_120_4 h2).trans eg120_4) ((kp_X12_isSign_120_120_5 h2).trans eg120_5) ((kp_X12_isSign_120_120_6 h2).trans eg120_6) ((kp_X12_isSign_120_120_7 h2).trans eg120_7) ((kp_X12_isSign_120_120_8 h2).trans eg120_8) ((tav_of ((kp_X12_isSign_120_120_5 h2).trans rfl) ((kp_X12_isSign_120_120_3 h2).trans rfl)).trans eg9010_0) (by exact (hd_o z2_0).elim (fun h1 => by omega) (fun h1 => by omega)) (by omega)
  · refine Tr.aload_n (pc := 8) (i := 0) d_X12_must_8 rfl rfl ?_
    refine Tr.iconst (pc := 9) d_X12_must_9 (by decide) ?_
    refine Tr.aload_n (pc := 10) (i := 0) d_X12_must_10 rfl rfl ?_
    refine Tr.getf (pc := 11) d_X12_must_11 f_12_23 (by decide) (by decide) (ty_120 hS.1.1) ?_
    refine Tr.tp g120_4 ((kp_X12_isSign_120_120_4 h2).trans eg120_4) ?_
    refine Tr.callV (pc := 14) (as := [_, _]) d_X12_must_14 s_12_389 ok_X12_blame rfl rfl (Nat.le_of_ble_eq_true rfl) (Nat.le_of_ble_eq_true rfl) (by decide) (ty_120 hS.1.1) ?_
    refine Tr.imp (Tr.deep (by decide) (ns_X12_blame_120 (G120_8 := g120_8) hS.1 (((kp_X12_isSign_120_120_8 h2).trans eg120_8)) 1 (by omega) g120_4 (by and_intros <;> omega))) ?_
    rintro M14 _ ⟨h14, s14_120_8, es14_120_8, bs14_120_8, rfl, z14_0⟩
    have hS := St.tr hS h14 (by decide) (by decide)
    refine Tr.sc [] rfl ?_
    refine Tr.pick [0] (ls2 := [(0, (2, 120))]) rfl ?_
    exact J17 _ _ hS (by and_intros <;> omega) ((kp_X12_blame_120_120_3 h14).trans ((kp_X12_isSign_120_120_3 h2).trans eg120_3)) ((kp_X12_blame_120_120_4 h14).trans ((kp_X12_isSign_120_120_4 h2).trans eg120_4)) ((kp_X12_blame_120_120_5 h14).trans ((kp_X12_isSign_120_120_5 h2).trans eg120_5)) ((kp_X12_blame_120_120_6 h14).trans ((kp_X12_isSign_120_120_6 h2).trans eg120_6)) ((kp_X12_blame_120_120_7 h14).trans ((kp_X12_isSign_120_120_7 h2).trans eg120_7)) es14_120_8 ((tav_of ((kp_X12_blame_120_120_5 h14).trans ((kp_X12_isSign_120_120_5 h2).trans rfl)) ((kp_X12_blame_120_120_3 h14).trans ((kp_X12_isSign_120_120_3 h2).trans rfl))).trans eg9010_0) (by exact (hd_o z14_0).elim (fun h1 => by omega) (fun h1 => by omega)) (by exact (hd_o z14_0).elim (fun h1 => by omega) (fun h1 => by omega))
end
/-! 38.03 -/
section
set_option maxRecDepth 100000 in
set_option maxHeartbeats 4000000 in
theorem ns_X12_must_120 {l : Launch} {K : EC} {M0 : Mem} {G120_3 G120_4 G120_5 G120_7 G120_8 G9010_0 : Int} (hI : In Pm1 M0) (k120_3 : rd M0 120 3 = G120_3) (k120_4 : rd M0 120 4 = G120_4) (k120_5 : rd M0 120 5 = G120_5) (k120_7 : rd M0 120 7 = G120_7) (k120_8 : rd M0 120 8 = G120_8) (k9010_0 : tav M0 = G9010_0)  (a1 : Int) (ha1 : 0 ≤ a1 ∧ a1 ≤ 300)  (hq0 : G120_3 = 0 ∨ G120_4 + 1 ≤ G120_5) (hq1 : G120_4 ≤ G120_5) (hq2 : G120_3 ≠ 1 ∨ G120_4 + 2 ≤ G120_5 ∨ G120_7 < 256) : Tr l K 2 mX12_must 0 [(0, (2, 120)), (1, (0, a1))] [] M0 (fun M' r => St Pm1 ws_X12_must_120 as_X12_must_120 M0 M' ∧ ∃ S120_3 S120_4 S120_5 S120_7 S120_8 S9010_0 : Int, rd M' 120 3 = S120_3 ∧ (0 ≤ S120_3 ∧ S120_3 ≤ 3) ∧ rd M' 120 4 = S120_4 ∧ (0 ≤ S120_4 ∧ S120_4 ≤ 900) ∧ rd M' 120 5 = S120_5 ∧ (0 ≤ S120_5 ∧ S120_5 ≤ 900) ∧ rd M' 120 7 = S120_7 ∧ ((-9223372036854775808) ≤ S120_7 ∧ S120_7 ≤ 9223372036854775807) ∧ rd M' 120 8 = S120_8 ∧ (0 ≤ S120_8 ∧ S120_8 ≤ 5) ∧ tav M' = S9010_0 ∧ ((-1) ≤ S9010_0 ∧ S9010_0 ≤ 1800) ∧ r = none ∧ Hd (S120_3 = 0 ∨ S120_4 + 1 ≤ S120_5) ∧ (S120_4 ≤ S120_5) ∧ Hd (S120_3 ≠ 1 ∨ S120_4 + 2 ≤ S120_5 ∨ S120_7 < 256) ∧ (G120_4 ≤ S120_4 ∧ G120_5 ≤ S120_5 ∧ G9010_0 ≤ S9010_0) ∧ Hd (G120_8 = 0 ∨ S120_8 = G120_8) ∧ Hd (1 ≤ S120_8 ∨ G9010_0 < S9010_0)) := by
  subst k120_3
  subst k120_4
  subst k120_5
  subst k120_7
  subst k120_8
  subst k9010_0
  refine Tr.imp (sp_X12_must_120 hI a1 ha1 hq0 hq1 hq2) ?_
  rintro M' _ ⟨hS, rfl, z0, z1, z2, z3, z4, z5⟩
  exact ⟨hS, _, _, _, _, _, _, rfl, ir_120_3 hS.1.2.1, rfl, ir_120_4 hS.1.2.1, rfl, ir_120_5 hS.1.2.1, rfl, ir_120_7 hS.1.2.1, rfl, ir_120_8 hS.1.2.1, rfl, (tav_b hS.1.2.1), rfl, hd_i z0, z1, hd_i z2, z3, hd_i z4, hd_i z5⟩

def ws_X12_declares_120 : List (Int × Int) := [(120, 3), (120, 4), (120, 5), (120, 6), (120, 7), (120, 8), (120, 9), (122, 1), (123, 1), (124, 1), (125, 1), (126, 1), (127, 1), (128, 1)]
def as_X12_declares_120 : List Int := [130, 131, 132, 133, 134, 135]
def q_X12_declares_120 (M0 M' : Mem) (r : Option PV) : Prop := St Pm1 ws_X12_declares_120 as_X12_declares_120 M0 M' ∧ ∃ v : Int, r = some (0, v) ∧ 0 ≤ v ∧ v ≤ 1 ∧ (rd M' 120 3 = 0 ∨ rd M' 120 4 + 1 ≤ rd M' 120 5) ∧ (rd M' 120 4 ≤ rd M' 120 5) ∧ (rd M' 120 3 ≠ 1 ∨ rd M' 120 4 + 2 ≤ rd M' 120 5 ∨ rd M' 120 7 < 256) ∧ (rd M0 120 4 ≤ rd M' 120 4 ∧ rd M0 120 5 ≤ rd M' 120 5 ∧ tav M0 ≤ tav M') ∧ (rd M0 120 8 = 0 ∨ rd M' 120 8 = rd M0 120 8) ∧ (v = 0 ∨ 1 ≤ rd M' 120 8 ∨ tav M0 < tav M')
theorem kp_X12_declares_120_120_37 {q : Mem → Prop} {M0 M : Mem} (h : St q ws_X12_declares_120 as_X12_declares_120 M0 M) : rd M 120 37 = rd M0 120 37 := St.kp h (by decide) (by decide) (by decide)
set_option maxRecDepth 100000 in
set_option maxHeartbeats 4000000 in
theorem sp_X12_declares_120 {l : Launch} {K : EC} {M0 : Mem} (hI : In Pm1 M0) (en_120_37 : rd M0 120 37 = 1)   (hq0 : rd M0 120 3 = 0 ∨ rd M0 120 4 + 1 ≤ rd M0 120 5) (hq1 : rd M0 120 4 ≤ rd M0 120 5) (hq2 : rd M0 120 3 ≠ 1 ∨ rd M0 120 4 + 2 ≤ rd M0 120 5 ∨ rd M0 120 7 < 256) (hq3 : rd M0 120 3 ≠ 0) (hq4 : rd M0 120 8 = 0) : Tr l K 4 mX12_declares 0 [(0, (2, 120))] [] M0 (q_X12_declares_120 M0) := by
  have hS : St Pm1 ws_X12_declares_120 as_X12_declares_120 M0 M0 := St.rf hI
  obtain ⟨g120_8, eg120_8⟩ : ∃ v, rd M0 120 8 = v := ⟨_, rfl⟩
  have bg120_8 : 0 ≤ g120_8 ∧ g120_8 ≤ 5 := by rw [← eg120_8]; exact ir_120_8 hI.2.1
  obtain ⟨g120_3, eg120_3⟩ : ∃ v, rd M0 120 3 = v := ⟨_, rfl⟩
  have bg120_3 : 0 ≤ g120_3 ∧ g120_3 ≤ 3 := by rw [← eg120_3]; exact ir_120_3 hI.2.1
  obtain ⟨g120_4, eg120_4⟩ : ∃ v, rd M0 120 4 = v := ⟨_, rfl⟩
  have bg120_4 : 0 ≤ g120_4 ∧ g120_4 ≤ 900 := by rw [← eg120_4]; exact ir_120_4 hI.2.1
  obtain ⟨g120_5, eg120_5⟩ : ∃ v, rd M0 120 5 = v := ⟨_, rfl⟩
  have bg120_5 : 0 ≤ g120_5 ∧ g120_5 ≤ 900 := by rw [← eg120_5]; exact ir_120_5 hI.2.1
  obtain ⟨g120_7, eg120_7⟩ : ∃ v, rd M0 120 7 = v := ⟨_, rfl⟩
  have bg120_7 : (-9223372036854775808) ≤ g120_7 ∧ g120_7 ≤ 9223372036854775807 := by rw [← eg120_7]; exact ir_120_7 hI.2.1
  obtain ⟨g9010_0, eg9010_0⟩ : ∃ v, tav M0 = v := ⟨_, rfl⟩
  have bg9010_0 : (-1) ≤ g9010_0 ∧ g9010_0 ≤ 1800 := by rw [← eg9010_0]; exact (tav_b hI.2.1)
  obtain ⟨g120_6, eg120_6⟩ : ∃ v, rd M0 120 6 = v := ⟨_, rfl⟩
  have bg120_6 : (-2147483648) ≤ g120_6 ∧ g120_6 ≤ 2147483647 := by rw [← eg120_6]; exact ir_120_6 hI.2.1
  replace hq0 := hd_i hq0
  replace hq2 := hd_i hq2
  replace hq3 := hd_i hq3
  refine Tr.aload_n (pc := 0) (i := 0) d_X12_declares_0 rfl rfl ?_
  refine Tr.ldc2 (pc := 1) d_X12_declares_1 kl_12_399 (by decide) ?_
  refine Tr.callV (pc := 4) (as := [_]) d_X12_declares_4 s_12_484 ok_X12_isWord rfl rfl (Nat.le_of_ble_eq_true rfl) (Nat.le_of_ble_eq_true rfl) (by decide) (ty_120 hS.1.1) ?_
  refine Tr.imp (Tr.deep (by decide) (ns_X12_isWord_120 (G120_3 := g120_3) (G120_7 := g120_7) hS.1.wk (eg120_3) (eg120_7) 448377483892 (by omega))) ?_
  rintro M4 _ ⟨h4, r4, rfl, lr4, ur4, z4_0⟩
  have h4 := St.rn h4 (Pm1.of hS.1.2.2.2.2 (fun _ => (ka_X12_isWord_120_131 h4 _)) (fun _ => (ka_X12_isWord_120_137 h4 _)) (fun _ => (ka_X12_isWord_120_138 h4 _)) (fun _ => (ka_X12_isWord_120_139 h4 _)) (fun _ => (ka_X12_isWord_120_140 h4 _)) (fun _ => (ka_X12_isWord_120_141 h4 _)) (fun _ => (ka_X12_isWord_120_142 h4 _)) (fun _ => (ka_X12_isWord_120_143 h4 _)) (fun _ => (ka_X12_isWord_120_151 h4 _)) (fun _ => (ka_X12_isWord_120_152 h4 _)) (kp_X12_isWord_120_126_0 h4) (kp_X12_isWord_120_126_1 h4) (kp_X12_isWord_120_136_0 h4) (kp_X12_isWord_120_136_1 h4) (kp_X12_isWord_120_123_0 h4) (kp_X12_isWord_120_123_1 h4) (kp_X12_isWord_120_124_0 h4) (kp_X12_isWord_120_124_1 h4) (kp_X12_isWord_120_120_8 h4) (kp_X12_isWord_120_120_36 h4) (kp_X12_isWord_120_120_50 h4))
  have hS := St.tr hS h4 (by decide) (by decide)
  refine Tr.sc [(0, r4)] rfl ?_
  have J152 : ∀ (M : Mem) (u152_120_3 u152_120_4 u152_120_5 u152_120_6 u152_120_7 u152_120_8 u152_9010_0 : Int), St Pm1 ws_X12_declares_120 as_X12_declares_120 M0 M → (0 ≤ u152_120_3 ∧ u152_120_3 ≤ 3) → (0 ≤ u152_120_4 ∧ u152_120_4 ≤ 900) → (0 ≤ u152_120_5 ∧ u152_120_5 ≤ 900) → ((-2147483648) ≤ u152_120_6 ∧ u152_120_6 ≤ 2147483647) → ((-9223372036854775808) ≤ u152_120_7 ∧ u152_120_7 ≤ 9223372036854775807) → (0 ≤ u152_120_8 ∧ u152_120_8 ≤ 5) → ((-1) ≤ u152_9010_0 ∧ u152_9010_0 ≤ 1800) → rd M 120 3 = u152_120_3 → rd M 120 4 = u152_120_4 → rd M 120 5 = u152_120_5 → rd M 120 6 = u152_120_6 → rd M 120 7 = u152_120_7 → rd M 120 8 = u152_120_8 → tav M = u152_9010_0 → (u152_120_3 = 0 ∨ u152_120_4 + 1 ≤ u152_120_5) → (u152_120_4 ≤ u152_120_5) → (u152_120_3 ≠ 1 ∨ u152_120_4 + 2 ≤ u152_120_5 ∨ u152_120_7 < 256) → (g120_4 ≤ u152_120_4 ∧ g120_5 ≤ u152_120_5 ∧ g9010_0 ≤ u152_9010_0) → (g120_8 = 0 ∨ u152_120_8 = g120_8) → Tr l K 4 mX12_declares 152 [(0, (2, 120))] [] M (q_X12_declares_120 M0) := by
    intro M u152_120_3 u152_120_4 u152_120_5 u152_120_6 u152_120_7 u152_120_8 u152_9010_0 hS bu152_120_3 bu152_120_4 bu152_120_5 bu152_120_6 bu152_120_7 bu152_120_8 bu152_9010_0 k152_120_3 k152_120_4 k152_120_5 k152_120_6 k152_120_7 k152_120_8 k152_9010_0 t152_0 t152_1 t152_2 t152_3 t152_4
    replace t152_0 := hd_i t152_0
    replace t152_2 := hd_i t152_2
    replace t152_4 := hd_i t152_4
    refine Tr.aload_n (pc := 152) (i := 0) d_X12_declares_152 rfl rfl ?_
    refine Tr.bipush (pc := 153) d_X12_declares_153 rfl (by decide) ?_
    refine Tr.callV (pc := 155) (as := [_]) d_X12_declares_155 s_12_529 ok_X12_must rfl rfl (Nat.le_of_ble_eq_true rfl) (Nat.le_of_ble_eq_true rfl) (by decide) (ty_120 hS.1.1) ?_
    refine Tr.imp (Tr.deep (by decide) (ns_X12_must_120 (G120_3 := u152_120_3) (G120_4 := u152_120_4) (G120_5 := u152_120_5) (G120_7 := u152_120_7) (G120_8 := u152_120_8) (G9010_0 := u152_9010_0) hS.1 (k152_120_3) (k152_120_4) (k152_120_5) (k152_120_7) (k152_120_8) (k152_9010_0) 59 (by omega) (by first | exact (hd_o t152_0) | exact (hd_o t152_0).elim (fun h1 => by omega) (fun h1 => by omega)) (by omega) (by first | exact (hd_o t152_2) | exact (hd_o t152_2).elim (fun h1 => by omega) (fun h1 => h1.elim (fun h1 => by omega) (fun h1 => by omega))))) ?_
    rintro M155 _ ⟨h155, s155_120_3, s155_120_4, s155_120_5, s155_120_7, s155_120_8, s155_9010_0, es155_120_3, bs155_120_3, es155_120_4, bs155_120_4, es155_120_5, bs155_120_5, es155_120_7, bs155_120_7, es155_120_8, bs155_120_8, es155_9010_0, bs155_9010_0, rfl, z155_0, z155_1, z155_2, z155_3, z155_4, z155_5⟩
    have hS := St.tr hS h155 (by decide) (by decide)
    refine Tr.sc [] rfl ?_
    refine Tr.iconst (pc := 158) d_X12_declares_158 (by decide) ?_
    have kr_120_3 : rd M155 120 3 = s155_120_3 := es155_120_3
    have kr_120_4 : rd M155 120 4 = s155_120_4 := es155_120_4
    have kr_120_5 : rd M155 120 5 = s155_120_5 := es155_120_5
    have kr_120_7 : rd M155 120 7 = s155_120_7 := es155_120_7
    have kr_120_8 : rd M155 120 8 = s155_120_8 := es155_120_8
    have kr_9010_0 : tav M155 = s155_9010_0 := es155_9010_0
    exact Tr.zret (pc := 159) d_X12_declares_159 rfl (by omega) ⟨hS, _, rfl, by omega, by omega, (by first | exact (hd_o z155_0) | exact (hd_o z155_0).elim (fun h1 => by omega) (fun h1 => by omega)), (by omega), (by first | exact (hd_o z155_2) | exact (hd_o z155_2).elim (fun h1 => by omega) (fun h1 => h1.elim (fun h1 => by omega) (fun h1 => by omega))), (by and_intros <;> omega), (by omega), (by exact (hd_o z155_5).elim (fun h1 => by omega) (fun h1 => by omega))⟩
  refine Tr.if_eq (pc := 7) (tgt := 34) d_X12_declares_7 rfl (fun c7 => ?_) (fun c7 => ?_)
  · refine Tr.aload_n (pc := 34) (i := 0) d_X12_declares_34 rfl rfl ?_
    refine Tr.ldc2 (pc := 35) d_X12_declares_35 kl_12_401 (by decide) ?_
    refine Tr.callV (pc := 38) (as := [_]) d_X12_declares_38 s_12_484 ok_X12_isWord rfl rfl (Nat.le_of_ble_eq_true rfl) (Nat.le_of_ble_eq_true rfl) (by decide) (ty_120 hS.1.1) ?_
    refine Tr.imp (Tr.deep (by decide) (ns_X12_isWord_120 (G120_3 := g120_3) (G120_7 := g120_7) hS.1.wk (((kp_X12_isWord_120_120_3 h4).trans eg120_3)) (((kp_X12_isWord_120_120_7 h4).trans eg120_7)) 426835667045 (by omega))) ?_
    rintro M38 _ ⟨h38, r38, rfl, lr38, ur38, z38_0⟩
    have h38 := St.rn h38 (Pm1.of hS.1.2.2.2.2 (fun _ => (ka_X12_isWord_120_131 h38 _)) (fun _ => (ka_X12_isWord_120_137 h38 _)) (fun _ => (ka_X12_isWord_120_138 h38 _)) (fun _ => (ka_X12_isWord_120_139 h38 _)) (fun _ => (ka_X12_isWord_120_140 h38 _)) (fun _ => (ka_X12_isWord_120_141 h38 _)) (fun _ => (ka_X12_isWord_120_142 h38 _)) (fun _ => (ka_X12_isWord_120_143 h38 _)) (fun _ => (ka_X12_isWord_120_151 h38 _)) (fun _ => (ka_X12_isWord_120_152 h38 _)) (kp_X12_isWord_120_126_0 h38) (kp_X12_isWord_120_126_1 h38) (kp_X12_isWord_120_136_0 h38) (kp_X12_isWord_120_136_1 h38) (kp_X12_isWord_120_123_0 h38) (kp_X12_isWord_120_123_1 h38) (kp_X12_isWord_120_124_0 h38) (kp_X12_isWord_120_124_1 h38) (kp_X12_isWord_120_120_8 h38) (kp_X12_isWord_120_120_36 h38) (kp_X12_isWord_120_120_50 h38))
    have hS := St.tr hS h38 (by decide) (by decide)
    refine Tr.sc [(0, r38)] rfl ?_
    refine Tr.if_eq (pc := 41) (tgt := 99) d_X12_declares_41 rfl (fun c41 => ?_) (fun c41 => ?_)
    · refine Tr.aload_n (pc := 99) (i := 0) d_X12_declares_99 rfl rfl ?_
      refine Tr.ldc2 (pc := 100) d_X12_declares_100 kl_12_403 (by decide) ?_
      refine Tr.callV (pc := 103) (as := [_]) d_X12_declares_103 s_12_484 ok_X12_isWord rfl rfl (Nat.le_of_ble_eq_true rfl) (Nat.le_of_ble_eq_true rfl) (by decide) (ty_120 hS.1.1) ?_
      refine Tr.imp (Tr.deep (by decide) (ns_X12_isWord_120 (G120_3 := g120_3) (G120_7 := g120_7) hS.1.wk (((kp_X12_isWord_120_120_3 h38).trans ((kp_X12_isWord_120_120_3 h4).trans eg120_3))) (((kp_X12_isWord_120_120_7 h38).trans ((kp_X12_isWord_120_120_7 h4).trans eg120_7))) 1885434484 (by omega))) ?_
      rintro M103 _ ⟨h103, r103, rfl, lr103, ur103, z103_0⟩
      have h103 := St.rn h103 (Pm1.of hS.1.2.2.2.2 (fun _ => (ka_X12_isWord_120_131 h103 _)) (fun _ => (ka_X12_isWord_120_137 h103 _)) (fun _ => (ka_X12_isWord_120_138 h103 _)) (fun _ => (ka_X12_isWord_120_139 h103 _)) (fun _ => (ka_X12_isWord_120_140 h103 _)) (fun _ => (ka_X12_isWord_120_141 h103 _)) (fun _ => (ka_X12_isWord_120_142 h103 _)) (fun _ => (ka_X12_isWord_120_143 h103 _)) (fun _ => (ka_X12_isWord_120_151 h103 _)) (fun _ => (ka_X12_isWord_120_152 h103 _)) (kp_X12_isWord_120_126_0 h103) (kp_X12_isWord_120_126_1 h103) (kp_X12_isWord_120_136_0 h103) (kp_X12_isWord_120_136_1 h103) (kp_X12_isWord_120_123_0 h103) (kp_X12_isWord_120_123_1 h103) (kp_X12_isWord_120_124_0 h103) (kp_X12_isWord_120_124_1 h103) (kp_X12_isWord_120_120_8 h103) (kp_X12_isWord_120_120_36 h103) (kp_X12_isWord_120_120_50 h103))
      have hS := St.tr hS h103 (by decide) (by decide)
      refine Tr.sc [(0, r103)] rfl ?_
      refine Tr.if_eq (pc := 106) (tgt := 116) d_X12_declares_106 rfl (fun c106 => ?_) (fun c106 => ?_)
      · refine Tr.aload_n (pc := 116) (i := 0) d_X12_declares_116 rfl rfl ?_
        refine Tr.ldc2 (pc := 117) d_X12_declares_117 kl_12_415 (by decide) ?_
        refine Tr.callV (pc := 120) (as := [_]) d_X12_declares_120 s_12_484 ok_X12_isWord rfl rfl (Nat.le_of_ble_eq_true rfl) (Nat.le_of_ble_eq_true rfl) (by decide) (ty_120 hS.1.1) ?_
        refine Tr.imp (Tr.deep (by decide) (ns_X12_isWord_120 (G120_3 := g120_3) (G120_7 := g120_7) hS.1.wk (((kp_X12_isWord_120_120_3 h103).trans ((kp_X12_isWord_120_120_3 h38).trans ((kp_X12_isWord_120_120_3 h4).trans eg120_3)))) (((kp_X12_isWord_120_120_7 h103).trans ((kp_X12_isWord_120_120_7 h38).trans ((kp_X12_isWord_120_120_7 h4).trans eg120_7)))) 452824429940 (by omega))) ?_
        rintro M120 _ ⟨h120, r120, rfl, lr120, ur120, z120_0⟩
        have h120 := St.rn h120 (Pm1.of hS.1.2.2.2.2 (fun _ => (ka_X12_isWord_120_131 h120 _)) (fun _ => (ka_X12_isWord_120_137 h120 _)) (fun _ => (ka_X12_isWord_120_138 h120 _)) (fun _ => (ka_X12_isWord_120_139 h120 _)) (fun _ => (ka_X12_isWord_120_140 h120 _)) (fun _ => (ka_X12_isWord_120_141 h120 _)) (fun _ => (ka_X12_isWord_120_142 h120 _)) (fun _ => (ka_X12_isWord_120_143 h120 _)) (fun _ => (ka_X12_isWord_120_151 h120 _)) (fun _ => (ka_X12_isWord_120_152 h120 _)) (kp_X12_isWord_120_126_0 h120) (kp_X12_isWord_120_126_1 h120) (kp_X12_isWord_120_136_0 h120) (kp_X12_isWord_120_136_1 h120) (kp_X12_isWord_120_123_0 h120) (kp_X12_isWord_120_123_1 h120) (kp_X12_isWord_120_124_0 h120) (kp_X12_isWord_120_124_1 h120) (kp_X12_isWord_120_120_8 h120) (kp_X12_isWord_120_120_36 h120) (kp_X12_isWord_120_120_50 h120))
        have hS := St.tr hS h120 (by decide) (by decide)
        refine Tr.sc [(0, r120)] rfl ?_
        refine Tr.if_eq (pc := 123) (tgt := 133) d_X12_declares_123 rfl (fun c123 => ?_) (fun c123 => ?_)
        · refine Tr.aload_n (pc := 133) (i := 0) d_X12_declares_133 rfl rfl ?_
          refine Tr.ldc2 (pc := 134) d_X12_declares_134 kl_12_417 (by decide) ?_
          refine Tr.callV (pc := 137) (as := [_]) d_X12_declares_137 s_12_484 ok_X12_isWord rfl rfl (Nat.le_of_ble_eq_true rfl) (Nat.le_of_ble_eq_true rfl) (by decide) (ty_120 hS.1.1) ?_
          refine Tr.imp (Tr.deep (by decide) (ns_X12_isWord_120 (G120_3 := g120_3) (G120_7 := g120_7) hS.1.wk (((kp_X12_isWord_120_120_3 h120).trans ((kp_X12_isWord_120_120_3 h103).trans ((kp_X12_isWord_120_120_3 h38).trans ((kp_X12_isWord_120_120_3 h4).trans eg120_3))))) (((kp_X12_isWord_120_120_7 h120).trans ((kp_X12_isWord_120_120_7 h103).trans ((kp_X12_isWord_120_120_7 h38).trans ((kp_X12_isWord_120_120_7 h4).trans eg120_7))))) 7758194 (by omega))) ?_
          rintro M137 _ ⟨h137, r137, rfl, lr137, ur137, z137_0⟩
          have h137 := St.rn h137 (Pm1.of hS.1.2.2.2.2 (fun _ => (ka_X12_isWord_120_131 h137 _)) (fun _ => (ka_X12_isWord_120_137 h137 _)) (fun _ => (ka_X12_isWord_120_138 h137 _)) (fun _ => (ka_X12_isWord_120_139 h137 _)) (fun _ => (ka_X12_isWord_120_140 h137 _)) (fun _ => (ka_X12_isWord_120_141 h137 _)) (fun _ => (ka_X12_isWord_120_142 h137 _)) (fun _ => (ka_X12_isWord_120_143 h137 _)) (fun _ => (ka_X12_isWord_120_151 h137 _)) (fun _ => (ka_X12_isWord_120_152 h137 _)) (kp_X12_isWord_120_126_0 h137) (kp_X12_isWord_120_126_1 h137) (kp_X12_isWord_120_136_0 h137) (kp_X12_isWord_120_136_1 h137) (kp_X12_isWord_120_123_0 h137) (kp_X12_isWord_120_123_1 h137) (kp_X12_isWord_120_124_0 h137) (kp_X12_isWord_120_124_1 h137) (kp_X12_isWord_120_120_8 h137) (kp_X12_isWord_120_120_36 h137) (kp_X12_isWord_120_120_50 h137))
          have hS := St.tr hS h137 (by decide) (by decide)
          refine Tr.sc [(0, r137)] rfl ?_
          refine Tr.if_eq (pc := 140) (tgt := 150) d_X12_declares_140 rfl (fun c140 => ?_) (fun c140 => ?_)
          · refine Tr.iconst (pc := 150) d_X12_declares_150 (by decide) ?_
            have kr_120_3 : rd M137 120 3 = g120_3 := ((kp_X12_isWord_120_120_3 h137).trans ((kp_X12_isWord_120_120_3 h120).trans ((kp_X12_isWord_120_120_3 h103).trans ((kp_X12_isWord_120_120_3 h38).trans ((kp_X12_isWord_120_120_3 h4).trans eg120_3)))))
            have kr_120_4 : rd M137 120 4 = g120_4 := ((kp_X12_isWord_120_120_4 h137).trans ((kp_X12_isWord_120_120_4 h120).trans ((kp_X12_isWord_120_120_4 h103).trans ((kp_X12_isWord_120_120_4 h38).trans ((kp_X12_isWord_120_120_4 h4).trans eg120_4)))))
            have kr_120_5 : rd M137 120 5 = g120_5 := ((kp_X12_isWord_120_120_5 h137).trans ((kp_X12_isWord_120_120_5 h120).trans ((kp_X12_isWord_120_120_5 h103).trans ((kp_X12_isWord_120_120_5 h38).trans ((kp_X12_isWord_120_120_5 h4).trans eg120_5)))))
            have kr_120_7 : rd M137 120 7 = g120_7 := ((kp_X12_isWord_120_120_7 h137).trans ((kp_X12_isWord_120_120_7 h120).trans ((kp_X12_isWord_120_120_7 h103).trans ((kp_X12_isWord_120_120_7 h38).trans ((kp_X12_isWord_120_120_7 h4).trans eg120_7)))))
            have kr_120_8 : rd M137 120 8 = g120_8 := ((kp_X12_isWord_120_120_8 h137).trans ((kp_X12_isWord_120_120_8 h120).trans ((kp_X12_isWord_120_120_8 h103).trans ((kp_X12_isWord_120_120_8 h38).trans ((kp_X12_isWord_120_120_8 h4).trans eg120_8)))))
            have kr_9010_0 : tav M137 = g9010_0 := ((tav_of ((kp_X12_isWord_120_120_5 h137).trans ((kp_X12_isWord_120_120_5 h120).trans ((kp_X12_isWord_120_120_5 h103).trans ((kp_X12_isWord_120_120_5 h38).trans ((kp_X12_isWord_120_120_5 h4).trans rfl))))) ((kp_X12_isWord_120_120_3 h137).trans ((kp_X12_isWord_120_120_3 h120).trans ((kp_X12_isWord_120_120_3 h103).trans ((kp_X12_isWord_120_120_3 h38).trans ((kp_X12_isWord_120_120_3 h4).trans rfl)))))).trans eg9010_0)
            exact Tr.zret (pc := 151) d_X12_declares_151 rfl (by omega) ⟨hS, _, rfl, by omega, by omega, (by first | exact (hd_o hq0) | exact (hd_o hq0).elim (fun h1 => by omega) (fun h1 => by omega)), (by omega), (by first | exact (hd_o hq2) | exact (hd_o hq2).elim (fun h1 => by omega) (fun h1 => h1.elim (fun h1 => by omega) (fun h1 => by omega))), (by and_intros <;> omega), (by omega), (by omega)⟩
          · have c140b : 1 ≤ r137 ∧ r137 ≤ 1 := by omega
            replace c140 := hd_i c140
            refine Tr.aload_n (pc := 143) (i := 0) d_X12_declares_143 rfl rfl ?_
            refine Tr.callV (pc := 144) (as := []) d_X12_declares_144 s_12_526 ok_X12_variable rfl rfl (Nat.le_of_ble_eq_true rfl) (Nat.le_of_ble_eq_true rfl) (by decide) (ty_120 hS.1.1) ?_
            refine Tr.imp (Tr.deep (by decide) (ns_X12_variable_120 (G120_3 := g120_3) (G120_4 := g120_4) (G120_5 := g120_5) (G120_7 := g120_7) (G120_8 := g120_8) (G9010_0 := g9010_0) hS.1 (((kp_X12_isWord_120_120_3 h137).trans ((kp_X12_isWord_120_120_3 h120).trans ((kp_X12_isWord_120_120_3 h103).trans ((kp_X12_isWord_120_120_3 h38).trans ((kp_X12_isWord_120_120_3 h4).trans eg120_3)))))) (((kp_X12_isWord_120_120_4 h137).trans ((kp_X12_isWord_120_120_4 h120).trans ((kp_X12_isWord_120_120_4 h103).trans ((kp_X12_isWord_120_120_4 h38).trans ((kp_X12_isWord_120_120_4 h4).trans eg120_4)))))) (((kp_X12_isWord_120_120_5 h137).trans ((kp_X12_isWord_120_120_5 h120).trans ((kp_X12_isWord_120_120_5 h103).trans ((kp_X12_isWord_120_120_5 h38).trans ((kp_X12_isWord_120_120_5 h4).trans eg120_5)))))) (((kp_X12_isWord_120_120_7 h137).trans ((kp_X12_isWord_120_120_7 h120).trans ((kp_X12_isWord_120_120_7 h103).trans ((kp_X12_isWord_120_120_7 h38).trans ((kp_X12_isWord_120_120_7 h4).trans eg120_7)))))) (((kp_X12_isWord_120_120_8 h137).trans ((kp_X12_isWord_120_120_8 h120).trans ((kp_X12_isWord_120_120_8 h103).trans ((kp_X12_isWord_120_120_8 h38).trans ((kp_X12_isWord_120_120_8 h4).trans eg120_8)))))) (((tav_of ((kp_X12_isWord_120_120_5 h137).trans ((kp_X12_isWord_120_120_5 h120).trans ((kp_X12_isWord_120_120_5 h103).trans ((kp_X12_isWord_120_120_5 h38).trans ((kp_X12_isWord_120_120_5 h4).trans rfl))))) ((kp_X12_isWord_120_120_3 h137).trans ((kp_X12_isWord_120_120_3 h120).trans ((kp_X12_isWord_120_120_3 h103).trans ((kp_X12_isWord_120_120_3 h38).trans ((kp_X12_isWord_120_120_3 h4).trans rfl)))))).trans eg9010_0)) ((kp_X12_declares_120_120_37 hS).trans en_120_37) (by first | exact (hd_o hq0) | exact (hd_o hq0).elim (fun h1 => by omega) (fun h1 => by omega)) (by omega) (by first | exact (hd_o hq2) | exact (hd_o hq2).elim (fun h1 => by omega) (fun h1 => h1.elim (fun h1 => by omega) (fun h1 => by omega))) (by have h1 := (hd_o hq3); omega) (by omega))) ?_
            rintro M144 _ ⟨h144, s144_120_3, s144_120_4, s144_120_5, s144_120_7, s144_120_8, s144_9010_0, es144_120_3, bs144_120_3, es144_120_4, bs144_120_4, es144_120_5, bs144_120_5, es144_120_7, bs144_120_7, es144_120_8, bs144_120_8, es144_9010_0, bs144_9010_0, rfl, z144_0, z144_1, z144_2, z144_3, z144_4, z144_5⟩
            have hS := St.tr hS h144 (by decide) (by decide)
            refine Tr.sc [] rfl ?_
            refine Tr.goto (pc := 147) (tgt := 152) d_X12_declares_147 rfl ?_
            refine Tr.pick [0] (ls2 := [(0, (2, 120))]) rfl ?_
            obtain ⟨w152p147_120_6, ew152p147_120_6⟩ : ∃ v, rd M144 120 6 = v := ⟨_, rfl⟩
            have bw152p147_120_6 : (-2147483648) ≤ w152p147_120_6 ∧ w152p147_120_6 ≤ 2147483647 := by rw [← ew152p147_120_6]; exact ir_120_6 hS.1.2.1
            exact J152 _ _ _ _ _ _ _ _ hS (by and_intros <;> omega) (by and_intros <;> omega) (by and_intros <;> omega) (by and_intros <;> omega) (by omega) (by and_intros <;> omega) (by and_intros <;> omega) es144_120_3 es144_120_4 es144_120_5 ew152p147_120_6 es144_120_7 es144_120_8 es144_9010_0 (by first | exact (hd_o z144_0) | exact (hd_o z144_0).elim (fun h1 => by omega) (fun h1 => by omega)) (by omega) (by first | exact (hd_o z144_2) | exact (hd_o z144_2).elim (fun h1 => by omega) (fun h1 => h1.elim (fun h1 => by omega) (fun h1 => by omega))) (by and_intros <;> omega) (by first | exact (hd_o z144_4) | exact (hd_o z144_4).elim (fun h1 => by omega) (fun h1 => by omega))
        · have c123b : 1 ≤ r120 ∧ r120 ≤ 1 := by omega
          replace c123 := hd_i c123
          refine Tr.aload_n (pc := 126) (i := 0) d_X12_declares_126 rfl rfl ?_
          refine Tr.callV (pc := 127) (as := []) d_X12_declares_127 s_12_523 ok_X12_input rfl rfl (Nat.le_of_ble_eq_true rfl) (Nat.le_of_ble_eq_true rfl) (by decide) (ty_120 hS.1.1) ?_
          refine Tr.imp (Tr.deep (by decide) (ns_X12_input_120 (G120_3 := g120_3) (G120_4 := g120_4) (G120_5 := g120_5) (G120_7 := g120_7) (G120_8 := g120_8) (G9010_0 := g9010_0) hS.1 (((kp_X12_isWord_120_120_3 h120).trans ((kp_X12_isWord_120_120_3 h103).trans ((kp_X12_isWord_120_120_3 h38).trans ((kp_X12_isWord_120_120_3 h4).trans eg120_3))))) (((kp_X12_isWord_120_120_4 h120).trans ((kp_X12_isWord_120_120_4 h103).trans ((kp_X12_isWord_120_120_4 h38).trans ((kp_X12_isWord_120_120_4 h4).trans eg120_4))))) (((kp_X12_isWord_120_120_5 h120).trans ((kp_X12_isWord_120_120_5 h103).trans ((kp_X12_isWord_120_120_5 h38).trans ((kp_X12_isWord_120_120_5 h4).trans eg120_5))))) (((kp_X12_isWord_120_120_7 h120).trans ((kp_X12_isWord_120_120_7 h103).trans ((kp_X12_isWord_120_120_7 h38).trans ((kp_X12_isWord_120_120_7 h4).trans eg120_7))))) (((kp_X12_isWord_120_120_8 h120).trans ((kp_X12_isWord_120_120_8 h103).trans ((kp_X12_isWord_120_120_8 h38).trans ((kp_X12_isWord_120_120_8 h4).trans eg120_8))))) (((tav_of ((kp_X12_isWord_120_120_5 h120).trans ((kp_X12_isWord_120_120_5 h103).trans ((kp_X12_isWord_120_120_5 h38).trans ((kp_X12_isWord_120_120_5 h4).trans rfl)))) ((kp_X12_isWord_120_120_3 h120).trans ((kp_X12_isWord_120_120_3 h103).trans ((kp_X12_isWord_120_120_3 h38).trans ((kp_X12_isWord_120_120_3 h4).trans rfl))))).trans eg9010_0)) ((kp_X12_declares_120_120_37 hS).trans en_120_37) (by first | exact (hd_o hq0) | exact (hd_o hq0).elim (fun h1 => by omega) (fun h1 => by omega)) (by omega) (by first | exact (hd_o hq2) | exact (hd_o hq2).elim (fun h1 => by omega) (fun h1 => h1.elim (fun h1 => by omega) (fun h1 => by omega))) (by have h1 := (hd_o hq3); omega) (by omega))) ?_
          rintro M127 _ ⟨h127, s127_120_3, s127_120_4, s127_120_5, s127_120_7, s127_120_8, s127_9010_0, es127_120_3, bs127_120_3, es127_120_4, bs127_120_4, es127_120_5, bs127_120_5, es127_120_7, bs127_120_7, es127_120_8, bs127_120_8, es127_9010_0, bs127_9010_0, rfl, z127_0, z127_1, z127_2, z127_3, z127_4, z127_5⟩
          have hS := St.tr hS h127 (by decide) (by decide)
          refine Tr.sc [] rfl ?_
          refine Tr.goto (pc := 130) (tgt := 152) d_X12_declares_130 rfl ?_
          refine Tr.pick [0] (ls2 := [(0, (2, 120))]) rfl ?_
          obtain ⟨w152p130_120_6, ew152p130_120_6⟩ : ∃ v, rd M127 120 6 = v := ⟨_, rfl⟩
          have bw152p130_120_6 : (-2147483648) ≤ w152p130_120_6 ∧ w152p130_120_6 ≤ 2147483647 := by rw [← ew152p130_120_6]; exact ir_120_6 hS.1.2.1
          exact J152 _ _ _ _ _ _ _ _ hS (by and_intros <;> omega) (by and_intros <;> omega) (by and_intros <;> omega) (by and_intros <;> omega) (by omega) (by and_intros <;> omega) (by and_intros <;> omega) es127_120_3 es127_120_4 es127_120_5 ew152p130_120_6 es127_120_7 es127_120_8 es127_9010_0 (by first | exact (hd_o z127_0) | exact (hd_o z127_0).elim (fun h1 => by omega) (fun h1 => by omega)) (by omega) (by first | exact (hd_o z127_2) | exact (hd_o z127_2).elim (fun h1 => by omega) (fun h1 => h1.elim (fun h1 => by omega) (fun h1 => by omega))) (by and_intros <;> omega) (by first | exact (hd_o z127_4) | exact (hd_o z127_4).elim (fun h1 => by omega) (fun h1 => by omega))
      · have c106b : 1 ≤ r103 ∧ r103 ≤ 1 := by omega
        replace c106 := hd_i c106
        refine Tr.aload_n (pc := 109) (i := 0) d_X12_declares_109 rfl rfl ?_
        refine Tr.callV (pc := 110) (as := []) d_X12_declares_110 s_12_520 ok_X12_part rfl rfl (Nat.le_of_ble_eq_true rfl) (Nat.le_of_ble_eq_true rfl) (by decide) (ty_120 hS.1.1) ?_
        refine Tr.imp (Tr.deep (by decide) (ns_X12_part_120 (G120_3 := g120_3) (G120_4 := g120_4) (G120_5 := g120_5) (G120_7 := g120_7) (G120_8 := g120_8) (G9010_0 := g9010_0) hS.1 (((kp_X12_isWord_120_120_3 h103).trans ((kp_X12_isWord_120_120_3 h38).trans ((kp_X12_isWord_120_120_3 h4).trans eg120_3)))) (((kp_X12_isWord_120_120_4 h103).trans ((kp_X12_isWord_120_120_4 h38).trans ((kp_X12_isWord_120_120_4 h4).trans eg120_4)))) (((kp_X12_isWord_120_120_5 h103).trans ((kp_X12_isWord_120_120_5 h38).trans ((kp_X12_isWord_120_120_5 h4).trans eg120_5)))) (((kp_X12_isWord_120_120_7 h103).trans ((kp_X12_isWord_120_120_7 h38).trans ((kp_X12_isWord_120_120_7 h4).trans eg120_7)))) (((kp_X12_isWord_120_120_8 h103).trans ((kp_X12_isWord_120_120_8 h38).trans ((kp_X12_isWord_120_120_8 h4).trans eg120_8)))) (((tav_of ((kp_X12_isWord_120_120_5 h103).trans ((kp_X12_isWord_120_120_5 h38).trans ((kp_X12_isWord_120_120_5 h4).trans rfl))) ((kp_X12_isWord_120_120_3 h103).trans ((kp_X12_isWord_120_120_3 h38).trans ((kp_X12_isWord_120_120_3 h4).trans rfl)))).trans eg9010_0)) ((kp_X12_declares_120_120_37 hS).trans en_120_37) (by first | exact (hd_o hq0) | exact (hd_o hq0).elim (fun h1 => by omega) (fun h1 => by omega)) (by omega) (by first | exact (hd_o hq2) | exact (hd_o hq2).elim (fun h1 => by omega) (fun h1 => h1.elim (fun h1 => by omega) (fun h1 => by omega))) (by have h1 := (hd_o hq3); omega) (by omega))) ?_
        rintro M110 _ ⟨h110, s110_120_3, s110_120_4, s110_120_5, s110_120_7, s110_120_8, s110_9010_0, es110_120_3, bs110_120_3, es110_120_4, bs110_120_4, es110_120_5, bs110_120_5, es110_120_7, bs110_120_7, es110_120_8, bs110_120_8, es110_9010_0, bs110_9010_0, rfl, z110_0, z110_1, z110_2, z110_3, z110_4, z110_5⟩
        have hS := St.tr hS h110 (by decide) (by decide)
        refine Tr.sc [] rfl ?_
        refine Tr.goto (pc := 113) (tgt := 152) d_X12_declares_113 rfl ?_
        refine Tr.pick [0] (ls2 := [(0, (2, 120))]) rfl ?_
        obtain ⟨w152p113_120_6, ew152p113_120_6⟩ : ∃ v, rd M110 120 6 = v := ⟨_, rfl⟩
        have bw152p113_120_6 : (-2147483648) ≤ w152p113_120_6 ∧ w152p113_120_6 ≤ 2147483647 := by rw [← ew152p113_120_6]; exact ir_120_6 hS.1.2.1
        exact J152 _ _ _ _ _ _ _ _ hS (by and_intros <;> omega) (by and_intros <;> omega) (by and_intros <;> omega) (by and_intros <;> omega) (by omega) (by and_intros <;> omega) (by and_intros <;> omega) es110_120_3 es110_120_4 es110_120_5 ew152p113_120_6 es110_120_7 es110_120_8 es110_9010_0 (by first | exact (hd_o z110_0) | exact (hd_o z110_0).elim (fun h1 => by omega) (fun h1 => by omega)) (by omega) (by first | exact (hd_o z110_2) | exact (hd_o z110_2).elim (fun h1 => by omega) (fun h1 => h1.elim (fun h1 => by omega) (fun h1 => by omega))) (by and_intros <;> omega) (by first | exact (hd_o z110_4) | exact (hd_o z110_4).elim (fun h1 => by omega) (fun h1 => by omega))
    · have c41b : 1 ≤ r38 ∧ r38 ≤ 1 := by omega
      replace c41 := hd_i c41
      refine Tr.aload_n (pc := 44) (i := 0) d_X12_declares_44 rfl rfl ?_
      refine Tr.callV (pc := 45) (as := []) d_X12_declares_45 s_12_396 ok_X12_next rfl rfl (Nat.le_of_ble_eq_true rfl) (Nat.le_of_ble_eq_true rfl) (by decide) (ty_120 hS.1.1) ?_
      refine Tr.imp (Tr.deep (by decide) (ns_X12_next_120 (G120_3 := g120_3) (G120_5 := g120_5) (G120_8 := g120_8) (G9010_0 := g9010_0) hS.1 (((kp_X12_isWord_120_120_3 h38).trans ((kp_X12_isWord_120_120_3 h4).trans eg120_3))) (((kp_X12_isWord_120_120_5 h38).trans ((kp_X12_isWord_120_120_5 h4).trans eg120_5))) (((kp_X12_isWord_120_120_8 h38).trans ((kp_X12_isWord_120_120_8 h4).trans eg120_8))) (((tav_of ((kp_X12_isWord_120_120_5 h38).trans ((kp_X12_isWord_120_120_5 h4).trans rfl)) ((kp_X12_isWord_120_120_3 h38).trans ((kp_X12_isWord_120_120_3 h4).trans rfl))).trans eg9010_0)))) ?_
      rintro M45 _ ⟨h45, s45_120_3, s45_120_4, s45_120_5, s45_120_7, s45_120_8, s45_9010_0, es45_120_3, bs45_120_3, es45_120_4, bs45_120_4, es45_120_5, bs45_120_5, es45_120_7, bs45_120_7, es45_120_8, bs45_120_8, es45_9010_0, bs45_9010_0, rfl, z45_0, z45_1, z45_2, z45_3, z45_4, z45_5, z45_6⟩
      have hS := St.tr hS h45 (by decide) (by decide)
      refine Tr.sc [] rfl ?_
      refine Tr.aload_n (pc := 48) (i := 0) d_X12_declares_48 rfl rfl ?_
      refine Tr.getf (pc := 49) d_X12_declares_49 f_12_54 (by decide) (by decide) (ty_120 hS.1.1) ?_
      refine Tr.tp 123 (fx_120_14 hS.1.1) ?_
      refine Tr.aload_n (pc := 52) (i := 0) d_X12_declares_52 rfl rfl ?_
      refine Tr.getf (pc := 53) d_X12_declares_53 f_12_124 (by decide) (by decide) (ty_120 hS.1.1) ?_
      refine Tr.tp 1 ((kp_X12_declares_120_120_37 hS).trans en_120_37) ?_
      refine Tr.aload_n (pc := 56) (i := 0) d_X12_declares_56 rfl rfl ?_
      refine Tr.iconst (pc := 57) d_X12_declares_57 (by decide) ?_
      refine Tr.bipush (pc := 58) d_X12_declares_58 rfl (by decide) ?_
      refine Tr.callV (pc := 60) (as := [_, _]) d_X12_declares_60 s_12_516 ok_X12_number rfl rfl (Nat.le_of_ble_eq_true rfl) (Nat.le_of_ble_eq_true rfl) (by decide) (ty_120 hS.1.1) ?_
      refine Tr.imp (Tr.deep (by decide) (ns_X12_number_120 (G120_3 := s45_120_3) (G120_4 := s45_120_4) (G120_5 := s45_120_5) (G120_7 := s45_120_7) (G120_8 := s45_120_8) (G9010_0 := s45_9010_0) hS.1 (es45_120_3) (es45_120_4) (es45_120_5) (es45_120_7) (es45_120_8) (es45_9010_0) 1 (by omega) 8 (by omega) (by first | exact (hd_o z45_0) | exact (hd_o z45_0).elim (fun h1 => by omega) (fun h1 => by omega)) (by omega) (by first | exact (hd_o z45_2) | exact (hd_o z45_2).elim (fun h1 => by omega) (fun h1 => h1.elim (fun h1 => by omega) (fun h1 => by omega))))) ?_
      rintro M60 _ ⟨h60, s60_120_3, s60_120_4, s60_120_5, s60_120_7, s60_120_8, s60_9010_0, es60_120_3, bs60_120_3, es60_120_4, bs60_120_4, es60_120_5, bs60_120_5, es60_120_7, bs60_120_7, es60_120_8, bs60_120_8, es60_9010_0, bs60_9010_0, r60, rfl, lr60, ur60, z60_0, z60_1, z60_2, z60_3, z60_4, z60_5, z60_6⟩
      have hS := St.tr hS h60 (by decide) (by decide)
      refine Tr.sc [(0, r60), (0, 1), (2, 123)] rfl ?_
      have kx_120_8 : rd M60 120 8 = s60_120_8 := es60_120_8
      refine Tr.iastS (pc := 63) (P := St Pm1 ws_X12_declares_120 as_X12_declares_120 M0) d_X12_declares_63 (ty_123 hS.1.1) (by omega) (by omega) (st_123_1 hS (by decide) (by and_intros <;> omega) (Pm1_cache hS.1.2.2.2.2 (by omega) (fun hf => by have hz : 1 ≤ s60_120_8 ∨ (1 ≤ r60 ∧ r60 ≤ 8) := (by first | exact (hd_o z60_6) | exact (hd_o z60_6).elim (fun h1 => by omega) (fun h1 => by omega)); omega))) (fun M63 hS w63 => ?_)
      refine Tr.aload_n (pc := 64) (i := 0) d_X12_declares_64 rfl rfl ?_
      refine Tr.getf (pc := 65) d_X12_declares_65 f_12_57 (by decide) (by decide) (ty_120 hS.1.1) ?_
      refine Tr.tp 124 (fx_120_15 hS.1.1) ?_
      refine Tr.aload_n (pc := 68) (i := 0) d_X12_declares_68 rfl rfl ?_
      refine Tr.getf (pc := 69) d_X12_declares_69 f_12_124 (by decide) (by decide) (ty_120 hS.1.1) ?_
      refine Tr.tp 1 ((kp_X12_declares_120_120_37 hS).trans en_120_37) ?_
      refine Tr.aload_n (pc := 72) (i := 0) d_X12_declares_72 rfl rfl ?_
      refine Tr.iconst (pc := 73) d_X12_declares_73 (by decide) ?_
      refine Tr.bipush (pc := 74) d_X12_declares_74 rfl (by decide) ?_
      refine Tr.callV (pc := 76) (as := [_, _]) d_X12_declares_76 s_12_516 ok_X12_number rfl rfl (Nat.le_of_ble_eq_true rfl) (Nat.le_of_ble_eq_true rfl) (by decide) (ty_120 hS.1.1) ?_
      refine Tr.imp (Tr.deep (by decide) (ns_X12_number_120 (G120_3 := s60_120_3) (G120_4 := s60_120_4) (G120_5 := s60_120_5) (G120_7 := s60_120_7) (G120_8 := s60_120_8) (G9010_0 := s60_9010_0) hS.1 (((Wr.b w63 rfl).trans es60_120_3)) (((Wr.b w63 rfl).trans es60_120_4)) (((Wr.b w63 rfl).trans es60_120_5)) (((Wr.b w63 rfl).trans es60_120_7)) (((Wr.b w63 rfl).trans es60_120_8)) (((tav_of ((Wr.b w63 rfl).trans rfl) ((Wr.b w63 rfl).trans rfl)).trans es60_9010_0)) 1 (by omega) 8 (by omega) (by first | exact (hd_o z60_0) | exact (hd_o z60_0).elim (fun h1 => by omega) (fun h1 => by omega)) (by omega) (by first | exact (hd_o z60_2) | exact (hd_o z60_2).elim (fun h1 => by omega) (fun h1 => h1.elim (fun h1 => by omega) (fun h1 => by omega))))) ?_
      rintro M76 _ ⟨h76, s76_120_3, s76_120_4, s76_120_5, s76_120_7, s76_120_8, s76_9010_0, es76_120_3, bs76_120_3, es76_120_4, bs76_120_4, es76_120_5, bs76_120_5, es76_120_7, bs76_120_7, es76_120_8, bs76_120_8, es76_9010_0, bs76_9010_0, r76, rfl, lr76, ur76, z76_0, z76_1, z76_2, z76_3, z76_4, z76_5, z76_6⟩
      have hS := St.tr hS h76 (by decide) (by decide)
      refine Tr.sc [(0, r76), (0, 1), (2, 124)] rfl ?_
      have kx_120_8 : rd M76 120 8 = s76_120_8 := es76_120_8
      refine Tr.iastS (pc := 79) (P := St Pm1 ws_X12_declares_120 as_X12_declares_120 M0) d_X12_declares_79 (ty_124 hS.1.1) (by omega) (by omega) (st_124_1 hS (by decide) (by and_intros <;> omega) (Pm1_cache hS.1.2.2.2.2 (by omega) (fun hf => by have hz : 1 ≤ s76_120_8 ∨ (1 ≤ r76 ∧ r76 ≤ 8) := (by first | exact (hd_o z76_6) | exact (hd_o z76_6).elim (fun h1 => by omega) (fun h1 => by omega)); omega))) (fun M79 hS w79 => ?_)
      refine Tr.aload_n (pc := 80) (i := 0) d_X12_declares_80 rfl rfl ?_
      refine Tr.getf (pc := 81) d_X12_declares_81 f_12_60 (by decide) (by decide) (ty_120 hS.1.1) ?_
      refine Tr.tp 125 (fx_120_16 hS.1.1) ?_
      refine Tr.aload_n (pc := 84) (i := 0) d_X12_declares_84 rfl rfl ?_
      refine Tr.getf (pc := 85) d_X12_declares_85 f_12_124 (by decide) (by decide) (ty_120 hS.1.1) ?_
      refine Tr.tp 1 ((kp_X12_declares_120_120_37 hS).trans en_120_37) ?_
      refine Tr.aload_n (pc := 88) (i := 0) d_X12_declares_88 rfl rfl ?_
      refine Tr.iconst (pc := 89) d_X12_declares_89 (by decide) ?_
      refine Tr.bipush (pc := 90) d_X12_declares_90 rfl (by decide) ?_
      refine Tr.callV (pc := 92) (as := [_, _]) d_X12_declares_92 s_12_516 ok_X12_number rfl rfl (Nat.le_of_ble_eq_true rfl) (Nat.le_of_ble_eq_true rfl) (by decide) (ty_120 hS.1.1) ?_
      refine Tr.imp (Tr.deep (by decide) (ns_X12_number_120 (G120_3 := s76_120_3) (G120_4 := s76_120_4) (G120_5 := s76_120_5) (G120_7 := s76_120_7) (G120_8 := s76_120_8) (G9010_0 := s76_9010_0) hS.1 (((Wr.b w79 rfl).trans es76_120_3)) (((Wr.b w79 rfl).trans es76_120_4)) (((Wr.b w79 rfl).trans es76_120_5)) (((Wr.b w79 rfl).trans es76_120_7)) (((Wr.b w79 rfl).trans es76_120_8)) (((tav_of ((Wr.b w79 rfl).trans rfl) ((Wr.b w79 rfl).trans rfl)).trans es76_9010_0)) 0 (by omega) 20 (by omega) (by first | exact (hd_o z76_0) | exact (hd_o z76_0).elim (fun h1 => by omega) (fun h1 => by omega)) (by omega) (by first | exact (hd_o z76_2) | exact (hd_o z76_2).elim (fun h1 => by omega) (fun h1 => h1.elim (fun h1 => by omega) (fun h1 => by omega))))) ?_
      rintro M92 _ ⟨h92, s92_120_3, s92_120_4, s92_120_5, s92_120_7, s92_120_8, s92_9010_0, es92_120_3, bs92_120_3, es92_120_4, bs92_120_4, es92_120_5, bs92_120_5, es92_120_7, bs92_120_7, es92_120_8, bs92_120_8, es92_9010_0, bs92_9010_0, r92, rfl, lr92, ur92, z92_0, z92_1, z92_2, z92_3, z92_4, z92_5, z92_6⟩
      have hS := St.tr hS h92 (by decide) (by decide)
      refine Tr.sc [(0, r92), (0, 1), (2, 125)] rfl ?_
      refine Tr.iastS (pc := 95) (P := St Pm1 ws_X12_declares_120 as_X12_declares_120 M0) d_X12_declares_95 (ty_125 hS.1.1) (by omega) (by omega) (st_125_1 hS (by decide) (by and_intros <;> omega) (Pm1.of hS.1.2.2.2.2 (fun _ => rd_wb _ rfl) (fun _ => rd_wb _ rfl) (fun _ => rd_wb _ rfl) (fun _ => rd_wb _ rfl) (fun _ => rd_wb _ rfl) (fun _ => rd_wb _ rfl) (fun _ => rd_wb _ rfl) (fun _ => rd_wb _ rfl) (fun _ => rd_wb _ rfl) (fun _ => rd_wb _ rfl) (rd_wb _ rfl) (rd_wb _ rfl) (rd_wb _ rfl) (rd_wb _ rfl) (rd_wb _ rfl) (rd_wb _ rfl) (rd_wb _ rfl) (rd_wb _ rfl) (rd_wb _ rfl) (rd_wb _ rfl) (rd_wb _ rfl))) (fun M95 hS w95 => ?_)
      refine Tr.goto (pc := 96) (tgt := 152) d_X12_declares_96 rfl ?_
      refine Tr.pick [0] (ls2 := [(0, (2, 120))]) rfl ?_
      obtain ⟨w152p96_120_6, ew152p96_120_6⟩ : ∃ v, rd M95 120 6 = v := ⟨_, rfl⟩
      have bw152p96_120_6 : (-2147483648) ≤ w152p96_120_6 ∧ w152p96_120_6 ≤ 2147483647 := by rw [← ew152p96_120_6]; exact ir_120_6 hS.1.2.1
      exact J152 _ _ _ _ _ _ _ _ hS (by and_intros <;> omega) (by and_intros <;> omega) (by and_intros <;> omega) (by and_intros <;> omega) (by omega) (by and_intros <;> omega) (by and_intros <;> omega) ((Wr.b w95 rfl).trans es92_120_3) ((Wr.b w95 rfl).trans es92_120_4) ((Wr.b w95 rfl).trans es92_120_5) ew152p96_120_6 ((Wr.b w95 rfl).trans es92_120_7) ((Wr.b w95 rfl).trans es92_120_8) ((tav_of ((Wr.b w95 rfl).trans rfl) ((Wr.b w95 rfl).trans rfl)).trans es92_9010_0) (by first | exact (hd_o z92_0) | exact (hd_o z92_0).elim (fun h1 => by omega) (fun h1 => by omega)) (by omega) (by first | exact (hd_o z92_2) | exact (hd_o z92_2).elim (fun h1 => by omega) (fun h1 => h1.elim (fun h1 => by omega) (fun h1 => by omega))) (by and_intros <;> omega) (by omega)
  · have c7b : 1 ≤ r4 ∧ r4 ≤ 1 := by omega
    replace c7 := hd_i c7
    refine Tr.aload_n (pc := 10) (i := 0) d_X12_declares_10 rfl rfl ?_
    refine Tr.callV (pc := 11) (as := []) d_X12_declares_11 s_12_396 ok_X12_next rfl rfl (Nat.le_of_ble_eq_true rfl) (Nat.le_of_ble_eq_true rfl) (by decide) (ty_120 hS.1.1) ?_
    refine Tr.imp (Tr.deep (by decide) (ns_X12_next_120 (G120_3 := g120_3) (G120_5 := g120_5) (G120_8 := g120_8) (G9010_0 := g9010_0) hS.1 (((kp_X12_isWord_120_120_3 h4).trans eg120_3)) (((kp_X12_isWord_120_120_5 h4).trans eg120_5)) (((kp_X12_isWord_120_120_8 h4).trans eg120_8)) (((tav_of ((kp_X12_isWord_120_120_5 h4).trans rfl) ((kp_X12_isWord_120_120_3 h4).trans rfl)).trans eg9010_0)))) ?_
    rintro M11 _ ⟨h11, s11_120_3, s11_120_4, s11_120_5, s11_120_7, s11_120_8, s11_9010_0, es11_120_3, bs11_120_3, es11_120_4, bs11_120_4, es11_120_5, bs11_120_5, es11_120_7, bs11_120_7, es11_120_8, bs11_120_8, es11_9010_0, bs11_9010_0, rfl, z11_0, z11_1, z11_2, z11_3, z11_4, z11_5, z11_6⟩
    have hS := St.tr hS h11 (by decide) (by decide)
    refine Tr.sc [] rfl ?_
    refine Tr.aload_n (pc := 14) (i := 0) d_X12_declares_14 rfl rfl ?_
    refine Tr.getf (pc := 15) d_X12_declares_15 f_12_51 (by decide) (by decide) (ty_120 hS.1.1) ?_
    refine Tr.tp 122 (fx_120_13 hS.1.1) ?_
    refine Tr.aload_n (pc := 18) (i := 0) d_X12_declares_18 rfl rfl ?_
    refine Tr.getf (pc := 19) d_X12_declares_19 f_12_124 (by decide) (by decide) (ty_120 hS.1.1) ?_
    refine Tr.tp 1 ((kp_X12_declares_120_120_37 hS).trans en_120_37) ?_
    refine Tr.aload_n (pc := 22) (i := 0) d_X12_declares_22 rfl rfl ?_
    refine Tr.iconst (pc := 23) d_X12_declares_23 (by decide) ?_
    refine Tr.sipush (pc := 24) d_X12_declares_24 rfl (by decide) ?_
    refine Tr.callV (pc := 27) (as := [_, _]) d_X12_declares_27 s_12_516 ok_X12_number rfl rfl (Nat.le_of_ble_eq_true rfl) (Nat.le_of_ble_eq_true rfl) (by decide) (ty_120 hS.1.1) ?_
    refine Tr.imp (Tr.deep (by decide) (ns_X12_number_120 (G120_3 := s11_120_3) (G120_4 := s11_120_4) (G120_5 := s11_120_5) (G120_7 := s11_120_7) (G120_8 := s11_120_8) (G9010_0 := s11_9010_0) hS.1 (es11_120_3) (es11_120_4) (es11_120_5) (es11_120_7) (es11_120_8) (es11_9010_0) 0 (by omega) 999 (by omega) (by first | exact (hd_o z11_0) | exact (hd_o z11_0).elim (fun h1 => by omega) (fun h1 => by omega)) (by omega) (by first | exact (hd_o z11_2) | exact (hd_o z11_2).elim (fun h1 => by omega) (fun h1 => h1.elim (fun h1 => by omega) (fun h1 => by omega))))) ?_
    rintro M27 _ ⟨h27, s27_120_3, s27_120_4, s27_120_5, s27_120_7, s27_120_8, s27_9010_0, es27_120_3, bs27_120_3, es27_120_4, bs27_120_4, es27_120_5, bs27_120_5, es27_120_7, bs27_120_7, es27_120_8, bs27_120_8, es27_9010_0, bs27_9010_0, r27, rfl, lr27, ur27, z27_0, z27_1, z27_2, z27_3, z27_4, z27_5, z27_6⟩
    have hS := St.tr hS h27 (by decide) (by decide)
    refine Tr.sc [(0, r27), (0, 1), (2, 122)] rfl ?_
    refine Tr.iastS (pc := 30) (P := St Pm1 ws_X12_declares_120 as_X12_declares_120 M0) d_X12_declares_30 (ty_122 hS.1.1) (by omega) (by omega) (st_122_1 hS (by decide) (by and_intros <;> omega) (Pm1.of hS.1.2.2.2.2 (fun _ => rd_wb _ rfl) (fun _ => rd_wb _ rfl) (fun _ => rd_wb _ rfl) (fun _ => rd_wb _ rfl) (fun _ => rd_wb _ rfl) (fun _ => rd_wb _ rfl) (fun _ => rd_wb _ rfl) (fun _ => rd_wb _ rfl) (fun _ => rd_wb _ rfl) (fun _ => rd_wb _ rfl) (rd_wb _ rfl) (rd_wb _ rfl) (rd_wb _ rfl) (rd_wb _ rfl) (rd_wb _ rfl) (rd_wb _ rfl) (rd_wb _ rfl) (rd_wb _ rfl) (rd_wb _ rfl) (rd_wb _ rfl) (rd_wb _ rfl))) (fun M30 hS w30 => ?_)
    refine Tr.goto (pc := 31) (tgt := 152) d_X12_declares_31 rfl ?_
    refine Tr.pick [0] (ls2 := [(0, (2, 120))]) rfl ?_
    obtain ⟨w152p31_120_6, ew152p31_120_6⟩ : ∃ v, rd M30 120 6 = v := ⟨_, rfl⟩
    have bw152p31_120_6 : (-2147483648) ≤ w152p31_120_6 ∧ w152p31_120_6 ≤ 2147483647 := by rw [← ew152p31_120_6]; exact ir_120_6 hS.1.2.1
    exact J152 _ _ _ _ _ _ _ _ hS (by and_intros <;> omega) (by and_intros <;> omega) (by and_intros <;> omega) (by and_intros <;> omega) (by omega) (by and_intros <;> omega) (by and_intros <;> omega) ((Wr.b w30 rfl).trans es27_120_3) ((Wr.b w30 rfl).trans es27_120_4) ((Wr.b w30 rfl).trans es27_120_5) ew152p31_120_6 ((Wr.b w30 rfl).trans es27_120_7) ((Wr.b w30 rfl).trans es27_120_8) ((tav_of ((Wr.b w30 rfl).trans rfl) ((Wr.b w30 rfl).trans rfl)).trans es27_9010_0) (by first | exact (hd_o z27_0) | exact (hd_o z27_0).elim (fun h1 => by omega) (fun h1 => by omega)) (by omega) (by first | exact (hd_o z27_2) | exact (hd_o z27_2).elim (fun h1 => by omega) (fun h1 => h1.elim (fun h1 => by omega) (fun h1 => by omega))) (by and_intros <;> omega) (by omega)

set_option maxRecDepth 100000 in
set_option maxHeartbeats 4000000 in
theorem ns_X12_declares_120 {l : Launch} {K : EC} {M0 : Mem} {G120_3 G120_4 G120_5 G120_7 G120_8 G9010_0 : Int} (hI : In Pm1 M0) (k120_3 : rd M0 120 3 = G120_3) (k120_4 : rd M0 120 4 = G120_4) (k120_5 : rd M0 120 5 = G120_5) (k120_7 : rd M0 120 7 = G120_7) (k120_8 : rd M0 120 8 = G120_8) (k9010_0 : tav M0 = G9010_0) (en_120_37 : rd M0 120 37 = 1)   (hq0 : G120_3 = 0 ∨ G120_4 + 1 ≤ G120_5) (hq1 : G120_4 ≤ G120_5) (hq2 : G120_3 ≠ 1 ∨ G120_4 + 2 ≤ G120_5 ∨ G120_7 < 256) (hq3 : G120_3 ≠ 0) (hq4 : G120_8 = 0) : Tr l K 4 mX12_declares 0 [(0, (2, 120))] [] M0 (fun M' r => St Pm1 ws_X12_declares_120 as_X12_declares_120 M0 M' ∧ ∃ S120_3 S120_4 S120_5 S120_7 S120_8 S9010_0 : Int, rd M' 120 3 = S120_3 ∧ (0 ≤ S120_3 ∧ S120_3 ≤ 3) ∧ rd M' 120 4 = S120_4 ∧ (0 ≤ S120_4 ∧ S120_4 ≤ 900) ∧ rd M' 120 5 = S120_5 ∧ (0 ≤ S120_5 ∧ S120_5 ≤ 900) ∧ rd M' 120 7 = S120_7 ∧ ((-9223372036854775808) ≤ S120_7 ∧ S120_7 ≤ 9223372036854775807) ∧ rd M' 120 8 = S120_8 ∧ (0 ≤ S120_8 ∧ S120_8 ≤ 5) ∧ tav M' = S9010_0 ∧ ((-1) ≤ S9010_0 ∧ S9010_0 ≤ 1800) ∧ ∃ v : Int, r = some (0, v) ∧ 0 ≤ v ∧ v ≤ 1 ∧ Hd (S120_3 = 0 ∨ S120_4 + 1 ≤ S120_5) ∧ (S120_4 ≤ S120_5) ∧ Hd (S120_3 ≠ 1 ∨ S120_4 + 2 ≤ S120_5 ∨ S120_7 < 256) ∧ (G120_4 ≤ S120_4 ∧ G120_5 ≤ S120_5 ∧ G9010_0 ≤ S9010_0) ∧ Hd (G120_8 = 0 ∨ S120_8 = G120_8) ∧ Hd (v = 0 ∨ 1 ≤ S120_8 ∨ G9010_0 < S9010_0)) := by
  subst k120_3
  subst k120_4
  subst k120_5
  subst k120_7
  subst k120_8
  subst k9010_0
  refine Tr.imp (sp_X12_declares_120 hI en_120_37 hq0 hq1 hq2 hq3 hq4) ?_
  rintro M' _ ⟨hS, v, rfl, lr, ur, z0, z1, z2, z3, z4, z5⟩
  exact ⟨hS, _, _, _, _, _, _, rfl, ir_120_3 hS.1.2.1, rfl, ir_120_4 hS.1.2.1, rfl, ir_120_5 hS.1.2.1, rfl, ir_120_7 hS.1.2.1, rfl, ir_120_8 hS.1.2.1, rfl, (tav_b hS.1.2.1), v, rfl, lr, ur, hd_i z0, z1, hd_i z2, z3, hd_i z4, hd_i z5⟩

def ws_X12_order_120 : List (Int × Int) := []
def as_X12_order_120 : List Int := []
def q_X12_order_120 (M0 M' : Mem) (r : Option PV) : Prop := St Tru ws_X12_order_120 as_X12_order_120 M0 M' ∧ ∃ v : Int, r = some (0, v) ∧ (-1) ≤ v ∧ v ≤ 8 ∧ (v = -1 ∨ (rd M' 120 3 = 1 ∧ 1 ≤ v ∧ v ≤ 8))
set_option maxRecDepth 100000 in
set_option maxHeartbeats 4000000 in
theorem sp_X12_order_120 {l : Launch} {K : EC} {M0 : Mem} (hI : In Tru M0)    : Tr l K 1 mX12_order 0 [(0, (2, 120))] [] M0 (q_X12_order_120 M0) := by
  have hS : St Tru ws_X12_order_120 as_X12_order_120 M0 M0 := St.rf hI
  obtain ⟨g120_3, eg120_3⟩ : ∃ v, rd M0 120 3 = v := ⟨_, rfl⟩
  have bg120_3 : 0 ≤ g120_3 ∧ g120_3 ≤ 3 := by rw [← eg120_3]; exact ir_120_3 hI.2.1
  obtain ⟨g120_7, eg120_7⟩ : ∃ v, rd M0 120 7 = v := ⟨_, rfl⟩
  have bg120_7 : (-9223372036854775808) ≤ g120_7 ∧ g120_7 ≤ 9223372036854775807 := by rw [← eg120_7]; exact ir_120_7 hI.2.1
  refine Tr.aload_n (pc := 0) (i := 0) d_X12_order_0 rfl rfl ?_
  refine Tr.ldc2 (pc := 1) d_X12_order_1 kl_12_419 (by decide) ?_
  refine Tr.callV (pc := 4) (as := [_]) d_X12_order_4 s_12_484 ok_X12_isWord rfl rfl (Nat.le_of_ble_eq_true rfl) (Nat.le_of_ble_eq_true rfl) (by decide) (ty_120 hS.1.1) ?_
  refine Tr.imp (Tr.deep (by decide) (ns_X12_isWord_120 (G120_3 := g120_3) (G120_7 := g120_7) hS.1 (eg120_3) (eg120_7) 7562612 (by omega))) ?_
  rintro M4 _ ⟨h4, r4, rfl, lr4, ur4, z4_0⟩
  have hS := St.tr hS h4 (by decide) (by decide)
  refine Tr.sc [(0, r4)] rfl ?_
  refine Tr.if_eq (pc := 7) (tgt := 14) d_X12_order_7 rfl (fun c7 => ?_) (fun c7 => ?_)
  · refine Tr.aload_n (pc := 14) (i := 0) d_X12_order_14 rfl rfl ?_
    refine Tr.ldc2 (pc := 15) d_X12_order_15 kl_12_421 (by decide) ?_
    refine Tr.callV (pc := 18) (as := [_]) d_X12_order_18 s_12_484 ok_X12_isWord rfl rfl (Nat.le_of_ble_eq_true rfl) (Nat.le_of_ble_eq_true rfl) (by decide) (ty_120 hS.1.1) ?_
    refine Tr.imp (Tr.deep (by decide) (ns_X12_isWord_120 (G120_3 := g120_3) (G120_7 := g120_7) hS.1 (((kp_X12_isWord_120_120_3 h4).trans eg120_3)) (((kp_X12_isWord_120_120_7 h4).trans eg120_7)) 7697253 (by omega))) ?_
    rintro M18 _ ⟨h18, r18, rfl, lr18, ur18, z18_0⟩
    have hS := St.tr hS h18 (by decide) (by decide)
    refine Tr.sc [(0, r18)] rfl ?_
    refine Tr.if_eq (pc := 21) (tgt := 28) d_X12_order_21 rfl (fun c21 => ?_) (fun c21 => ?_)
    · refine Tr.aload_n (pc := 28) (i := 0) d_X12_order_28 rfl rfl ?_
      refine Tr.ldc2 (pc := 29) d_X12_order_29 kl_12_423 (by decide) ?_
      refine Tr.callV (pc := 32) (as := [_]) d_X12_order_32 s_12_484 ok_X12_isWord rfl rfl (Nat.le_of_ble_eq_true rfl) (Nat.le_of_ble_eq_true rfl) (by decide) (ty_120 hS.1.1) ?_
      refine Tr.imp (Tr.deep (by decide) (ns_X12_isWord_120 (G120_3 := g120_3) (G120_7 := g120_7) hS.1 (((kp_X12_isWord_120_120_3 h18).trans ((kp_X12_isWord_120_120_3 h4).trans eg120_3))) (((kp_X12_isWord_120_120_7 h18).trans ((kp_X12_isWord_120_120_7 h4).trans eg120_7))) 1752132708 (by omega))) ?_
      rintro M32 _ ⟨h32, r32, rfl, lr32, ur32, z32_0⟩
      have hS := St.tr hS h32 (by decide) (by decide)
      refine Tr.sc [(0, r32)] rfl ?_
      refine Tr.if_eq (pc := 35) (tgt := 42) d_X12_order_35 rfl (fun c35 => ?_) (fun c35 => ?_)
      · refine Tr.aload_n (pc := 42) (i := 0) d_X12_order_42 rfl rfl ?_
        refine Tr.ldc2 (pc := 43) d_X12_order_43 kl_12_425 (by decide) ?_
        refine Tr.callV (pc := 46) (as := [_]) d_X12_order_46 s_12_484 ok_X12_isWord rfl rfl (Nat.le_of_ble_eq_true rfl) (Nat.le_of_ble_eq_true rfl) (by decide) (ty_120 hS.1.1) ?_
        refine Tr.imp (Tr.deep (by decide) (ns_X12_isWord_120 (G120_3 := g120_3) (G120_7 := g120_7) hS.1 (((kp_X12_isWord_120_120_3 h32).trans ((kp_X12_isWord_120_120_3 h18).trans ((kp_X12_isWord_120_120_3 h4).trans eg120_3)))) (((kp_X12_isWord_120_120_7 h32).trans ((kp_X12_isWord_120_120_7 h18).trans ((kp_X12_isWord_120_120_7 h4).trans eg120_7)))) 1718773093 (by omega))) ?_
        rintro M46 _ ⟨h46, r46, rfl, lr46, ur46, z46_0⟩
        have hS := St.tr hS h46 (by decide) (by decide)
        refine Tr.sc [(0, r46)] rfl ?_
        refine Tr.if_eq (pc := 49) (tgt := 56) d_X12_order_49 rfl (fun c49 => ?_) (fun c49 => ?_)
        · refine Tr.aload_n (pc := 56) (i := 0) d_X12_order_56 rfl rfl ?_
          refine Tr.ldc2 (pc := 57) d_X12_order_57 kl_12_427 (by decide) ?_
          refine Tr.callV (pc := 60) (as := [_]) d_X12_order_60 s_12_484 ok_X12_isWord rfl rfl (Nat.le_of_ble_eq_true rfl) (Nat.le_of_ble_eq_true rfl) (by decide) (ty_120 hS.1.1) ?_
          refine Tr.imp (Tr.deep (by decide) (ns_X12_isWord_120 (G120_3 := g120_3) (G120_7 := g120_7) hS.1 (((kp_X12_isWord_120_120_3 h46).trans ((kp_X12_isWord_120_120_3 h32).trans ((kp_X12_isWord_120_120_3 h18).trans ((kp_X12_isWord_120_120_3 h4).trans eg120_3))))) (((kp_X12_isWord_120_120_7 h46).trans ((kp_X12_isWord_120_120_7 h32).trans ((kp_X12_isWord_120_120_7 h18).trans ((kp_X12_isWord_120_120_7 h4).trans eg120_7))))) 2002872692 (by omega))) ?_
          rintro M60 _ ⟨h60, r60, rfl, lr60, ur60, z60_0⟩
          have hS := St.tr hS h60 (by decide) (by decide)
          refine Tr.sc [(0, r60)] rfl ?_
          refine Tr.if_eq (pc := 63) (tgt := 70) d_X12_order_63 rfl (fun c63 => ?_) (fun c63 => ?_)
          · refine Tr.aload_n (pc := 70) (i := 0) d_X12_order_70 rfl rfl ?_
            refine Tr.ldc2 (pc := 71) d_X12_order_71 kl_12_429 (by decide) ?_
            refine Tr.callV (pc := 74) (as := [_]) d_X12_order_74 s_12_484 ok_X12_isWord rfl rfl (Nat.le_of_ble_eq_true rfl) (Nat.le_of_ble_eq_true rfl) (by decide) (ty_120 hS.1.1) ?_
            refine Tr.imp (Tr.deep (by decide) (ns_X12_isWord_120 (G120_3 := g120_3) (G120_7 := g120_7) hS.1 (((kp_X12_isWord_120_120_3 h60).trans ((kp_X12_isWord_120_120_3 h46).trans ((kp_X12_isWord_120_120_3 h32).trans ((kp_X12_isWord_120_120_3 h18).trans ((kp_X12_isWord_120_120_3 h4).trans eg120_3)))))) (((kp_X12_isWord_120_120_7 h60).trans ((kp_X12_isWord_120_120_7 h46).trans ((kp_X12_isWord_120_120_7 h32).trans ((kp_X12_isWord_120_120_7 h18).trans ((kp_X12_isWord_120_120_7 h4).trans eg120_7)))))) 500086170472 (by omega))) ?_
            rintro M74 _ ⟨h74, r74, rfl, lr74, ur74, z74_0⟩
            have hS := St.tr hS h74 (by decide) (by decide)
            refine Tr.sc [(0, r74)] rfl ?_
            refine Tr.if_eq (pc := 77) (tgt := 85) d_X12_order_77 rfl (fun c77 => ?_) (fun c77 => ?_)
            · refine Tr.aload_n (pc := 85) (i := 0) d_X12_order_85 rfl rfl ?_
              refine Tr.ldc2 (pc := 86) d_X12_order_86 kl_12_431 (by decide) ?_
              refine Tr.callV (pc := 89) (as := [_]) d_X12_order_89 s_12_484 ok_X12_isWord rfl rfl (Nat.le_of_ble_eq_true rfl) (Nat.le_of_ble_eq_true rfl) (by decide) (ty_120 hS.1.1) ?_
              refine Tr.imp (Tr.deep (by decide) (ns_X12_isWord_120 (G120_3 := g120_3) (G120_7 := g120_7) hS.1 (((kp_X12_isWord_120_120_3 h74).trans ((kp_X12_isWord_120_120_3 h60).trans ((kp_X12_isWord_120_120_3 h46).trans ((kp_X12_isWord_120_120_3 h32).trans ((kp_X12_isWord_120_120_3 h18).trans ((kp_X12_isWord_120_120_3 h4).trans eg120_3))))))) (((kp_X12_isWord_120_120_7 h74).trans ((kp_X12_isWord_120_120_7 h60).trans ((kp_X12_isWord_120_120_7 h46).trans ((kp_X12_isWord_120_120_7 h32).trans ((kp_X12_isWord_120_120_7 h18).trans ((kp_X12_isWord_120_120_7 h4).trans eg120_7))))))) 26982 (by omega))) ?_
              rintro M89 _ ⟨h89, r89, rfl, lr89, ur89, z89_0⟩
              have hS := St.tr hS h89 (by decide) (by decide)
              refine Tr.sc [(0, r89)] rfl ?_
              refine Tr.if_eq (pc := 92) (tgt := 100) d_X12_order_92 rfl (fun c92 => ?_) (fun c92 => ?_)
              · refine Tr.aload_n (pc := 100) (i := 0) d_X12_order_100 rfl rfl ?_
                refine Tr.ldc2 (pc := 101) d_X12_order_101 kl_12_435 (by decide) ?_
                refine Tr.callV (pc := 104) (as := [_]) d_X12_order_104 s_12_484 ok_X12_isWord rfl rfl (Nat.le_of_ble_eq_true rfl) (Nat.le_of_ble_eq_true rfl) (by decide) (ty_120 hS.1.1) ?_
                refine Tr.imp (Tr.deep (by decide) (ns_X12_isWord_120 (G120_3 := g120_3) (G120_7 := g120_7) hS.1 (((kp_X12_isWord_120_120_3 h89).trans ((kp_X12_isWord_120_120_3 h74).trans ((kp_X12_isWord_120_120_3 h60).trans ((kp_X12_isWord_120_120_3 h46).trans ((kp_X12_isWord_120_120_3 h32).trans ((kp_X12_isWord_120_120_3 h18).trans ((kp_X12_isWord_120_120_3 h4).trans eg120_3)))))))) (((kp_X12_isWord_120_120_7 h89).trans ((kp_X12_isWord_120_120_7 h74).trans ((kp_X12_isWord_120_120_7 h60).trans ((kp_X12_isWord_120_120_7 h46).trans ((kp_X12_isWord_120_120_7 h32).trans ((kp_X12_isWord_120_120_7 h18).trans ((kp_X12_isWord_120_120_7 h4).trans eg120_7)))))))) 512852847717 (by omega))) ?_
                rintro M104 _ ⟨h104, r104, rfl, lr104, ur104, z104_0⟩
                have hS := St.tr hS h104 (by decide) (by decide)
                refine Tr.sc [(0, r104)] rfl ?_
                refine Tr.if_eq (pc := 107) (tgt := 115) d_X12_order_107 rfl (fun c107 => ?_) (fun c107 => ?_)
                · refine Tr.iconst (pc := 115) d_X12_order_115 (by decide) ?_
                  have kr_120_3 : rd M104 120 3 = g120_3 := ((kp_X12_isWord_120_120_3 h104).trans ((kp_X12_isWord_120_120_3 h89).trans ((kp_X12_isWord_120_120_3 h74).trans ((kp_X12_isWord_120_120_3 h60).trans ((kp_X12_isWord_120_120_3 h46).trans ((kp_X12_isWord_120_120_3 h32).trans ((kp_X12_isWord_120_120_3 h18).trans ((kp_X12_isWord_120_120_3 h4).trans eg120_3))))))))
                  exact Tr.iret (pc := 116) d_X12_order_116 rfl ⟨hS, _, rfl, by omega, by omega, (by omega)⟩
                · have c107b : 1 ≤ r104 ∧ r104 ≤ 1 := by omega
                  replace c107 := hd_i c107
                  refine Tr.bipush (pc := 110) d_X12_order_110 rfl (by decide) ?_
                  refine Tr.goto (pc := 112) (tgt := 116) d_X12_order_112 rfl ?_
                  have kr_120_3 : rd M104 120 3 = g120_3 := ((kp_X12_isWord_120_120_3 h104).trans ((kp_X12_isWord_120_120_3 h89).trans ((kp_X12_isWord_120_120_3 h74).trans ((kp_X12_isWord_120_120_3 h60).trans ((kp_X12_isWord_120_120_3 h46).trans ((kp_X12_isWord_120_120_3 h32).trans ((kp_X12_isWord_120_120_3 h18).trans ((kp_X12_isWord_120_120_3 h4).trans eg120_3))))))))
                  exact Tr.iret (pc := 116) d_X12_order_116 rfl ⟨hS, _, rfl, by omega, by omega, (by exact (hd_o z104_0).elim (fun h1 => by omega) (fun h1 => by omega))⟩
              · have c92b : 1 ≤ r89 ∧ r89 ≤ 1 := by omega
                replace c92 := hd_i c92
                refine Tr.bipush (pc := 95) d_X12_order_95 rfl (by decide) ?_
                refine Tr.goto (pc := 97) (tgt := 116) d_X12_order_97 rfl ?_
                have kr_120_3 : rd M89 120 3 = g120_3 := ((kp_X12_isWord_120_120_3 h89).trans ((kp_X12_isWord_120_120_3 h74).trans ((kp_X12_isWord_120_120_3 h60).trans ((kp_X12_isWord_120_120_3 h46).trans ((kp_X12_isWord_120_120_3 h32).trans ((kp_X12_isWord_120_120_3 h18).trans ((kp_X12_isWord_120_120_3 h4).trans eg120_3)))))))
                exact Tr.iret (pc := 116) d_X12_order_116 rfl ⟨hS, _, rfl, by omega, by omega, (by exact (hd_o z89_0).elim (fun h1 => by omega) (fun h1 => by omega))⟩
            · have c77b : 1 ≤ r74 ∧ r74 ≤ 1 := by omega
              replace c77 := hd_i c77
              refine Tr.bipush (pc := 80) d_X12_order_80 rfl (by decide) ?_
              refine Tr.goto (pc := 82) (tgt := 116) d_X12_order_82 rfl ?_
              have kr_120_3 : rd M74 120 3 = g120_3 := ((kp_X12_isWord_120_120_3 h74).trans ((kp_X12_isWord_120_120_3 h60).trans ((kp_X12_isWord_120_120_3 h46).trans ((kp_X12_isWord_120_120_3 h32).trans ((kp_X12_isWord_120_120_3 h18).trans ((kp_X12_isWord_120_120_3 h4).trans eg120_3))))))
              exact Tr.iret (pc := 116) d_X12_order_116 rfl ⟨hS, _, rfl, by omega, by omega, (by exact (hd_o z74_0).elim (fun h1 => by omega) (fun h1 => by omega))⟩
          · have c63b : 1 ≤ r60 ∧ r60 ≤ 1 := by omega
            replace c63 := hd_i c63
            refine Tr.iconst (pc := 66) d_X12_order_66 (by decide) ?_
            refine Tr.goto (pc := 67) (tgt := 116) d_X12_order_67 rfl ?_
            have kr_120_3 : rd M60 120 3 = g120_3 := ((kp_X12_isWord_120_120_3 h60).trans ((kp_X12_isWord_120_120_3 h46).trans ((kp_X12_isWord_120_120_3 h32).trans ((kp_X12_isWord_120_120_3 h18).trans ((kp_X12_isWord_120_120_3 h4).trans eg120_3)))))
            exact Tr.iret (pc := 116) d_X12_order_116 rfl ⟨hS, _, rfl, by omega, by omega, (by exact (hd_o z60_0).elim (fun h1 => by omega) (fun h1 => by omega))⟩
        · have c49b : 1 ≤ r46 ∧ r46 ≤ 1 := by omega
          replace c49 := hd_i c49
          refine Tr.iconst (pc := 52) d_X12_order_52 (by decide) ?_
          refine Tr.goto (pc := 53) (tgt := 116) d_X12_order_53 rfl ?_
          have kr_120_3 : rd M46 120 3 = g120_3 := ((kp_X12_isWord_120_120_3 h46).trans ((kp_X12_isWord_120_120_3 h32).trans ((kp_X12_isWord_120_120_3 h18).trans ((kp_X12_isWord_120_120_3 h4).trans eg120_3))))
          exact Tr.iret (pc := 116) d_X12_order_116 rfl ⟨hS, _, rfl, by omega, by omega, (by exact (hd_o z46_0).elim (fun h1 => by omega) (fun h1 => by omega))⟩
      · have c35b : 1 ≤ r32 ∧ r32 ≤ 1 := by omega
        replace c35 := hd_i c35
        refine Tr.iconst (pc := 38) d_X12_order_38 (by decide) ?_
        refine Tr.goto (pc := 39) (tgt := 116) d_X12_order_39 rfl ?_
        have kr_120_3 : rd M32 120 3 = g120_3 := ((kp_X12_isWord_120_120_3 h32).trans ((kp_X12_isWord_120_120_3 h18).trans ((kp_X12_isWord_120_120_3 h4).trans eg120_3)))
        exact Tr.iret (pc := 116) d_X12_order_116 rfl ⟨hS, _, rfl, by omega, by omega, (by exact (hd_o z32_0).elim (fun h1 => by omega) (fun h1 => by omega))⟩
    · have c21b : 1 ≤ r18 ∧ r18 ≤ 1 := by omega
      replace c21 := hd_i c21
      refine Tr.iconst (pc := 24) d_X12_order_24 (by decide) ?_
      refine Tr.goto (pc := 25) (tgt := 116) d_X12_order_25 rfl ?_
      have kr_120_3 : rd M18 120 3 = g120_3 := ((kp_X12_isWord_120_120_3 h18).trans ((kp_X12_isWord_120_120_3 h4).trans eg120_3))
      exact Tr.iret (pc := 116) d_X12_order_116 rfl ⟨hS, _, rfl, by omega, by omega, (by exact (hd_o z18_0).elim (fun h1 => by omega) (fun h1 => by omega))⟩
  · have c7b : 1 ≤ r4 ∧ r4 ≤ 1 := by omega
    replace c7 := hd_i c7
    refine Tr.iconst (pc := 10) d_X12_order_10 (by decide) ?_
    refine Tr.goto (pc := 11) (tgt := 116) d_X12_order_11 rfl ?_
    have kr_120_3 : rd M4 120 3 = g120_3 := ((kp_X12_isWord_120_120_3 h4).trans eg120_3)
    exact Tr.iret (pc := 116) d_X12_order_116 rfl ⟨hS, _, rfl, by omega, by omega, (by exact (hd_o z4_0).elim (fun h1 => by omega) (fun h1 => by omega))⟩

set_option maxRecDepth 100000 in
set_option maxHeartbeats 4000000 in
theorem ns_X12_order_120 {l : Launch} {K : EC} {M0 : Mem} {G120_3 : Int} (hI : In Tru M0) (k120_3 : rd M0 120 3 = G120_3)    : Tr l K 1 mX12_order 0 [(0, (2, 120))] [] M0 (fun M' r => St Tru ws_X12_order_120 as_X12_order_120 M0 M' ∧ ∃ v : Int, r = some (0, v) ∧ (-1) ≤ v ∧ v ≤ 8 ∧ Hd (v = -1 ∨ (G120_3 = 1 ∧ 1 ≤ v ∧ v ≤ 8))) := by
  subst k120_3
  refine Tr.imp (sp_X12_order_120 hI ) ?_
  rintro M' _ ⟨hS, v, rfl, lr, ur, z0⟩
  rewrite [show rd M' 120 3 = rd M0 120 3 from ((St.kp hS (by decide) (by decide) (by decide)).trans rfl)] at z0
  exact ⟨hS, v, rfl, lr, ur, hd_i z0⟩

def ws_X12_spot_120 : List (Int × Int) := [(136, 1)]
def as_X12_spot_120 : List Int := [137, 138, 139, 140, 141, 142]
def q_X12_spot_120 (a1 : Int) (a2 : Int) (M0 M' : Mem) (r : Option PV) : Prop := St Pm1 ws_X12_spot_120 as_X12_spot_120 M0 M' ∧ ∃ v : Int, r = some (0, v) ∧ 200 ≤ v ∧ v ≤ 399 ∧ (rd M' 136 1 = rd M0 136 1 + 1) ∧ (v = 200 + rd M0 136 1) ∧ (∀ j : Int, j < 200 + rd M0 136 1 → rd M' 137 j = rd M0 137 j) ∧ (rd M' 137 (200 + rd M0 136 1) = a1)
theorem kp_X12_spot_120_120_37 {q : Mem → Prop} {M0 M : Mem} (h : St q ws_X12_spot_120 as_X12_spot_120 M0 M) : rd M 120 37 = rd M0 120 37 := St.kp h (by decide) (by decide) (by decide)
set_option maxRecDepth 100000 in
set_option maxHeartbeats 4000000 in
theorem sp_X12_spot_120 {l : Launch} {K : EC} {M0 : Mem} (hI : In Pm1 M0) (en_120_37 : rd M0 120 37 = 1) (a1 : Int) (ha1 : 0 ≤ a1 ∧ a1 ≤ 8) (a2 : Int) (ha2 : (-1) ≤ a2 ∧ a2 ≤ 59)  (hq0 : rd M0 136 1 ≤ 199) (hq1 : a1 ≠ 0 ∨ 1 ≤ rd M0 136 1) (hq2 : a1 = 0 ∨ 0 ≤ a2) : Tr l K 0 mX12_spot 0 [(0, (2, 120)), (1, (0, a1)), (2, (0, a2))] [] M0 (q_X12_spot_120 a1 a2 M0) := by
  have hS : St Pm1 ws_X12_spot_120 as_X12_spot_120 M0 M0 := St.rf hI
  obtain ⟨g136_1, eg136_1⟩ : ∃ v, rd M0 136 1 = v := ⟨_, rfl⟩
  have bg136_1 : 0 ≤ g136_1 ∧ g136_1 ≤ 200 := by rw [← eg136_1]; exact ir_136_1 hI.2.1
  obtain ⟨g120_36, eg120_36⟩ : ∃ v, rd M0 120 36 = v := ⟨_, rfl⟩
  have bg120_36 : 0 ≤ g120_36 ∧ g120_36 ≤ 900 := by rw [← eg120_36]; exact ir_120_36 hI.2.1
  replace hq1 := hd_i hq1
  replace hq2 := hd_i hq2
  refine Tr.sipush (pc := 0) d_X12_spot_0 rfl (by decide) ?_
  refine Tr.aload_n (pc := 3) (i := 0) d_X12_spot_3 rfl rfl ?_
  refine Tr.getf (pc := 4) d_X12_spot_4 f_12_124 (by decide) (by decide) (ty_120 hS.1.1) ?_
  refine Tr.tp 1 ((kp_X12_spot_120_120_37 hS).trans en_120_37) ?_
  refine Tr.imul (pc := 7) d_X12_spot_7 ?_
  refine Tr.tp 200 (by decide) ?_
  refine Tr.aload_n (pc := 8) (i := 0) d_X12_spot_8 rfl rfl ?_
  refine Tr.getf (pc := 9) d_X12_spot_9 f_12_94 (by decide) (by decide) (ty_120 hS.1.1) ?_
  refine Tr.tp 136 (fx_120_27 hS.1.1) ?_
  refine Tr.aload_n (pc := 12) (i := 0) d_X12_spot_12 rfl rfl ?_
  refine Tr.getf (pc := 13) d_X12_spot_13 f_12_124 (by decide) (by decide) (ty_120 hS.1.1) ?_
  refine Tr.tp 1 ((kp_X12_spot_120_120_37 hS).trans en_120_37) ?_
  refine Tr.iald (pc := 16) d_X12_spot_16 (ty_136 hS.1.1) (by omega) (by omega) ?_
  refine Tr.tp g136_1 eg136_1 ?_
  refine Tr.iadd (pc := 17) d_X12_spot_17 ?_
  refine Tr.tp (g136_1 + 200) ((w32_id (by and_intros <;> omega)).trans (by omega)) ?_
  refine Tr.istore_n (pc := 18) (i := 3) (ls2 := [(3, (0, (g136_1 + 200))), (0, (2, 120)), (1, (0, a1)), (2, (0, a2))]) d_X12_spot_18 rfl (by decide) rfl ?_
  refine Tr.aload_n (pc := 19) (i := 0) d_X12_spot_19 rfl rfl ?_
  refine Tr.getf (pc := 20) d_X12_spot_20 f_12_97 (by decide) (by decide) (ty_120 hS.1.1) ?_
  refine Tr.tp 137 (fx_120_28 hS.1.1) ?_
  refine Tr.iload_n (pc := 23) (i := 3) d_X12_spot_23 rfl rfl ?_
  refine Tr.iload_n (pc := 24) (i := 1) d_X12_spot_24 rfl rfl ?_
  have kx_136_1 : rd M0 136 1 = g136_1 := eg136_1
  refine Tr.iastS (pc := 25) (P := St Pm1 ws_X12_spot_120 as_X12_spot_120 M0) d_X12_spot_25 (ty_137 hS.1.1) (by omega) (by omega) (sa_137 hS (by decide) (by and_intros <;> omega) (Pm1_free hS.1.2.2.2.2 hS.1.2.1 (by omega) (by omega) (by omega))) (fun M25 hS w25 => ?_)
  refine Tr.aload_n (pc := 26) (i := 0) d_X12_spot_26 rfl rfl ?_
  refine Tr.getf (pc := 27) d_X12_spot_27 f_12_100 (by decide) (by decide) (ty_120 hS.1.1) ?_
  refine Tr.tp 138 (fx_120_29 hS.1.1) ?_
  refine Tr.iload_n (pc := 30) (i := 3) d_X12_spot_30 rfl rfl ?_
  refine Tr.iload_n (pc := 31) (i := 2) d_X12_spot_31 rfl rfl ?_
  have kx_136_1 : rd M25 136 1 = g136_1 := ((Wr.b w25 rfl).trans eg136_1)
  refine Tr.iastS (pc := 32) (P := St Pm1 ws_X12_spot_120 as_X12_spot_120 M0) d_X12_spot_32 (ty_138 hS.1.1) (by omega) (by omega) (sa_138 hS (by decide) (by and_intros <;> omega) (Pm1_free hS.1.2.2.2.2 hS.1.2.1 (by omega) (by omega) (by omega))) (fun M32 hS w32 => ?_)
  refine Tr.aload_n (pc := 33) (i := 0) d_X12_spot_33 rfl rfl ?_
  refine Tr.getf (pc := 34) d_X12_spot_34 f_12_103 (by decide) (by decide) (ty_120 hS.1.1) ?_
  refine Tr.tp 139 (fx_120_30 hS.1.1) ?_
  refine Tr.iload_n (pc := 37) (i := 3) d_X12_spot_37 rfl rfl ?_
  refine Tr.iconst (pc := 38) d_X12_spot_38 (by decide) ?_
  have kx_136_1 : rd M32 136 1 = g136_1 := ((Wr.b w32 rfl).trans ((Wr.b w25 rfl).trans eg136_1))
  refine Tr.iastS (pc := 39) (P := St Pm1 ws_X12_spot_120 as_X12_spot_120 M0) d_X12_spot_39 (ty_139 hS.1.1) (by omega) (by omega) (sa_139 hS (by decide) (by omega) (Pm1_free hS.1.2.2.2.2 hS.1.2.1 (by omega) (by omega) (by omega))) (fun M39 hS w39 => ?_)
  refine Tr.aload_n (pc := 40) (i := 0) d_X12_spot_40 rfl rfl ?_
  refine Tr.getf (pc := 41) d_X12_spot_41 f_12_106 (by decide) (by decide) (ty_120 hS.1.1) ?_
  refine Tr.tp 140 (fx_120_31 hS.1.1) ?_
  refine Tr.iload_n (pc := 44) (i := 3) d_X12_spot_44 rfl rfl ?_
  refine Tr.aload_n (pc := 45) (i := 0) d_X12_spot_45 rfl rfl ?_
  refine Tr.getf (pc := 46) d_X12_spot_46 f_12_121 (by decide) (by decide) (ty_120 hS.1.1) ?_
  refine Tr.tp g120_36 ((Wr.b w39 rfl).trans ((Wr.b w32 rfl).trans ((Wr.b w25 rfl).trans eg120_36))) ?_
  have kx_136_1 : rd M39 136 1 = g136_1 := ((Wr.b w39 rfl).trans ((Wr.b w32 rfl).trans ((Wr.b w25 rfl).trans eg136_1)))
  refine Tr.iastS (pc := 49) (P := St Pm1 ws_X12_spot_120 as_X12_spot_120 M0) d_X12_spot_49 (ty_140 hS.1.1) (by omega) (by omega) (sa_140 hS (by decide) (by and_intros <;> omega) (Pm1_free hS.1.2.2.2.2 hS.1.2.1 (by omega) (by omega) (by omega))) (fun M49 hS w49 => ?_)
  refine Tr.aload_n (pc := 50) (i := 0) d_X12_spot_50 rfl rfl ?_
  refine Tr.getf (pc := 51) d_X12_spot_51 f_12_109 (by decide) (by decide) (ty_120 hS.1.1) ?_
  refine Tr.tp 141 (fx_120_32 hS.1.1) ?_
  refine Tr.iload_n (pc := 54) (i := 3) d_X12_spot_54 rfl rfl ?_
  refine Tr.aload_n (pc := 55) (i := 0) d_X12_spot_55 rfl rfl ?_
  refine Tr.getf (pc := 56) d_X12_spot_56 f_12_121 (by decide) (by decide) (ty_120 hS.1.1) ?_
  refine Tr.tp g120_36 ((Wr.b w49 rfl).trans ((Wr.b w39 rfl).trans ((Wr.b w32 rfl).trans ((Wr.b w25 rfl).trans eg120_36)))) ?_
  have kx_136_1 : rd M49 136 1 = g136_1 := ((Wr.b w49 rfl).trans ((Wr.b w39 rfl).trans ((Wr.b w32 rfl).trans ((Wr.b w25 rfl).trans eg136_1))))
  refine Tr.iastS (pc := 59) (P := St Pm1 ws_X12_spot_120 as_X12_spot_120 M0) d_X12_spot_59 (ty_141 hS.1.1) (by omega) (by omega) (sa_141 hS (by decide) (by and_intros <;> omega) (Pm1_free hS.1.2.2.2.2 hS.1.2.1 (by omega) (by omega) (by omega))) (fun M59 hS w59 => ?_)
  refine Tr.aload_n (pc := 60) (i := 0) d_X12_spot_60 rfl rfl ?_
  refine Tr.getf (pc := 61) d_X12_spot_61 f_12_112 (by decide) (by decide) (ty_120 hS.1.1) ?_
  refine Tr.tp 142 (fx_120_33 hS.1.1) ?_
  refine Tr.iload_n (pc := 64) (i := 3) d_X12_spot_64 rfl rfl ?_
  refine Tr.iconst (pc := 65) d_X12_spot_65 (by decide) ?_
  have kx_136_1 : rd M59 136 1 = g136_1 := ((Wr.b w59 rfl).trans ((Wr.b w49 rfl).trans ((Wr.b w39 rfl).trans ((Wr.b w32 rfl).trans ((Wr.b w25 rfl).trans eg136_1)))))
  refine Tr.iastS (pc := 66) (P := St Pm1 ws_X12_spot_120 as_X12_spot_120 M0) d_X12_spot_66 (ty_142 hS.1.1) (by omega) (by omega) (sa_142 hS (by decide) (by omega) (Pm1_free hS.1.2.2.2.2 hS.1.2.1 (by omega) (by omega) (by omega))) (fun M66 hS w66 => ?_)
  refine Tr.aload_n (pc := 67) (i := 0) d_X12_spot_67 rfl rfl ?_
  refine Tr.getf (pc := 68) d_X12_spot_68 f_12_94 (by decide) (by decide) (ty_120 hS.1.1) ?_
  refine Tr.tp 136 (fx_120_27 hS.1.1) ?_
  refine Tr.aload_n (pc := 71) (i := 0) d_X12_spot_71 rfl rfl ?_
  refine Tr.getf (pc := 72) d_X12_spot_72 f_12_124 (by decide) (by decide) (ty_120 hS.1.1) ?_
  refine Tr.tp 1 ((kp_X12_spot_120_120_37 hS).trans en_120_37) ?_
  refine Tr.dup2 (pc := 75) d_X12_spot_75 ne01 ne21 ?_
  refine Tr.iald (pc := 76) d_X12_spot_76 (ty_136 hS.1.1) (by omega) (by omega) ?_
  refine Tr.tp g136_1 ((Wr.b w66 rfl).trans ((Wr.b w59 rfl).trans ((Wr.b w49 rfl).trans ((Wr.b w39 rfl).trans ((Wr.b w32 rfl).trans ((Wr.b w25 rfl).trans eg136_1)))))) ?_
  refine Tr.iconst (pc := 77) d_X12_spot_77 (by decide) ?_
  refine Tr.iadd (pc := 78) d_X12_spot_78 ?_
  refine Tr.tp (g136_1 + 1) ((w32_id (by and_intros <;> omega)).trans (by omega)) ?_
  have kx_136_1 : rd M66 136 1 = g136_1 := ((Wr.b w66 rfl).trans ((Wr.b w59 rfl).trans ((Wr.b w49 rfl).trans ((Wr.b w39 rfl).trans ((Wr.b w32 rfl).trans ((Wr.b w25 rfl).trans eg136_1))))))
  refine Tr.iastS (pc := 79) (P := St Pm1 ws_X12_spot_120 as_X12_spot_120 M0) d_X12_spot_79 (ty_136 hS.1.1) (by omega) (by omega) (st_136_1 hS (by decide) (by and_intros <;> omega) (Pm1_spot hS.1.2.2.2.2 hS.1.2.1 (by have e9 := ((Wr.b w66 rfl).trans ((Wr.b w59 rfl).trans ((Wr.b w49 rfl).trans ((Wr.b w39 rfl).trans ((Wr.b w32 rfl).trans ((Wr.b w25 rfl).trans eg136_1)))))); omega) ((show rd M66 137 (200 + rd M66 136 1) = rd M66 137 (g136_1 + 200) from congrArg _ (by have e9 := ((Wr.b w66 rfl).trans ((Wr.b w59 rfl).trans ((Wr.b w49 rfl).trans ((Wr.b w39 rfl).trans ((Wr.b w32 rfl).trans ((Wr.b w25 rfl).trans eg136_1)))))); omega)).trans (((Wr.b w66 rfl).trans ((Wr.b w59 rfl).trans ((Wr.b w49 rfl).trans ((Wr.b w39 rfl).trans ((Wr.b w32 rfl).trans w25.1))))))) ((show rd M66 138 (200 + rd M66 136 1) = rd M66 138 (g136_1 + 200) from congrArg _ (by have e9 := ((Wr.b w66 rfl).trans ((Wr.b w59 rfl).trans ((Wr.b w49 rfl).trans ((Wr.b w39 rfl).trans ((Wr.b w32 rfl).trans ((Wr.b w25 rfl).trans eg136_1)))))); omega)).trans (((Wr.b w66 rfl).trans ((Wr.b w59 rfl).trans ((Wr.b w49 rfl).trans ((Wr.b w39 rfl).trans w32.1)))))) ((show rd M66 139 (200 + rd M66 136 1) = rd M66 139 (g136_1 + 200) from congrArg _ (by have e9 := ((Wr.b w66 rfl).trans ((Wr.b w59 rfl).trans ((Wr.b w49 rfl).trans ((Wr.b w39 rfl).trans ((Wr.b w32 rfl).trans ((Wr.b w25 rfl).trans eg136_1)))))); omega)).trans (((Wr.b w66 rfl).trans ((Wr.b w59 rfl).trans ((Wr.b w49 rfl).trans w39.1))))) ((show rd M66 140 (200 + rd M66 136 1) = rd M66 140 (g136_1 + 200) from congrArg _ (by have e9 := ((Wr.b w66 rfl).trans ((Wr.b w59 rfl).trans ((Wr.b w49 rfl).trans ((Wr.b w39 rfl).trans ((Wr.b w32 rfl).trans ((Wr.b w25 rfl).trans eg136_1)))))); omega)).trans (((Wr.b w66 rfl).trans ((Wr.b w59 rfl).trans w49.1)))) ((show rd M66 141 (200 + rd M66 136 1) = rd M66 141 (g136_1 + 200) from congrArg _ (by have e9 := ((Wr.b w66 rfl).trans ((Wr.b w59 rfl).trans ((Wr.b w49 rfl).trans ((Wr.b w39 rfl).trans ((Wr.b w32 rfl).trans ((Wr.b w25 rfl).trans eg136_1)))))); omega)).trans (((Wr.b w66 rfl).trans w59.1))) ((show rd M66 142 (200 + rd M66 136 1) = rd M66 142 (g136_1 + 200) from congrArg _ (by have e9 := ((Wr.b w66 rfl).trans ((Wr.b w59 rfl).trans ((Wr.b w49 rfl).trans ((Wr.b w39 rfl).trans ((Wr.b w32 rfl).trans ((Wr.b w25 rfl).trans eg136_1)))))); omega)).trans (w66.1)) (((Wr.b w66 rfl).trans ((Wr.b w59 rfl).trans ((Wr.b w49 rfl).trans ((Wr.b w39 rfl).trans ((Wr.b w32 rfl).trans ((Wr.b w25 rfl).trans eg120_36))))))) (fun c => by have e9 := ((Wr.b w66 rfl).trans ((Wr.b w59 rfl).trans ((Wr.b w49 rfl).trans ((Wr.b w39 rfl).trans ((Wr.b w32 rfl).trans ((Wr.b w25 rfl).trans eg136_1)))))); have h5 := hd_o hq1; omega) (fun c => by have h5 := hd_o hq2; omega))) (fun M79 hS w79 => ?_)
  refine Tr.iload_n (pc := 80) (i := 3) d_X12_spot_80 rfl rfl ?_
  have kr_136_1 : rd M79 136 1 = (g136_1 + 1) := w79.1
  exact Tr.iret (pc := 81) d_X12_spot_81 rfl ⟨hS, _, rfl, (by omega), (by omega), (by omega), (by omega), (fun j hj => ((Wr.b w79 rfl).trans ((Wr.b w66 rfl).trans ((Wr.b w59 rfl).trans ((Wr.b w49 rfl).trans ((Wr.b w39 rfl).trans ((Wr.b w32 rfl).trans (w25.2 _ _ (fun c => by have := c.2; omega))))))))), ((show _ = _ from congrArg _ (by omega)).trans (((Wr.b w79 rfl).trans ((Wr.b w66 rfl).trans ((Wr.b w59 rfl).trans ((Wr.b w49 rfl).trans ((Wr.b w39 rfl).trans ((Wr.b w32 rfl).trans w25.1))))))))⟩

set_option maxRecDepth 100000 in
set_option maxHeartbeats 4000000 in
theorem ns_X12_spot_120 {l : Launch} {K : EC} {M0 : Mem} {G136_1 : Int} (hI : In Pm1 M0) (k136_1 : rd M0 136 1 = G136_1) (en_120_37 : rd M0 120 37 = 1) (a1 : Int) (ha1 : 0 ≤ a1 ∧ a1 ≤ 8) (a2 : Int) (ha2 : (-1) ≤ a2 ∧ a2 ≤ 59)  (hq0 : G136_1 ≤ 199) (hq1 : a1 ≠ 0 ∨ 1 ≤ G136_1) (hq2 : a1 = 0 ∨ 0 ≤ a2) : Tr l K 0 mX12_spot 0 [(0, (2, 120)), (1, (0, a1)), (2, (0, a2))] [] M0 (fun M' r => St Pm1 ws_X12_spot_120 as_X12_spot_120 M0 M' ∧ ∃ S136_1 : Int, rd M' 136 1 = S136_1 ∧ (0 ≤ S136_1 ∧ S136_1 ≤ 200) ∧ ∃ v : Int, r = some (0, v) ∧ 200 ≤ v ∧ v ≤ 399 ∧ (S136_1 = G136_1 + 1) ∧ (v = 200 + G136_1) ∧ (∀ j : Int, j < 200 + rd M0 136 1 → rd M' 137 j = rd M0 137 j) ∧ (rd M' 137 (200 + rd M0 136 1) = a1)) := by
  subst k136_1
  refine Tr.imp (sp_X12_spot_120 hI en_120_37 a1 ha1 a2 ha2 hq0 hq1 hq2) ?_
  rintro M' _ ⟨hS, v, rfl, lr, ur, z0, z1, z2, z3⟩
  exact ⟨hS, _, rfl, ir_136_1 hS.1.2.1, v, rfl, lr, ur, z0, z1, z2, z3⟩

def ws_X12_asked_120 : List (Int × Int) := [(120, 3), (120, 4), (120, 5), (120, 6), (120, 7), (120, 8), (120, 9)]
def as_X12_asked_120 : List Int := []
def q_X12_asked_120 (a1 : Int) (M0 M' : Mem) (r : Option PV) : Prop := St Pm1 ws_X12_asked_120 as_X12_asked_120 M0 M' ∧ ∃ v : Int, r = some (0, v) ∧ (-1) ≤ v ∧ v ≤ 5 ∧ (rd M' 120 3 = 0 ∨ rd M' 120 4 + 1 ≤ rd M' 120 5) ∧ (rd M' 120 4 ≤ rd M' 120 5) ∧ (rd M' 120 3 ≠ 1 ∨ rd M' 120 4 + 2 ≤ rd M' 120 5 ∨ rd M' 120 7 < 256) ∧ (rd M0 120 4 ≤ rd M' 120 4 ∧ rd M0 120 5 ≤ rd M' 120 5 ∧ tav M0 ≤ tav M') ∧ (rd M0 120 8 = 0 ∨ rd M' 120 8 = rd M0 120 8) ∧ (1 ≤ rd M' 120 8 ∨ tav M0 < tav M') ∧ (1 ≤ rd M' 120 8 ∨ (0 ≤ v ∧ v ≤ 5))
theorem kp_X12_asked_120_120_37 {q : Mem → Prop} {M0 M : Mem} (h : St q ws_X12_asked_120 as_X12_asked_120 M0 M) : rd M 120 37 = rd M0 120 37 := St.kp h (by decide) (by decide) (by decide)
set_option maxRecDepth 100000 in
set_option maxHeartbeats 4000000 in
theorem sp_X12_asked_120 {l : Launch} {K : EC} {M0 : Mem} (hI : In Pm1 M0) (en_120_37 : rd M0 120 37 = 1) (a1 : Int) (ha1 : 0 ≤ a1 ∧ a1 ≤ 1)  (hq0 : rd M0 120 3 = 0 ∨ rd M0 120 4 + 1 ≤ rd M0 120 5) (hq1 : rd M0 120 4 ≤ rd M0 120 5) (hq2 : rd M0 120 3 ≠ 1 ∨ rd M0 120 4 + 2 ≤ rd M0 120 5 ∨ rd M0 120 7 < 256) : Tr l K 2 mX12_asked 0 [(0, (2, 120)), (1, (0, a1))] [] M0 (q_X12_asked_120 a1 M0) := by
  have hS : St Pm1 ws_X12_asked_120 as_X12_asked_120 M0 M0 := St.rf hI
  obtain ⟨g120_8, eg120_8⟩ : ∃ v, rd M0 120 8 = v := ⟨_, rfl⟩
  have bg120_8 : 0 ≤ g120_8 ∧ g120_8 ≤ 5 := by rw [← eg120_8]; exact ir_120_8 hI.2.1
  obtain ⟨g120_3, eg120_3⟩ : ∃ v, rd M0 120 3 = v := ⟨_, rfl⟩
  have bg120_3 : 0 ≤ g120_3 ∧ g120_3 ≤ 3 := by rw [← eg120_3]; exact ir_120_3 hI.2.1
  obtain ⟨g120_4, eg120_4⟩ : ∃ v, rd M0 120 4 = v := ⟨_, rfl⟩
  have bg120_4 : 0 ≤ g120_4 ∧ g120_4 ≤ 900 := by rw [← eg120_4]; exact ir_120_4 hI.2.1
  obtain ⟨g120_5, eg120_5⟩ : ∃ v, rd M0 120 5 = v := ⟨_, rfl⟩
  have bg120_5 : 0 ≤ g120_5 ∧ g120_5 ≤ 900 := by rw [← eg120_5]; exact ir_120_5 hI.2.1
  obtain ⟨g120_7, eg120_7⟩ : ∃ v, rd M0 120 7 = v := ⟨_, rfl⟩
  have bg120_7 : (-9223372036854775808) ≤ g120_7 ∧ g120_7 ≤ 9223372036854775807 := by rw [← eg120_7]; exact ir_120_7 hI.2.1
  obtain ⟨g9010_0, eg9010_0⟩ : ∃ v, tav M0 = v := ⟨_, rfl⟩
  have bg9010_0 : (-1) ≤ g9010_0 ∧ g9010_0 ≤ 1800 := by rw [← eg9010_0]; exact (tav_b hI.2.1)
  replace hq0 := hd_i hq0
  replace hq2 := hd_i hq2
  refine Tr.aload_n (pc := 0) (i := 0) d_X12_asked_0 rfl rfl ?_
  refine Tr.getf (pc := 1) d_X12_asked_1 f_12_36 (by decide) (by decide) (ty_120 hS.1.1) ?_
  refine Tr.tp g120_8 eg120_8 ?_
  refine Tr.if_le (pc := 4) (tgt := 9) d_X12_asked_4 rfl (fun c4 => ?_) (fun c4 => ?_)
  · refine Tr.aload_n (pc := 9) (i := 0) d_X12_asked_9 rfl rfl ?_
    refine Tr.getf (pc := 10) d_X12_asked_10 f_12_20 (by decide) (by decide) (ty_120 hS.1.1) ?_
    refine Tr.tp g120_3 eg120_3 ?_
    refine Tr.iconst (pc := 13) d_X12_asked_13 (by decide) ?_
    have J37 : ∀ (M : Mem) (u37_120_8 : Int), St Pm1 ws_X12_asked_120 as_X12_asked_120 M0 M → (0 ≤ u37_120_8 ∧ u37_120_8 ≤ 5) → rd M 120 3 = g120_3 → rd M 120 4 = g120_4 → rd M 120 5 = g120_5 → rd M 120 7 = g120_7 → rd M 120 8 = u37_120_8 → tav M = g9010_0 → (u37_120_8 ≠ 0 ∨ g120_3 ≠ 0) → (g120_8 = 0) → Tr l K 2 mX12_asked 37 [(0, (2, 120)), (1, (0, a1))] [] M (q_X12_asked_120 a1 M0) := by
      intro M u37_120_8 hS bu37_120_8 k37_120_3 k37_120_4 k37_120_5 k37_120_7 k37_120_8 k37_9010_0 t37_0 t37_1
      replace t37_0 := hd_i t37_0
      refine Tr.aload_n (pc := 37) (i := 0) d_X12_asked_37 rfl rfl ?_
      refine Tr.getf (pc := 38) d_X12_asked_38 f_12_36 (by decide) (by decide) (ty_120 hS.1.1) ?_
      refine Tr.tp u37_120_8 k37_120_8 ?_
      have J71 : ∀ (M : Mem) (q71_0 : Int), St Pm1 ws_X12_asked_120 as_X12_asked_120 M0 M → ((-1) ≤ q71_0 ∧ q71_0 ≤ 5) → rd M 120 3 = g120_3 → rd M 120 4 = g120_4 → rd M 120 5 = g120_5 → rd M 120 7 = g120_7 → rd M 120 8 = u37_120_8 → tav M = g9010_0 → (u37_120_8 ≠ 0 ∨ g120_3 ≠ 0) → (g120_8 = 0) → (u37_120_8 ≠ 0 ∨ (-1 ≤ q71_0 ∧ q71_0 ≤ 5)) → Tr l K 2 mX12_asked 71 [(0, (2, 120))] [(0, q71_0)] M (q_X12_asked_120 a1 M0) := by
        intro M q71_0 hS bq71_0 k71_120_3 k71_120_4 k71_120_5 k71_120_7 k71_120_8 k71_9010_0 t71_0 t71_1 t71_2
        clear k37_120_3 k37_120_4 k37_120_5 k37_120_7 k37_120_8 k37_9010_0
        replace t71_0 := hd_i t71_0
        replace t71_2 := hd_i t71_2
        refine Tr.istore_n (pc := 71) (i := 2) (ls2 := [(2, (0, q71_0)), (0, (2, 120))]) d_X12_asked_71 rfl (by decide) rfl ?_
        refine Tr.aload_n (pc := 72) (i := 0) d_X12_asked_72 rfl rfl ?_
        refine Tr.getf (pc := 73) d_X12_asked_73 f_12_36 (by decide) (by decide) (ty_120 hS.1.1) ?_
        refine Tr.tp u37_120_8 k71_120_8 ?_
        have J93 : ∀ (M : Mem) (u93_120_8 : Int), St Pm1 ws_X12_asked_120 as_X12_asked_120 M0 M → (0 ≤ u93_120_8 ∧ u93_120_8 ≤ 5) → rd M 120 3 = g120_3 → rd M 120 4 = g120_4 → rd M 120 5 = g120_5 → rd M 120 7 = g120_7 → rd M 120 8 = u93_120_8 → tav M = g9010_0 → (u93_120_8 ≠ 0 ∨ g120_3 ≠ 0) → (g120_8 = 0) → (u93_120_8 ≠ 0 ∨ (0 ≤ q71_0 ∧ q71_0 ≤ 5)) → Tr l K 2 mX12_asked 93 [(0, (2, 120)), (2, (0, q71_0))] [] M (q_X12_asked_120 a1 M0) := by
          intro M u93_120_8 hS bu93_120_8 k93_120_3 k93_120_4 k93_120_5 k93_120_7 k93_120_8 k93_9010_0 t93_0 t93_1 t93_2
          clear k71_120_3 k71_120_4 k71_120_5 k71_120_7 k71_120_8 k71_9010_0
          replace t93_0 := hd_i t93_0
          replace t93_2 := hd_i t93_2
          refine Tr.aload_n (pc := 93) (i := 0) d_X12_asked_93 rfl rfl ?_
          refine Tr.getf (pc := 94) d_X12_asked_94 f_12_36 (by decide) (by decide) (ty_120 hS.1.1) ?_
          refine Tr.tp u93_120_8 k93_120_8 ?_
          refine Tr.if_ne (pc := 97) (tgt := 104) d_X12_asked_97 rfl (fun c97 => ?_) (fun c97 => ?_)
          · have c97b : 1 ≤ u93_120_8 ∧ u93_120_8 ≤ 5 := by omega
            replace c97 := hd_i c97
            refine Tr.iload_n (pc := 104) (i := 2) d_X12_asked_104 rfl rfl ?_
            have kr_120_3 : rd M 120 3 = g120_3 := k93_120_3
            have kr_120_4 : rd M 120 4 = g120_4 := k93_120_4
            have kr_120_5 : rd M 120 5 = g120_5 := k93_120_5
            have kr_120_7 : rd M 120 7 = g120_7 := k93_120_7
            have kr_120_8 : rd M 120 8 = u93_120_8 := k93_120_8
            have kr_9010_0 : tav M = g9010_0 := k93_9010_0
            exact Tr.iret (pc := 105) d_X12_asked_105 rfl ⟨hS, _, rfl, (by omega), (by omega), (by first | exact (hd_o hq0) | exact (hd_o hq0).elim (fun h1 => by omega) (fun h1 => by omega)), (by omega), (by first | exact (hd_o hq2) | exact (hd_o hq2).elim (fun h1 => by omega) (fun h1 => h1.elim (fun h1 => by omega) (fun h1 => by omega))), (by and_intros <;> omega), (by omega), (by omega), (by omega)⟩
          · refine Tr.aload_n (pc := 100) (i := 0) d_X12_asked_100 rfl rfl ?_
            refine Tr.callV (pc := 101) (as := []) d_X12_asked_101 s_12_396 ok_X12_next rfl rfl (Nat.le_of_ble_eq_true rfl) (Nat.le_of_ble_eq_true rfl) (by decide) (ty_120 hS.1.1) ?_
            refine Tr.imp (Tr.deep (by decide) (ns_X12_next_120 (G120_3 := g120_3) (G120_5 := g120_5) (G120_8 := u93_120_8) (G9010_0 := g9010_0) hS.1 (k93_120_3) (k93_120_5) (k93_120_8) (k93_9010_0))) ?_
            rintro M101 _ ⟨h101, s101_120_3, s101_120_4, s101_120_5, s101_120_7, s101_120_8, s101_9010_0, es101_120_3, bs101_120_3, es101_120_4, bs101_120_4, es101_120_5, bs101_120_5, es101_120_7, bs101_120_7, es101_120_8, bs101_120_8, es101_9010_0, bs101_9010_0, rfl, z101_0, z101_1, z101_2, z101_3, z101_4, z101_5, z101_6⟩
            have hS := St.tr hS h101 (by decide) (by decide)
            refine Tr.sc [] rfl ?_
            refine Tr.iload_n (pc := 104) (i := 2) d_X12_asked_104 rfl rfl ?_
            have kr_120_3 : rd M101 120 3 = s101_120_3 := es101_120_3
            have kr_120_4 : rd M101 120 4 = s101_120_4 := es101_120_4
            have kr_120_5 : rd M101 120 5 = s101_120_5 := es101_120_5
            have kr_120_7 : rd M101 120 7 = s101_120_7 := es101_120_7
            have kr_120_8 : rd M101 120 8 = s101_120_8 := es101_120_8
            have kr_9010_0 : tav M101 = s101_9010_0 := es101_9010_0
            exact Tr.iret (pc := 105) d_X12_asked_105 rfl ⟨hS, _, rfl, (by omega), (by omega), (by first | exact (hd_o z101_0) | exact (hd_o z101_0).elim (fun h1 => by omega) (fun h1 => by omega)), (by omega), (by first | exact (hd_o z101_2) | exact (hd_o z101_2).elim (fun h1 => by omega) (fun h1 => h1.elim (fun h1 => by omega) (fun h1 => by omega))), (by and_intros <;> omega), (by omega), (by exact (hd_o t93_0).elim (fun h1 => (ne_o h1).elim (fun h2 => by omega) (fun h2 => by omega)) (fun h1 => (ne_o h1).elim (fun h2 => by omega) (fun h2 => (hd_o z101_5).elim (fun h3 => by omega) (fun h3 => by omega)))), (by exact (hd_o t93_2).elim (fun h1 => (ne_o h1).elim (fun h2 => by omega) (fun h2 => by omega)) (fun h1 => by omega))⟩
        refine Tr.if_ne (pc := 76) (tgt := 93) d_X12_asked_76 rfl (fun c76 => ?_) (fun c76 => ?_)
        · have c76b : 1 ≤ u37_120_8 ∧ u37_120_8 ≤ 5 := by omega
          replace c76 := hd_i c76
          refine Tr.pick [1, 0] (ls2 := [(0, (2, 120)), (2, (0, q71_0))]) rfl ?_
          exact J93 _ _ hS (by and_intros <;> omega) k71_120_3 k71_120_4 k71_120_5 k71_120_7 k71_120_8 k71_9010_0 (by first | exact (hd_o t71_0) | exact (hd_o t71_0).elim (fun h1 => by omega) (fun h1 => by omega)) (by omega) (by omega)
        · refine Tr.iload_n (pc := 79) (i := 2) d_X12_asked_79 rfl rfl ?_
          refine Tr.iconst (pc := 80) d_X12_asked_80 (by decide) ?_
          refine Tr.icmp_ne (pc := 81) (tgt := 93) d_X12_asked_81 rfl (fun c81 => ?_) (fun c81 => ?_)
          · have c81b : 0 ≤ q71_0 ∧ q71_0 ≤ 5 := by omega
            replace c81 := hd_i c81
            refine Tr.pick [1, 0] (ls2 := [(0, (2, 120)), (2, (0, q71_0))]) rfl ?_
            exact J93 _ _ hS (by and_intros <;> omega) k71_120_3 k71_120_4 k71_120_5 k71_120_7 k71_120_8 k71_9010_0 (by first | exact (hd_o t71_0) | exact (hd_o t71_0).elim (fun h1 => by omega) (fun h1 => by omega)) (by omega) (by omega)
          · refine Tr.aload_n (pc := 84) (i := 0) d_X12_asked_84 rfl rfl ?_
            refine Tr.iconst (pc := 85) d_X12_asked_85 (by decide) ?_
            refine Tr.aload_n (pc := 86) (i := 0) d_X12_asked_86 rfl rfl ?_
            refine Tr.getf (pc := 87) d_X12_asked_87 f_12_23 (by decide) (by decide) (ty_120 hS.1.1) ?_
            refine Tr.tp g120_4 k71_120_4 ?_
            refine Tr.callV (pc := 90) (as := [_, _]) d_X12_asked_90 s_12_389 ok_X12_blame rfl rfl (Nat.le_of_ble_eq_true rfl) (Nat.le_of_ble_eq_true rfl) (by decide) (ty_120 hS.1.1) ?_
            refine Tr.imp (Tr.deep (by decide) (ns_X12_blame_120 (G120_8 := u37_120_8) hS.1 (k71_120_8) 3 (by omega) g120_4 (by and_intros <;> omega))) ?_
            rintro M90 _ ⟨h90, s90_120_8, es90_120_8, bs90_120_8, rfl, z90_0⟩
            have hS := St.tr hS h90 (by decide) (by decide)
            refine Tr.sc [] rfl ?_
            refine Tr.pick [1, 0] (ls2 := [(0, (2, 120)), (2, (0, q71_0))]) rfl ?_
            exact J93 _ _ hS (by and_intros <;> omega) ((kp_X12_blame_120_120_3 h90).trans k71_120_3) ((kp_X12_blame_120_120_4 h90).trans k71_120_4) ((kp_X12_blame_120_120_5 h90).trans k71_120_5) ((kp_X12_blame_120_120_7 h90).trans k71_120_7) es90_120_8 ((tav_of ((kp_X12_blame_120_120_5 h90).trans rfl) ((kp_X12_blame_120_120_3 h90).trans rfl)).trans k71_9010_0) (by exact (hd_o z90_0).elim (fun h1 => by omega) (fun h1 => by omega)) (by omega) (by exact (hd_o z90_0).elim (fun h1 => by omega) (fun h1 => by omega))
      refine Tr.if_le (pc := 41) (tgt := 48) d_X12_asked_41 rfl (fun c41 => ?_) (fun c41 => ?_)
      · refine Tr.iload_n (pc := 48) (i := 1) d_X12_asked_48 rfl rfl ?_
        refine Tr.if_ne (pc := 49) (tgt := 63) d_X12_asked_49 rfl (fun c49 => ?_) (fun c49 => ?_)
        · have c49b : 1 ≤ a1 ∧ a1 ≤ 1 := by omega
          replace c49 := hd_i c49
          refine Tr.aload_n (pc := 63) (i := 0) d_X12_asked_63 rfl rfl ?_
          refine Tr.aload_n (pc := 64) (i := 0) d_X12_asked_64 rfl rfl ?_
          refine Tr.getf (pc := 65) d_X12_asked_65 f_12_32 (by decide) (by decide) (ty_120 hS.1.1) ?_
          refine Tr.tp g120_7 k37_120_7 ?_
          refine Tr.callV (pc := 68) (as := [_]) d_X12_asked_68 s_12_464 ok_X12_varOf rfl rfl (Nat.le_of_ble_eq_true rfl) (Nat.le_of_ble_eq_true rfl) (by decide) (ty_120 hS.1.1) ?_
          refine Tr.imp (Tr.deep (by decide) (sp_X12_varOf_120 hS.1.wk ((kp_X12_asked_120_120_37 hS).trans en_120_37) g120_7 (by omega))) ?_
          rintro M68 _ ⟨h68, r68, rfl, lr68, ur68⟩
          have h68 := St.rn h68 (Pm1.of hS.1.2.2.2.2 (fun _ => (ka_X12_varOf_120_131 h68 _)) (fun _ => (ka_X12_varOf_120_137 h68 _)) (fun _ => (ka_X12_varOf_120_138 h68 _)) (fun _ => (ka_X12_varOf_120_139 h68 _)) (fun _ => (ka_X12_varOf_120_140 h68 _)) (fun _ => (ka_X12_varOf_120_141 h68 _)) (fun _ => (ka_X12_varOf_120_142 h68 _)) (fun _ => (ka_X12_varOf_120_143 h68 _)) (fun _ => (ka_X12_varOf_120_151 h68 _)) (fun _ => (ka_X12_varOf_120_152 h68 _)) (kp_X12_varOf_120_126_0 h68) (kp_X12_varOf_120_126_1 h68) (kp_X12_varOf_120_136_0 h68) (kp_X12_varOf_120_136_1 h68) (kp_X12_varOf_120_123_0 h68) (kp_X12_varOf_120_123_1 h68) (kp_X12_varOf_120_124_0 h68) (kp_X12_varOf_120_124_1 h68) (kp_X12_varOf_120_120_8 h68) (kp_X12_varOf_120_120_36 h68) (kp_X12_varOf_120_120_50 h68))
          have hS := St.tr hS h68 (by decide) (by decide)
          refine Tr.sc [(0, r68)] rfl ?_
          refine Tr.pick [0] (ls2 := [(0, (2, 120))]) rfl ?_
          exact J71 _ _ hS (by and_intros <;> omega) ((kp_X12_varOf_120_120_3 h68).trans k37_120_3) ((kp_X12_varOf_120_120_4 h68).trans k37_120_4) ((kp_X12_varOf_120_120_5 h68).trans k37_120_5) ((kp_X12_varOf_120_120_7 h68).trans k37_120_7) ((kp_X12_varOf_120_120_8 h68).trans k37_120_8) ((tav_of ((kp_X12_varOf_120_120_5 h68).trans rfl) ((kp_X12_varOf_120_120_3 h68).trans rfl)).trans k37_9010_0) (by first | exact (hd_o t37_0) | exact (hd_o t37_0).elim (fun h1 => by omega) (fun h1 => by omega)) (by omega) (by omega)
        · refine Tr.aload_n (pc := 52) (i := 0) d_X12_asked_52 rfl rfl ?_
          refine Tr.aload_n (pc := 53) (i := 0) d_X12_asked_53 rfl rfl ?_
          refine Tr.getf (pc := 54) d_X12_asked_54 f_12_32 (by decide) (by decide) (ty_120 hS.1.1) ?_
          refine Tr.tp g120_7 k37_120_7 ?_
          refine Tr.callV (pc := 57) (as := [_]) d_X12_asked_57 s_12_457 ok_X12_partOf rfl rfl (Nat.le_of_ble_eq_true rfl) (Nat.le_of_ble_eq_true rfl) (by decide) (ty_120 hS.1.1) ?_
          refine Tr.imp (Tr.deep (by decide) (sp_X12_partOf_120 hS.1.wk ((kp_X12_asked_120_120_37 hS).trans en_120_37) g120_7 (by omega))) ?_
          rintro M57 _ ⟨h57, r57, rfl, lr57, ur57⟩
          have h57 := St.rn h57 (Pm1.of hS.1.2.2.2.2 (fun _ => (ka_X12_partOf_120_131 h57 _)) (fun _ => (ka_X12_partOf_120_137 h57 _)) (fun _ => (ka_X12_partOf_120_138 h57 _)) (fun _ => (ka_X12_partOf_120_139 h57 _)) (fun _ => (ka_X12_partOf_120_140 h57 _)) (fun _ => (ka_X12_partOf_120_141 h57 _)) (fun _ => (ka_X12_partOf_120_142 h57 _)) (fun _ => (ka_X12_partOf_120_143 h57 _)) (fun _ => (ka_X12_partOf_120_151 h57 _)) (fun _ => (ka_X12_partOf_120_152 h57 _)) (kp_X12_partOf_120_126_0 h57) (kp_X12_partOf_120_126_1 h57) (kp_X12_partOf_120_136_0 h57) (kp_X12_partOf_120_136_1 h57) (kp_X12_partOf_120_123_0 h57) (kp_X12_partOf_120_123_1 h57) (kp_X12_partOf_120_124_0 h57) (kp_X12_partOf_120_124_1 h57) (kp_X12_partOf_120_120_8 h57) (kp_X12_partOf_120_120_36 h57) (kp_X12_partOf_120_120_50 h57))
          have hS := St.tr hS h57 (by decide) (by decide)
          refine Tr.sc [(0, r57)] rfl ?_
          refine Tr.goto (pc := 60) (tgt := 71) d_X12_asked_60 rfl ?_
          refine Tr.pick [0] (ls2 := [(0, (2, 120))]) rfl ?_
          exact J71 _ _ hS (by and_intros <;> omega) ((kp_X12_partOf_120_120_3 h57).trans k37_120_3) ((kp_X12_partOf_120_120_4 h57).trans k37_120_4) ((kp_X12_partOf_120_120_5 h57).trans k37_120_5) ((kp_X12_partOf_120_120_7 h57).trans k37_120_7) ((kp_X12_partOf_120_120_8 h57).trans k37_120_8) ((tav_of ((kp_X12_partOf_120_120_5 h57).trans rfl) ((kp_X12_partOf_120_120_3 h57).trans rfl)).trans k37_9010_0) (by first | exact (hd_o t37_0) | exact (hd_o t37_0).elim (fun h1 => by omega) (fun h1 => by omega)) (by omega) (by omega)
      · refine Tr.iconst (pc := 44) d_X12_asked_44 (by decide) ?_
        refine Tr.goto (pc := 45) (tgt := 71) d_X12_asked_45 rfl ?_
        refine Tr.pick [0] (ls2 := [(0, (2, 120))]) rfl ?_
        exact J71 _ _ hS (by omega) k37_120_3 k37_120_4 k37_120_5 k37_120_7 k37_120_8 k37_9010_0 (by first | exact (hd_o t37_0) | exact (hd_o t37_0).elim (fun h1 => by omega) (fun h1 => by omega)) (by omega) (by omega)
    have J28 : ∀ (M : Mem), St Pm1 ws_X12_asked_120 as_X12_asked_120 M0 M → rd M 120 3 = g120_3 → rd M 120 4 = g120_4 → rd M 120 5 = g120_5 → rd M 120 7 = g120_7 → rd M 120 8 = g120_8 → tav M = g9010_0 → (g120_8 = 0) → (g120_8 = 0) → Tr l K 2 mX12_asked 28 [(0, (2, 120)), (1, (0, a1))] [] M (q_X12_asked_120 a1 M0) := by
      intro M  hS  k28_120_3 k28_120_4 k28_120_5 k28_120_7 k28_120_8 k28_9010_0 t28_0 t28_1
      refine Tr.aload_n (pc := 28) (i := 0) d_X12_asked_28 rfl rfl ?_
      refine Tr.iconst (pc := 29) d_X12_asked_29 (by decide) ?_
      refine Tr.aload_n (pc := 30) (i := 0) d_X12_asked_30 rfl rfl ?_
      refine Tr.getf (pc := 31) d_X12_asked_31 f_12_23 (by decide) (by decide) (ty_120 hS.1.1) ?_
      refine Tr.tp g120_4 k28_120_4 ?_
      refine Tr.callV (pc := 34) (as := [_, _]) d_X12_asked_34 s_12_389 ok_X12_blame rfl rfl (Nat.le_of_ble_eq_true rfl) (Nat.le_of_ble_eq_true rfl) (by decide) (ty_120 hS.1.1) ?_
      refine Tr.imp (Tr.deep (by decide) (ns_X12_blame_120 (G120_8 := g120_8) hS.1 (k28_120_8) 1 (by omega) g120_4 (by and_intros <;> omega))) ?_
      rintro M34 _ ⟨h34, s34_120_8, es34_120_8, bs34_120_8, rfl, z34_0⟩
      have hS := St.tr hS h34 (by decide) (by decide)
      refine Tr.sc [] rfl ?_
      refine Tr.pick [0, 1] (ls2 := [(0, (2, 120)), (1, (0, a1))]) rfl ?_
      exact J37 _ _ hS (by and_intros <;> omega) ((kp_X12_blame_120_120_3 h34).trans k28_120_3) ((kp_X12_blame_120_120_4 h34).trans k28_120_4) ((kp_X12_blame_120_120_5 h34).trans k28_120_5) ((kp_X12_blame_120_120_7 h34).trans k28_120_7) es34_120_8 ((tav_of ((kp_X12_blame_120_120_5 h34).trans rfl) ((kp_X12_blame_120_120_3 h34).trans rfl)).trans k28_9010_0) (by exact (hd_o z34_0).elim (fun h1 => by omega) (fun h1 => by omega)) (by omega)
    refine Tr.icmp_ne (pc := 14) (tgt := 28) d_X12_asked_14 rfl (fun c14 => ?_) (fun c14 => ?_)
    · replace c14 := hd_i c14
      refine Tr.pick [0, 1] (ls2 := [(0, (2, 120)), (1, (0, a1))]) rfl ?_
      exact J28 _ hS eg120_3 eg120_4 eg120_5 eg120_7 eg120_8 eg9010_0 (by omega) (by omega)
    · refine Tr.aload_n (pc := 17) (i := 0) d_X12_asked_17 rfl rfl ?_
      refine Tr.aload_n (pc := 18) (i := 0) d_X12_asked_18 rfl rfl ?_
      refine Tr.getf (pc := 19) d_X12_asked_19 f_12_32 (by decide) (by decide) (ty_120 hS.1.1) ?_
      refine Tr.tp g120_7 eg120_7 ?_
      refine Tr.callV (pc := 22) (as := [_]) d_X12_asked_22 s_12_453 ok_X12_isOwn rfl rfl (Nat.le_of_ble_eq_true rfl) (Nat.le_of_ble_eq_true rfl) (by decide) (ty_120 hS.1.1) ?_
      refine Tr.imp (Tr.deep (by decide) (sp_X12_isOwn_120 hS.1.wk g120_7 (by omega))) ?_
      rintro M22 _ ⟨h22, r22, rfl, lr22, ur22⟩
      have h22 := St.rn h22 (Pm1.of hS.1.2.2.2.2 (fun _ => (ka_X12_isOwn_120_131 h22 _)) (fun _ => (ka_X12_isOwn_120_137 h22 _)) (fun _ => (ka_X12_isOwn_120_138 h22 _)) (fun _ => (ka_X12_isOwn_120_139 h22 _)) (fun _ => (ka_X12_isOwn_120_140 h22 _)) (fun _ => (ka_X12_isOwn_120_141 h22 _)) (fun _ => (ka_X12_isOwn_120_142 h22 _)) (fun _ => (ka_X12_isOwn_120_143 h22 _)) (fun _ => (ka_X12_isOwn_120_151 h22 _)) (fun _ => (ka_X12_isOwn_120_152 h22 _)) (kp_X12_isOwn_120_126_0 h22) (kp_X12_isOwn_120_126_1 h22) (kp_X12_isOwn_120_136_0 h22) (kp_X12_isOwn_120_136_1 h22) (kp_X12_isOwn_120_123_0 h22) (kp_X12_isOwn_120_123_1 h22) (kp_X12_isOwn_120_124_0 h22) (kp_X12_isOwn_120_124_1 h22) (kp_X12_isOwn_120_120_8 h22) (kp_X12_isOwn_120_120_36 h22) (kp_X12_isOwn_120_120_50 h22))
      have hS := St.tr hS h22 (by decide) (by decide)
      refine Tr.sc [(0, r22)] rfl ?_
      refine Tr.if_eq (pc := 25) (tgt := 37) d_X12_asked_25 rfl (fun c25 => ?_) (fun c25 => ?_)
      · refine Tr.pick [0, 1] (ls2 := [(0, (2, 120)), (1, (0, a1))]) rfl ?_
        exact J37 _ _ hS (by and_intros <;> omega) ((kp_X12_isOwn_120_120_3 h22).trans eg120_3) ((kp_X12_isOwn_120_120_4 h22).trans eg120_4) ((kp_X12_isOwn_120_120_5 h22).trans eg120_5) ((kp_X12_isOwn_120_120_7 h22).trans eg120_7) ((kp_X12_isOwn_120_120_8 h22).trans eg120_8) ((tav_of ((kp_X12_isOwn_120_120_5 h22).trans rfl) ((kp_X12_isOwn_120_120_3 h22).trans rfl)).trans eg9010_0) (by omega) (by omega)
      · have c25b : 1 ≤ r22 ∧ r22 ≤ 1 := by omega
        replace c25 := hd_i c25
        refine Tr.pick [0, 1] (ls2 := [(0, (2, 120)), (1, (0, a1))]) rfl ?_
        exact J28 _ hS ((kp_X12_isOwn_120_120_3 h22).trans eg120_3) ((kp_X12_isOwn_120_120_4 h22).trans eg120_4) ((kp_X12_isOwn_120_120_5 h22).trans eg120_5) ((kp_X12_isOwn_120_120_7 h22).trans eg120_7) ((kp_X12_isOwn_120_120_8 h22).trans eg120_8) ((tav_of ((kp_X12_isOwn_120_120_5 h22).trans rfl) ((kp_X12_isOwn_120_120_3 h22).trans rfl)).trans eg9010_0) (by omega) (by omega)
  · refine Tr.iconst (pc := 7) d_X12_asked_7 (by decide) ?_
    have kr_120_3 : rd M0 120 3 = g120_3 := eg120_3
    have kr_120_4 : rd M0 120 4 = g120_4 := eg120_4
    have kr_120_5 : rd M0 120 5 = g120_5 := eg120_5
    have kr_120_7 : rd M0 120 7 = g120_7 := eg120_7
    have kr_120_8 : rd M0 120 8 = g120_8 := eg120_8
    have kr_9010_0 : tav M0 = g9010_0 := eg9010_0
    exact Tr.iret (pc := 8) d_X12_asked_8 rfl ⟨hS, _, rfl, by omega, by omega, (by first | exact (hd_o hq0) | exact (hd_o hq0).elim (fun h1 => by omega) (fun h1 => by omega)), (by omega), (by first | exact (hd_o hq2) | exact (hd_o hq2).elim (fun h1 => by omega) (fun h1 => h1.elim (fun h1 => by omega) (fun h1 => by omega))), (by and_intros <;> omega), (by omega), (by omega), (by omega)⟩

set_option maxRecDepth 100000 in
set_option maxHeartbeats 4000000 in
theorem ns_X12_asked_120 {l : Launch} {K : EC} {M0 : Mem} {G120_3 G120_4 G120_5 G120_7 G120_8 G9010_0 : Int} (hI : In Pm1 M0) (k120_3 : rd M0 120 3 = G120_3) (k120_4 : rd M0 120 4 = G120_4) (k120_5 : rd M0 120 5 = G120_5) (k120_7 : rd M0 120 7 = G120_7) (k120_8 : rd M0 120 8 = G120_8) (k9010_0 : tav M0 = G9010_0) (en_120_37 : rd M0 120 37 = 1) (a1 : Int) (ha1 : 0 ≤ a1 ∧ a1 ≤ 1)  (hq0 : G120_3 = 0 ∨ G120_4 + 1 ≤ G120_5) (hq1 : G120_4 ≤ G120_5) (hq2 : G120_3 ≠ 1 ∨ G120_4 + 2 ≤ G120_5 ∨ G120_7 < 256) : Tr l K 2 mX12_asked 0 [(0, (2, 120)), (1, (0, a1))] [] M0 (fun M' r => St Pm1 ws_X12_asked_120 as_X12_asked_120 M0 M' ∧ ∃ S120_3 S120_4 S120_5 S120_7 S120_8 S9010_0 : Int, rd M' 120 3 = S120_3 ∧ (0 ≤ S120_3 ∧ S120_3 ≤ 3) ∧ rd M' 120 4 = S120_4 ∧ (0 ≤ S120_4 ∧ S120_4 ≤ 900) ∧ rd M' 120 5 = S120_5 ∧ (0 ≤ S120_5 ∧ S120_5 ≤ 900) ∧ rd M' 120 7 = S120_7 ∧ ((-9223372036854775808) ≤ S120_7 ∧ S120_7 ≤ 9223372036854775807) ∧ rd M' 120 8 = S120_8 ∧ (0 ≤ S120_8 ∧ S120_8 ≤ 5) ∧ tav M' = S9010_0 ∧ ((-1) ≤ S9010_0 ∧ S9010_0 ≤ 1800) ∧ ∃ v : Int, r = some (0, v) ∧ (-1) ≤ v ∧ v ≤ 5 ∧ Hd (S120_3 = 0 ∨ S120_4 + 1 ≤ S120_5) ∧ (S120_4 ≤ S120_5) ∧ Hd (S120_3 ≠ 1 ∨ S120_4 + 2 ≤ S120_5 ∨ S120_7 < 256) ∧ (G120_4 ≤ S120_4 ∧ G120_5 ≤ S120_5 ∧ G9010_0 ≤ S9010_0) ∧ Hd (G120_8 = 0 ∨ S120_8 = G120_8) ∧ Hd (1 ≤ S120_8 ∨ G9010_0 < S9010_0) ∧ Hd (1 ≤ S120_8 ∨ (0 ≤ v ∧ v ≤ 5))) := by
  subst k120_3
  subst k120_4
  subst k120_5
  subst k120_7
  subst k120_8
  subst k9010_0
  refine Tr.imp (sp_X12_asked_120 hI en_120_37 a1 ha1 hq0 hq1 hq2) ?_
  rintro M' _ ⟨hS, v, rfl, lr, ur, z0, z1, z2, z3, z4, z5, z6⟩
  exact ⟨hS, _, _, _, _, _, _, rfl, ir_120_3 hS.1.2.1, rfl, ir_120_4 hS.1.2.1, rfl, ir_120_5 hS.1.2.1, rfl, ir_120_7 hS.1.2.1, rfl, ir_120_8 hS.1.2.1, rfl, (tav_b hS.1.2.1), v, rfl, lr, ur, hd_i z0, z1, hd_i z2, z3, hd_i z4, hd_i z5, hd_i z6⟩

def ws_X12_pushes_120 : List (Int × Int) := [(120, 43)]
def as_X12_pushes_120 : List Int := [145, 146, 147, 149]
def q_X12_pushes_120 (a1 : Int) (M0 M' : Mem) (r : Option PV) : Prop := St Pm1 ws_X12_pushes_120 as_X12_pushes_120 M0 M' ∧ r = none ∧ (rd M' 120 43 = rd M0 120 43 + 1) ∧ (n4v M' = n4v M0) ∧ (fr0 M' ≤ 1)
set_option maxRecDepth 100000 in
set_option maxHeartbeats 4000000 in
theorem sp_X12_pushes_120 {l : Launch} {K : EC} {M0 : Mem} (hI : In Pm1 M0)  (a1 : Int) (ha1 : 0 ≤ a1 ∧ a1 ≤ 5)  (hq0 : rd M0 120 43 ≤ 19) (hq1 : a1 ≠ 4) (hq2 : 1 ≤ rd M0 120 43 ∨ a1 ≤ 1) (hq3 : fr0 M0 ≤ 1 ∨ rd M0 120 43 = 0) : Tr l K 0 mX12_pushes 0 [(0, (2, 120)), (1, (0, a1))] [] M0 (q_X12_pushes_120 a1 M0) := by
  have hS : St Pm1 ws_X12_pushes_120 as_X12_pushes_120 M0 M0 := St.rf hI
  obtain ⟨g120_43, eg120_43⟩ : ∃ v, rd M0 120 43 = v := ⟨_, rfl⟩
  have bg120_43 : 0 ≤ g120_43 ∧ g120_43 ≤ 20 := by rw [← eg120_43]; exact ir_120_43 hI.2.1
  obtain ⟨g9002_0, eg9002_0⟩ : ∃ v, n4v M0 = v := ⟨_, rfl⟩
  have bg9002_0 : 0 ≤ g9002_0 ∧ g9002_0 ≤ 20 := by rw [← eg9002_0]; exact (n4v_b hI.2.1)
  obtain ⟨g9005_0, eg9005_0⟩ : ∃ v, fr0 M0 = v := ⟨_, rfl⟩
  have bg9005_0 : 0 ≤ g9005_0 ∧ g9005_0 ≤ 5 := by rw [← eg9005_0]; exact (fr0_b hI.2.1)
  obtain ⟨g120_46, eg120_46⟩ : ∃ v, rd M0 120 46 = v := ⟨_, rfl⟩
  have bg120_46 : 0 ≤ g120_46 ∧ g120_46 ≤ 500 := by rw [← eg120_46]; exact ir_120_46 hI.2.1
  replace hq1 := hd_i hq1
  replace hq2 := hd_i hq2
  replace hq3 := hd_i hq3
  refine Tr.aload_n (pc := 0) (i := 0) d_X12_pushes_0 rfl rfl ?_
  refine Tr.getf (pc := 1) d_X12_pushes_1 f_12_127 (by decide) (by decide) (ty_120 hS.1.1) ?_
  refine Tr.tp 145 (fx_120_38 hS.1.1) ?_
  refine Tr.aload_n (pc := 4) (i := 0) d_X12_pushes_4 rfl rfl ?_
  refine Tr.getf (pc := 5) d_X12_pushes_5 f_12_143 (by decide) (by decide) (ty_120 hS.1.1) ?_
  refine Tr.tp g120_43 eg120_43 ?_
  refine Tr.iload_n (pc := 8) (i := 1) d_X12_pushes_8 rfl rfl ?_
  refine Tr.iastS (pc := 9) (P := St Pm1 ws_X12_pushes_120 as_X12_pushes_120 M0) d_X12_pushes_9 (ty_145 hS.1.1) (by omega) (by omega) (sa_145 hS (by decide) (by and_intros <;> omega) (Pm1.of hS.1.2.2.2.2 (fun _ => rd_wb _ rfl) (fun _ => rd_wb _ rfl) (fun _ => rd_wb _ rfl) (fun _ => rd_wb _ rfl) (fun _ => rd_wb _ rfl) (fun _ => rd_wb _ rfl) (fun _ => rd_wb _ rfl) (fun _ => rd_wb _ rfl) (fun _ => rd_wb _ rfl) (fun _ => rd_wb _ rfl) (rd_wb _ rfl) (rd_wb _ rfl) (rd_wb _ rfl) (rd_wb _ rfl) (rd_wb _ rfl) (rd_wb _ rfl) (rd_wb _ rfl) (rd_wb _ rfl) (rd_wb _ rfl) (rd_wb _ rfl) (rd_wb _ rfl))) (fun M9 hS w9 => ?_)
  obtain ⟨v9_9005, ev9_9005⟩ : ∃ v, fr0 M9 = v := ⟨_, rfl⟩
  have bv9_9005 : 0 ≤ v9_9005 ∧ v9_9005 ≤ 5 := by rw [← ev9_9005]; exact (fr0_b hS.1.2.1)
  have fv9_9005 : (g120_43 = 0 ∧ v9_9005 = a1) ∨ (g120_43 ≠ 0 ∧ v9_9005 = g9005_0) := by have h8 := fr0_w w9; have h7 : fr0 M9 = v9_9005 := ev9_9005; have h6 := eg9005_0; omega
  replace fv9_9005 := hd_i fv9_9005
  refine Tr.aload_n (pc := 10) (i := 0) d_X12_pushes_10 rfl rfl ?_
  refine Tr.getf (pc := 11) d_X12_pushes_11 f_12_130 (by decide) (by decide) (ty_120 hS.1.1) ?_
  refine Tr.tp 146 (fx_120_39 hS.1.1) ?_
  refine Tr.aload_n (pc := 14) (i := 0) d_X12_pushes_14 rfl rfl ?_
  refine Tr.getf (pc := 15) d_X12_pushes_15 f_12_143 (by decide) (by decide) (ty_120 hS.1.1) ?_
  refine Tr.tp g120_43 ((Wr.b w9 rfl).trans eg120_43) ?_
  refine Tr.iconst (pc := 18) d_X12_pushes_18 (by decide) ?_
  refine Tr.iastS (pc := 19) (P := St Pm1 ws_X12_pushes_120 as_X12_pushes_120 M0) d_X12_pushes_19 (ty_146 hS.1.1) (by omega) (by omega) (sa_146 hS (by decide) (by omega) (Pm1.of hS.1.2.2.2.2 (fun _ => rd_wb _ rfl) (fun _ => rd_wb _ rfl) (fun _ => rd_wb _ rfl) (fun _ => rd_wb _ rfl) (fun _ => rd_wb _ rfl) (fun _ => rd_wb _ rfl) (fun _ => rd_wb _ rfl) (fun _ => rd_wb _ rfl) (fun _ => rd_wb _ rfl) (fun _ => rd_wb _ rfl) (rd_wb _ rfl) (rd_wb _ rfl) (rd_wb _ rfl) (rd_wb _ rfl) (rd_wb _ rfl) (rd_wb _ rfl) (rd_wb _ rfl) (rd_wb _ rfl) (rd_wb _ rfl) (rd_wb _ rfl) (rd_wb _ rfl))) (fun M19 hS w19 => ?_)
  refine Tr.aload_n (pc := 20) (i := 0) d_X12_pushes_20 rfl rfl ?_
  refine Tr.getf (pc := 21) d_X12_pushes_21 f_12_133 (by decide) (by decide) (ty_120 hS.1.1) ?_
  refine Tr.tp 147 (fx_120_40 hS.1.1) ?_
  refine Tr.aload_n (pc := 24) (i := 0) d_X12_pushes_24 rfl rfl ?_
  refine Tr.getf (pc := 25) d_X12_pushes_25 f_12_143 (by decide) (by decide) (ty_120 hS.1.1) ?_
  refine Tr.tp g120_43 ((Wr.b w19 rfl).trans ((Wr.b w9 rfl).trans eg120_43)) ?_
  refine Tr.iconst (pc := 28) d_X12_pushes_28 (by decide) ?_
  refine Tr.zastS (pc := 29) (P := St Pm1 ws_X12_pushes_120 as_X12_pushes_120 M0) d_X12_pushes_29 (ty_147 hS.1.1) (by omega) (by omega) (by omega) (sa_147 hS (by decide) (by omega) (Pm1.of hS.1.2.2.2.2 (fun _ => rd_wb _ rfl) (fun _ => rd_wb _ rfl) (fun _ => rd_wb _ rfl) (fun _ => rd_wb _ rfl) (fun _ => rd_wb _ rfl) (fun _ => rd_wb _ rfl) (fun _ => rd_wb _ rfl) (fun _ => rd_wb _ rfl) (fun _ => rd_wb _ rfl) (fun _ => rd_wb _ rfl) (rd_wb _ rfl) (rd_wb _ rfl) (rd_wb _ rfl) (rd_wb _ rfl) (rd_wb _ rfl) (rd_wb _ rfl) (rd_wb _ rfl) (rd_wb _ rfl) (rd_wb _ rfl) (rd_wb _ rfl) (rd_wb _ rfl))) (fun M29 hS w29 => ?_)
  refine Tr.aload_n (pc := 30) (i := 0) d_X12_pushes_30 rfl rfl ?_
  refine Tr.getf (pc := 31) d_X12_pushes_31 f_12_140 (by decide) (by decide) (ty_120 hS.1.1) ?_
  refine Tr.tp 149 (fx_120_42 hS.1.1) ?_
  refine Tr.aload_n (pc := 34) (i := 0) d_X12_pushes_34 rfl rfl ?_
  refine Tr.getf (pc := 35) d_X12_pushes_35 f_12_143 (by decide) (by decide) (ty_120 hS.1.1) ?_
  refine Tr.tp g120_43 ((Wr.b w29 rfl).trans ((Wr.b w19 rfl).trans ((Wr.b w9 rfl).trans eg120_43))) ?_
  refine Tr.aload_n (pc := 38) (i := 0) d_X12_pushes_38 rfl rfl ?_
  refine Tr.getf (pc := 39) d_X12_pushes_39 f_12_152 (by decide) (by decide) (ty_120 hS.1.1) ?_
  refine Tr.tp g120_46 ((Wr.b w29 rfl).trans ((Wr.b w19 rfl).trans ((Wr.b w9 rfl).trans eg120_46))) ?_
  refine Tr.iastS (pc := 42) (P := St Pm1 ws_X12_pushes_120 as_X12_pushes_120 M0) d_X12_pushes_42 (ty_149 hS.1.1) (by omega) (by omega) (sa_149 hS (by decide) (by and_intros <;> omega) (Pm1.of hS.1.2.2.2.2 (fun _ => rd_wb _ rfl) (fun _ => rd_wb _ rfl) (fun _ => rd_wb _ rfl) (fun _ => rd_wb _ rfl) (fun _ => rd_wb _ rfl) (fun _ => rd_wb _ rfl) (fun _ => rd_wb _ rfl) (fun _ => rd_wb _ rfl) (fun _ => rd_wb _ rfl) (fun _ => rd_wb _ rfl) (rd_wb _ rfl) (rd_wb _ rfl) (rd_wb _ rfl) (rd_wb _ rfl) (rd_wb _ rfl) (rd_wb _ rfl) (rd_wb _ rfl) (rd_wb _ rfl) (rd_wb _ rfl) (rd_wb _ rfl) (rd_wb _ rfl))) (fun M42 hS w42 => ?_)
  refine Tr.aload_n (pc := 43) (i := 0) d_X12_pushes_43 rfl rfl ?_
  refine Tr.dup (pc := 44) d_X12_pushes_44 ne21 ?_
  refine Tr.getf (pc := 45) d_X12_pushes_45 f_12_143 (by decide) (by decide) (ty_120 hS.1.1) ?_
  refine Tr.tp g120_43 ((Wr.b w42 rfl).trans ((Wr.b w29 rfl).trans ((Wr.b w19 rfl).trans ((Wr.b w9 rfl).trans eg120_43)))) ?_
  refine Tr.iconst (pc := 48) d_X12_pushes_48 (by decide) ?_
  refine Tr.iadd (pc := 49) d_X12_pushes_49 ?_
  refine Tr.tp (g120_43 + 1) ((w32_id (by and_intros <;> omega)).trans (by omega)) ?_
  refine Tr.putfS (pc := 50) (P := St Pm1 ws_X12_pushes_120 as_X12_pushes_120 M0) d_X12_pushes_50 f_12_143 (by decide) (by decide) (ty_120 hS.1.1) (st_120_43 hS (by decide) (by and_intros <;> omega) (Pm1.of hS.1.2.2.2.2 (fun _ => rd_wb _ rfl) (fun _ => rd_wb _ rfl) (fun _ => rd_wb _ rfl) (fun _ => rd_wb _ rfl) (fun _ => rd_wb _ rfl) (fun _ => rd_wb _ rfl) (fun _ => rd_wb _ rfl) (fun _ => rd_wb _ rfl) (fun _ => rd_wb _ rfl) (fun _ => rd_wb _ rfl) (rd_wb _ rfl) (rd_wb _ rfl) (rd_wb _ rfl) (rd_wb _ rfl) (rd_wb _ rfl) (rd_wb _ rfl) (rd_wb _ rfl) (rd_wb _ rfl) (rd_wb _ rfl) (rd_wb _ rfl) (rd_wb _ rfl))) (fun M50 hS w50 => ?_)
  obtain ⟨v50_9002, ev50_9002⟩ : ∃ v, n4v M50 = v := ⟨_, rfl⟩
  have bv50_9002 : 0 ≤ v50_9002 ∧ v50_9002 ≤ 20 := by rw [← ev50_9002]; exact (n4v_b hS.1.2.1)
  have fv50_9002 : v50_9002 = g9002_0 := by have h8 := ct_push (x := 145) (j := 43) (e := 4) (a := 1) (b := 0) (M := M0) (M2 := M50) (n := g120_43) (v := a1) eg120_43 (w50.1.trans (by omega)) ((Wr.b w50 rfl).trans ((Wr.b w42 rfl).trans ((Wr.b w29 rfl).trans ((Wr.b w19 rfl).trans w9.1)))) (fun i hi => (Wr.b w50 rfl).trans ((Wr.b w42 rfl).trans ((Wr.b w29 rfl).trans ((Wr.b w19 rfl).trans (w9.2 _ _ (fun c => hi c.2)))))) (by omega); have h7 : ctV 145 43 4 1 0 M50 = v50_9002 := ev50_9002; have h6 : ctV 145 43 4 1 0 M0 = g9002_0 := eg9002_0; have h5 := hd_o hq1; omega
  have kr_120_43 : rd M50 120 43 = (g120_43 + 1) := w50.1
  have kr_9002_0 : n4v M50 = v50_9002 := ev50_9002
  have kr_9005_0 : fr0 M50 = v9_9005 := ((fr0_of (fun j => ((Wr.b w50 rfl).trans ((Wr.b w42 rfl).trans ((Wr.b w29 rfl).trans ((Wr.b w19 rfl).trans rfl)))))).trans ev9_9005)
  exact Tr.vret (pc := 53) d_X12_pushes_53 rfl ⟨hS, rfl, (by omega), (by omega), (by exact (hd_o fv9_9005).elim (fun h1 => (hd_o hq2).elim (fun h2 => by omega) (fun h2 => by omega)) (fun h1 => (ne_o h1.1).elim (fun h2 => by omega) (fun h2 => (hd_o hq3).elim (fun h3 => by omega) (fun h3 => by omega))))⟩
end
