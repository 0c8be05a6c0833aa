def ws_X12_stretches_120 : List (Int × Int) := [(120, 97), (120, 98), (120, 99)]
def as_X12_stretches_120 : List Int := []
def q_X12_stretches_120 (M0 M' : Mem) (r : Option PV) : Prop := St Tru ws_X12_stretches_120 as_X12_stretches_120 M0 M' ∧ ∃ v : Int, r = some (0, v) ∧ (-2147483648) ≤ v ∧ v ≤ 2147483647
set_option maxRecDepth 100000 in
set_option maxHeartbeats 4000000 in
theorem sp_X12_stretches_120 {l : Launch} {K : EC} {M0 : Mem} (hI : In Tru M0) (en_120_12 : rd M0 120 12 = 0) (a1 : Int) (ha1 : (-2147483648) ≤ a1 ∧ a1 ≤ 2147483647)  : Tr l K 2 mX12_stretches 0 [(0, (2, 120)), (1, (0, a1))] [] M0 (q_X12_stretches_120 M0) := by
  have hS : St Tru ws_X12_stretches_120 as_X12_stretches_120 M0 M0 := St.rf hI
  refine Tr.aload_n (pc := 0) (i := 0) d_X12_stretches_0 rfl rfl ?_
  refine Tr.getz (pc := 1) d_X12_stretches_1 f_12_270 (by decide) (ty_120 hS.1.1) ?_
  refine Tr.gen (P := fun v => 0 ≤ v ∧ v ≤ 1) (ir_120_85 hS.1.2.1) (fun r1 er1 br1 => ?_)
  refine Tr.if_eq (pc := 4) (tgt := 15) d_X12_stretches_4 rfl (fun c4 => ?_) (fun c4 => ?_)
  · refine Tr.iconst (pc := 15) d_X12_stretches_15 (by decide) ?_
    exact Tr.iret (pc := 16) d_X12_stretches_16 rfl ⟨hS, _, rfl, by omega, by omega⟩
  · refine Tr.aload_n (pc := 7) (i := 0) d_X12_stretches_7 rfl rfl ?_
    refine Tr.iload_n (pc := 8) (i := 1) d_X12_stretches_8 rfl rfl ?_
    refine Tr.callV (pc := 9) (as := [_]) d_X12_stretches_9 s_12_555 ok_X12_isPart rfl rfl (Nat.le_of_ble_eq_true rfl) (Nat.le_of_ble_eq_true rfl) (by decide) (ty_120 hS.1.1) ?_
    refine Tr.imp (Tr.deep (by decide) (sp_X12_isPart_120 hS.1 ((St.kp hS (by decide) (by decide) (by decide)).trans en_120_12) a1 (by omega))) ?_
    rintro M9 _ ⟨h9, r9, rfl, lr9, ur9, z9_0⟩
    have hS := St.tr hS h9 (by decide) (by decide)
    obtain ⟨w9_126_0, ew9_126_0⟩ : ∃ v, rd M9 126 0 = v := ⟨_, rfl⟩
    have bw9_126_0 : 0 ≤ w9_126_0 ∧ w9_126_0 ≤ 6 := by rw [← ew9_126_0]; exact ir_126_0 hS.1.2.1
    have ka9_126_0 : rd M9 126 0 = w9_126_0 := ew9_126_0
    refine Tr.sc [(0, r9)] rfl ?_
    refine Tr.if_ne (pc := 12) (tgt := 17) d_X12_stretches_12 rfl (fun c12 => ?_) (fun c12 => ?_)
    · refine Tr.aload_n (pc := 17) (i := 0) d_X12_stretches_17 rfl rfl ?_
      refine Tr.iload_n (pc := 18) (i := 1) d_X12_stretches_18 rfl rfl ?_
      refine Tr.iconst (pc := 19) d_X12_stretches_19 (by decide) ?_
      refine Tr.callV (pc := 20) (as := [_, _]) d_X12_stretches_20 s_12_644 ok_X12_finds rfl rfl (Nat.le_of_ble_eq_true rfl) (Nat.le_of_ble_eq_true rfl) (by decide) (ty_120 hS.1.1) ?_
      refine Tr.imp (Tr.deep (by decide) (sp_X12_finds_120 hS.1 a1 (by omega) (-1) (by omega))) ?_
      rintro M20 _ ⟨h20, r20, rfl, lr20, ur20, z20_0⟩
      have hS := St.tr hS h20 (by decide) (by decide)
      refine Tr.sc [(0, r20)] rfl ?_
      refine Tr.istore_n (pc := 23) (i := 2) (ls2 := [(2, (0, r20)), (0, (2, 120)), (1, (0, a1))]) d_X12_stretches_23 rfl (by decide) rfl ?_
      refine Tr.iload_n (pc := 24) (i := 2) d_X12_stretches_24 rfl rfl ?_
      refine Tr.if_eq (pc := 25) (tgt := 32) d_X12_stretches_25 rfl (fun c25 => ?_) (fun c25 => ?_)
      · refine Tr.aload_n (pc := 32) (i := 0) d_X12_stretches_32 rfl rfl ?_
        refine Tr.getf (pc := 33) d_X12_stretches_33 f_12_312 (by decide) (by decide) (ty_120 hS.1.1) ?_
        refine Tr.gen (P := fun v => (-2147483648) ≤ v ∧ v ≤ 2147483647) (ir_120_99 hS.1.2.1) (fun r33 er33 br33 => ?_)
        exact Tr.iret (pc := 36) d_X12_stretches_36 rfl ⟨hS, _, rfl, by omega, by omega⟩
      · refine Tr.iconst (pc := 28) d_X12_stretches_28 (by decide) ?_
        refine Tr.goto (pc := 29) (tgt := 36) d_X12_stretches_29 rfl ?_
        exact Tr.iret (pc := 36) d_X12_stretches_36 rfl ⟨hS, _, rfl, by omega, by omega⟩
    · refine Tr.iconst (pc := 15) d_X12_stretches_15 (by decide) ?_
      exact Tr.iret (pc := 16) d_X12_stretches_16 rfl ⟨hS, _, rfl, by omega, by omega⟩

def ws_X12_stretch_120 : List (Int × Int) := [(120, 97), (120, 98), (120, 99)]
def as_X12_stretch_120 : List Int := []
def q_X12_stretch_120 (M0 M' : Mem) (r : Option PV) : Prop := St Tru ws_X12_stretch_120 as_X12_stretch_120 M0 M' ∧ ∃ v : Int, r = some (0, v) ∧ (-2147483648) ≤ v ∧ v ≤ 2147483647
set_option maxRecDepth 100000 in
set_option maxHeartbeats 4000000 in
theorem sp_X12_stretch_120 {l : Launch} {K : EC} {M0 : Mem} (hI : In Tru M0) (en_120_12 : rd M0 120 12 = 0) (a1 : Int) (ha1 : (-2147483648) ≤ a1 ∧ a1 ≤ 2147483647) (a2 : Int) (ha2 : (-2147483648) ≤ a2 ∧ a2 ≤ 2147483647) (a3 : Int) (ha3 : (-2147483648) ≤ a3 ∧ a3 ≤ 2147483647)  : Tr l K 2 mX12_stretch 0 [(0, (2, 120)), (1, (0, a1)), (2, (0, a2)), (3, (0, a3))] [] M0 (q_X12_stretch_120 M0) := by
  have hS : St Tru ws_X12_stretch_120 as_X12_stretch_120 M0 M0 := St.rf hI
  refine Tr.aload_n (pc := 0) (i := 0) d_X12_stretch_0 rfl rfl ?_
  refine Tr.getz (pc := 1) d_X12_stretch_1 f_12_270 (by decide) (ty_120 hS.1.1) ?_
  refine Tr.gen (P := fun v => 0 ≤ v ∧ v ≤ 1) (ir_120_85 hS.1.2.1) (fun r1 er1 br1 => ?_)
  refine Tr.if_eq (pc := 4) (tgt := 37) d_X12_stretch_4 rfl (fun c4 => ?_) (fun c4 => ?_)
  · refine Tr.iconst (pc := 37) d_X12_stretch_37 (by decide) ?_
    exact Tr.iret (pc := 38) d_X12_stretch_38 rfl ⟨hS, _, rfl, by omega, by omega⟩
  · refine Tr.aload_n (pc := 7) (i := 0) d_X12_stretch_7 rfl rfl ?_
    refine Tr.iload_n (pc := 8) (i := 1) d_X12_stretch_8 rfl rfl ?_
    refine Tr.callV (pc := 9) (as := [_]) d_X12_stretch_9 s_12_555 ok_X12_isPart rfl rfl (Nat.le_of_ble_eq_true rfl) (Nat.le_of_ble_eq_true rfl) (by decide) (ty_120 hS.1.1) ?_
    refine Tr.imp (Tr.deep (by decide) (sp_X12_isPart_120 hS.1 ((St.kp hS (by decide) (by decide) (by decide)).trans en_120_12) a1 (by omega))) ?_
    rintro M9 _ ⟨h9, r9, rfl, lr9, ur9, z9_0⟩
    have hS := St.tr hS h9 (by decide) (by decide)
    obtain ⟨w9_126_0, ew9_126_0⟩ : ∃ v, rd M9 126 0 = v := ⟨_, rfl⟩
    have bw9_126_0 : 0 ≤ w9_126_0 ∧ w9_126_0 ≤ 6 := by rw [← ew9_126_0]; exact ir_126_0 hS.1.2.1
    have ka9_126_0 : rd M9 126 0 = w9_126_0 := ew9_126_0
    refine Tr.sc [(0, r9)] rfl ?_
    refine Tr.if_eq (pc := 12) (tgt := 37) d_X12_stretch_12 rfl (fun c12 => ?_) (fun c12 => ?_)
    · refine Tr.iconst (pc := 37) d_X12_stretch_37 (by decide) ?_
      exact Tr.iret (pc := 38) d_X12_stretch_38 rfl ⟨hS, _, rfl, by omega, by omega⟩
    · refine Tr.iload_n (pc := 15) (i := 2) d_X12_stretch_15 rfl rfl ?_
      refine Tr.if_lt (pc := 16) (tgt := 37) d_X12_stretch_16 rfl (fun c16 => ?_) (fun c16 => ?_)
      · refine Tr.iconst (pc := 37) d_X12_stretch_37 (by decide) ?_
        exact Tr.iret (pc := 38) d_X12_stretch_38 rfl ⟨hS, _, rfl, by omega, by omega⟩
      · refine Tr.iload_n (pc := 19) (i := 3) d_X12_stretch_19 rfl rfl ?_
        refine Tr.iconst (pc := 20) d_X12_stretch_20 (by decide) ?_
        refine Tr.iconst (pc := 21) d_X12_stretch_21 (by decide) ?_
        refine Tr.callS (pc := 22) (as := [_, _, _]) d_X12_stretch_22 s_12_467 ok_X12_is rfl rfl (Nat.le_of_ble_eq_true rfl) (Nat.le_of_ble_eq_true rfl) ?_
        refine Tr.imp (Tr.deep (by decide) (sp_X12_is hS.1 a3 (by omega) 0 (by omega) 2 (by omega))) ?_
        rintro M22 _ ⟨h22, r22, rfl, lr22, ur22, wr22⟩
        have hS := St.tr hS h22 (by decide) (by decide)
        refine Tr.sc [(0, r22)] rfl ?_
        refine Tr.if_eq (pc := 25) (tgt := 37) d_X12_stretch_25 rfl (fun c25 => ?_) (fun c25 => ?_)
        · refine Tr.iconst (pc := 37) d_X12_stretch_37 (by decide) ?_
          exact Tr.iret (pc := 38) d_X12_stretch_38 rfl ⟨hS, _, rfl, by omega, by omega⟩
        · refine Tr.aload_n (pc := 28) (i := 0) d_X12_stretch_28 rfl rfl ?_
          refine Tr.iload_n (pc := 29) (i := 1) d_X12_stretch_29 rfl rfl ?_
          refine Tr.iload_n (pc := 30) (i := 2) d_X12_stretch_30 rfl rfl ?_
          refine Tr.callV (pc := 31) (as := [_, _]) d_X12_stretch_31 s_12_644 ok_X12_finds rfl rfl (Nat.le_of_ble_eq_true rfl) (Nat.le_of_ble_eq_true rfl) (by decide) (ty_120 hS.1.1) ?_
          refine Tr.imp (Tr.deep (by decide) (sp_X12_finds_120 hS.1 a1 (by omega) a2 (by omega))) ?_
          rintro M31 _ ⟨h31, r31, rfl, lr31, ur31, z31_0⟩
          have hS := St.tr hS h31 (by decide) (by decide)
          refine Tr.sc [(0, r31)] rfl ?_
          refine Tr.if_ne (pc := 34) (tgt := 39) d_X12_stretch_34 rfl (fun c34 => ?_) (fun c34 => ?_)
          · refine Tr.iload_n (pc := 39) (i := 3) d_X12_stretch_39 rfl rfl ?_
            refine Tr.if_ne (pc := 40) (tgt := 50) d_X12_stretch_40 rfl (fun c40 => ?_) (fun c40 => ?_)
            · refine Tr.iload_n (pc := 50) (i := 3) d_X12_stretch_50 rfl rfl ?_
              refine Tr.iconst (pc := 51) d_X12_stretch_51 (by decide) ?_
              refine Tr.icmp_ne (pc := 52) (tgt := 62) d_X12_stretch_52 rfl (fun c52 => ?_) (fun c52 => ?_)
              · refine Tr.aload_n (pc := 62) (i := 0) d_X12_stretch_62 rfl rfl ?_
                refine Tr.iload_n (pc := 63) (i := 1) d_X12_stretch_63 rfl rfl ?_
                refine Tr.callV (pc := 64) (as := [_]) d_X12_stretch_64 s_12_647 ok_X12_onIn rfl rfl (Nat.le_of_ble_eq_true rfl) (Nat.le_of_ble_eq_true rfl) (by decide) (ty_120 hS.1.1) ?_
                refine Tr.imp (Tr.deep (by decide) (sp_X12_onIn_120 hS.1 a1 (by omega))) ?_
                rintro M64 _ ⟨h64, r64, rfl, lr64, ur64⟩
                have hS := St.tr hS h64 (by decide) (by decide)
                refine Tr.sc [(0, r64)] rfl ?_
                exact Tr.iret (pc := 67) d_X12_stretch_67 rfl ⟨hS, _, rfl, by omega, by omega⟩
              · refine Tr.aload_n (pc := 55) (i := 0) d_X12_stretch_55 rfl rfl ?_
                refine Tr.getf (pc := 56) d_X12_stretch_56 f_12_309 (by decide) (by decide) (ty_120 hS.1.1) ?_
                refine Tr.gen (P := fun v => 0 ≤ v ∧ v ≤ 2100) (ir_120_98 hS.1.2.1) (fun r56 er56 br56 => ?_)
                refine Tr.goto (pc := 59) (tgt := 67) d_X12_stretch_59 rfl ?_
                exact Tr.iret (pc := 67) d_X12_stretch_67 rfl ⟨hS, _, rfl, by omega, by omega⟩
            · refine Tr.aload_n (pc := 43) (i := 0) d_X12_stretch_43 rfl rfl ?_
              refine Tr.getf (pc := 44) d_X12_stretch_44 f_12_306 (by decide) (by decide) (ty_120 hS.1.1) ?_
              refine Tr.gen (P := fun v => 0 ≤ v ∧ v ≤ 2100) (ir_120_97 hS.1.2.1) (fun r44 er44 br44 => ?_)
              refine Tr.goto (pc := 47) (tgt := 67) d_X12_stretch_47 rfl ?_
              exact Tr.iret (pc := 67) d_X12_stretch_67 rfl ⟨hS, _, rfl, by omega, by omega⟩
          · refine Tr.iconst (pc := 37) d_X12_stretch_37 (by decide) ?_
            exact Tr.iret (pc := 38) d_X12_stretch_38 rfl ⟨hS, _, rfl, by omega, by omega⟩

def ws_X12_lines_120 : List (Int × Int) := [(120, 97), (120, 98), (120, 99)]
def as_X12_lines_120 : List Int := []
def q_X12_lines_120 (M0 M' : Mem) (r : Option PV) : Prop := St Tru ws_X12_lines_120 as_X12_lines_120 M0 M' ∧ ∃ v : Int, r = some (1, v) ∧ (-9223372036854775808) ≤ v ∧ v ≤ 9223372036854775807
set_option maxRecDepth 100000 in
set_option maxHeartbeats 4000000 in
theorem sp_X12_lines_120 {l : Launch} {K : EC} {M0 : Mem} (hI : In Tru M0) (en_120_12 : rd M0 120 12 = 0) (a1 : Int) (ha1 : (-2147483648) ≤ a1 ∧ a1 ≤ 2147483647) (a2 : Int) (ha2 : (-2147483648) ≤ a2 ∧ a2 ≤ 2147483647)  : Tr l K 2 mX12_lines 0 [(0, (2, 120)), (1, (0, a1)), (2, (0, a2))] [] M0 (q_X12_lines_120 M0) := by
  have hS : St Tru ws_X12_lines_120 as_X12_lines_120 M0 M0 := St.rf hI
  refine Tr.aload_n (pc := 0) (i := 0) d_X12_lines_0 rfl rfl ?_
  refine Tr.getz (pc := 1) d_X12_lines_1 f_12_270 (by decide) (ty_120 hS.1.1) ?_
  refine Tr.gen (P := fun v => 0 ≤ v ∧ v ≤ 1) (ir_120_85 hS.1.2.1) (fun r1 er1 br1 => ?_)
  refine Tr.if_eq (pc := 4) (tgt := 28) d_X12_lines_4 rfl (fun c4 => ?_) (fun c4 => ?_)
  · refine Tr.lconst (pc := 28) (v := 0) d_X12_lines_28 rfl (by decide) ?_
    refine Tr.goto (pc := 29) (tgt := 37) d_X12_lines_29 rfl ?_
    exact Tr.lret (pc := 37) d_X12_lines_37 rfl ⟨hS, _, rfl, by omega, by omega⟩
  · refine Tr.aload_n (pc := 7) (i := 0) d_X12_lines_7 rfl rfl ?_
    refine Tr.iload_n (pc := 8) (i := 1) d_X12_lines_8 rfl rfl ?_
    refine Tr.callV (pc := 9) (as := [_]) d_X12_lines_9 s_12_555 ok_X12_isPart rfl rfl (Nat.le_of_ble_eq_true rfl) (Nat.le_of_ble_eq_true rfl) (by decide) (ty_120 hS.1.1) ?_
    refine Tr.imp (Tr.deep (by decide) (sp_X12_isPart_120 hS.1 ((St.kp hS (by decide) (by decide) (by decide)).trans en_120_12) a1 (by omega))) ?_
    rintro M9 _ ⟨h9, r9, rfl, lr9, ur9, z9_0⟩
    have hS := St.tr hS h9 (by decide) (by decide)
    obtain ⟨w9_126_0, ew9_126_0⟩ : ∃ v, rd M9 126 0 = v := ⟨_, rfl⟩
    have bw9_126_0 : 0 ≤ w9_126_0 ∧ w9_126_0 ≤ 6 := by rw [← ew9_126_0]; exact ir_126_0 hS.1.2.1
    have ka9_126_0 : rd M9 126 0 = w9_126_0 := ew9_126_0
    refine Tr.sc [(0, r9)] rfl ?_
    refine Tr.if_eq (pc := 12) (tgt := 28) d_X12_lines_12 rfl (fun c12 => ?_) (fun c12 => ?_)
    · refine Tr.lconst (pc := 28) (v := 0) d_X12_lines_28 rfl (by decide) ?_
      refine Tr.goto (pc := 29) (tgt := 37) d_X12_lines_29 rfl ?_
      exact Tr.lret (pc := 37) d_X12_lines_37 rfl ⟨hS, _, rfl, by omega, by omega⟩
    · refine Tr.iload_n (pc := 15) (i := 2) d_X12_lines_15 rfl rfl ?_
      refine Tr.if_lt (pc := 16) (tgt := 28) d_X12_lines_16 rfl (fun c16 => ?_) (fun c16 => ?_)
      · refine Tr.lconst (pc := 28) (v := 0) d_X12_lines_28 rfl (by decide) ?_
        refine Tr.goto (pc := 29) (tgt := 37) d_X12_lines_29 rfl ?_
        exact Tr.lret (pc := 37) d_X12_lines_37 rfl ⟨hS, _, rfl, by omega, by omega⟩
      · refine Tr.aload_n (pc := 19) (i := 0) d_X12_lines_19 rfl rfl ?_
        refine Tr.iload_n (pc := 20) (i := 1) d_X12_lines_20 rfl rfl ?_
        refine Tr.iload_n (pc := 21) (i := 2) d_X12_lines_21 rfl rfl ?_
        refine Tr.callV (pc := 22) (as := [_, _]) d_X12_lines_22 s_12_644 ok_X12_finds rfl rfl (Nat.le_of_ble_eq_true rfl) (Nat.le_of_ble_eq_true rfl) (by decide) (ty_120 hS.1.1) ?_
        refine Tr.imp (Tr.deep (by decide) (sp_X12_finds_120 hS.1 a1 (by omega) a2 (by omega))) ?_
        rintro M22 _ ⟨h22, r22, rfl, lr22, ur22, z22_0⟩
        have hS := St.tr hS h22 (by decide) (by decide)
        refine Tr.sc [(0, r22)] rfl ?_
        refine Tr.if_ne (pc := 25) (tgt := 32) d_X12_lines_25 rfl (fun c25 => ?_) (fun c25 => ?_)
        · refine Tr.aload_n (pc := 32) (i := 0) d_X12_lines_32 rfl rfl ?_
          refine Tr.iload_n (pc := 33) (i := 1) d_X12_lines_33 rfl rfl ?_
          refine Tr.callV (pc := 34) (as := [_]) d_X12_lines_34 s_12_650 ok_X12_linesIn rfl rfl (Nat.le_of_ble_eq_true rfl) (Nat.le_of_ble_eq_true rfl) (by decide) (ty_120 hS.1.1) ?_
          refine Tr.imp (Tr.deep (by decide) (sp_X12_linesIn_120 hS.1 a1 (by omega))) ?_
          rintro M34 _ ⟨h34, r34, rfl, lr34, ur34⟩
          have hS := St.tr hS h34 (by decide) (by decide)
          refine Tr.sc [(1, r34)] rfl ?_
          exact Tr.lret (pc := 37) d_X12_lines_37 rfl ⟨hS, _, rfl, by omega, by omega⟩
        · refine Tr.lconst (pc := 28) (v := 0) d_X12_lines_28 rfl (by decide) ?_
          refine Tr.goto (pc := 29) (tgt := 37) d_X12_lines_29 rfl ?_
          exact Tr.lret (pc := 37) d_X12_lines_37 rfl ⟨hS, _, rfl, by omega, by omega⟩

def ws_X12_tails_120 : List (Int × Int) := []
def as_X12_tails_120 : List Int := []
def q_X12_tails_120 (a1 : Int) (M0 M' : Mem) (r : Option PV) : Prop := St Tru ws_X12_tails_120 as_X12_tails_120 M0 M' ∧ ∃ v : Int, r = some (0, v) ∧ (-2147483648) ≤ v ∧ v ≤ 2147483647 ∧ (rd M' 126 0 ≤ a1 ∨ v ≤ 50)
set_option maxRecDepth 100000 in
set_option maxHeartbeats 4000000 in
theorem sp_X12_tails_120 {l : Launch} {K : EC} {M0 : Mem} (hI : In Tru M0) (en_120_12 : rd M0 120 12 = 0) (a1 : Int) (ha1 : 0 ≤ a1 ∧ a1 ≤ 5)  (hF_Bk0 : Bk0 M0) : Tr l K 1 mX12_tails 0 [(0, (2, 120)), (1, (0, a1))] [] M0 (q_X12_tails_120 a1 M0) := by
  have hS : St Tru ws_X12_tails_120 as_X12_tails_120 M0 M0 := St.rf hI
  obtain ⟨g126_0, eg126_0⟩ : ∃ v, rd M0 126 0 = v := ⟨_, rfl⟩
  have bg126_0 : 0 ≤ g126_0 ∧ g126_0 ≤ 6 := by rw [← eg126_0]; exact ir_126_0 hI.2.1
  refine Tr.aload_n (pc := 0) (i := 0) d_X12_tails_0 rfl rfl ?_
  refine Tr.iload_n (pc := 1) (i := 1) d_X12_tails_1 rfl rfl ?_
  refine Tr.iconst (pc := 2) d_X12_tails_2 (by decide) ?_
  refine Tr.callV (pc := 3) (as := [_, _]) d_X12_tails_3 s_12_565 ok_X12_rate rfl rfl (Nat.le_of_ble_eq_true rfl) (Nat.le_of_ble_eq_true rfl) (by decide) (ty_120 hS.1.1) ?_
  refine Tr.imp (Tr.deep (by decide) (sp_X12_rate_120 hS.1 ((St.kp hS (by decide) (by decide) (by decide)).trans en_120_12) a1 (by omega) 5 (by omega) (Bk0.of hF_Bk0 (fun j => (St.ka hS (by decide) (by decide) (by decide))) (fun j => (St.ka hS (by decide) (by decide) (by decide))) (fun j => (St.ka hS (by decide) (by decide) (by decide))) (fun j => (St.ka hS (by decide) (by decide) (by decide))) (fun j => (St.ka hS (by decide) (by decide) (by decide))) (fun j => (St.ka hS (by decide) (by decide) (by decide))) (fun j => (St.ka hS (by decide) (by decide) (by decide))) (fun j => (St.ka hS (by decide) (by decide) (by decide))) (St.kp hS (by decide) (by decide) (by decide)) (St.kp hS (by decide) (by decide) (by decide)) (St.kp hS (by decide) (by decide) (by decide)) (St.kp hS (by decide) (by decide) (by decide))))) ?_
  rintro M3 _ ⟨h3, r3, rfl, lr3, ur3, z3_0⟩
  have hS := St.tr hS h3 (by decide) (by decide)
  have ka3_126_0 : rd M3 126 0 = g126_0 := ((St.kp h3 (by decide) (by decide) (by decide)).trans eg126_0)
  refine Tr.sc [(0, r3)] rfl ?_
  have kr_126_0 : rd M3 126 0 = g126_0 := ((St.kp h3 (by decide) (by decide) (by decide)).trans eg126_0)
  exact Tr.iret (pc := 6) d_X12_tails_6 rfl ⟨hS, _, rfl, by omega, by omega, by omega⟩

def ws_X12_wasted_120 : List (Int × Int) := [(120, 97), (120, 98), (120, 99)]
def as_X12_wasted_120 : List Int := []
def q_X12_wasted_120 (M0 M' : Mem) (r : Option PV) : Prop := St Tru ws_X12_wasted_120 as_X12_wasted_120 M0 M' ∧ ∃ v : Int, r = some (0, v) ∧ (-2147483648) ≤ v ∧ v ≤ 2147483647
set_option maxRecDepth 100000 in
set_option maxHeartbeats 4000000 in
theorem sp_X12_wasted_120 {l : Launch} {K : EC} {M0 : Mem} (hI : In Tru M0) (en_120_12 : rd M0 120 12 = 0) (a1 : Int) (ha1 : (-2147483648) ≤ a1 ∧ a1 ≤ 2147483647)  (hF_Bk0 : Bk0 M0) : Tr l K 2 mX12_wasted 0 [(0, (2, 120)), (1, (0, a1))] [] M0 (q_X12_wasted_120 M0) := by
  have hS : St Tru ws_X12_wasted_120 as_X12_wasted_120 M0 M0 := St.rf hI
  refine Tr.aload_n (pc := 0) (i := 0) d_X12_wasted_0 rfl rfl ?_
  refine Tr.getz (pc := 1) d_X12_wasted_1 f_12_270 (by decide) (ty_120 hS.1.1) ?_
  refine Tr.gen (P := fun v => 0 ≤ v ∧ v ≤ 1) (ir_120_85 hS.1.2.1) (fun r1 er1 br1 => ?_)
  refine Tr.if_eq (pc := 4) (tgt := 15) d_X12_wasted_4 rfl (fun c4 => ?_) (fun c4 => ?_)
  · refine Tr.iconst (pc := 15) d_X12_wasted_15 (by decide) ?_
    exact Tr.iret (pc := 16) d_X12_wasted_16 rfl ⟨hS, _, rfl, by omega, by omega⟩
  · refine Tr.aload_n (pc := 7) (i := 0) d_X12_wasted_7 rfl rfl ?_
    refine Tr.iload_n (pc := 8) (i := 1) d_X12_wasted_8 rfl rfl ?_
    refine Tr.callV (pc := 9) (as := [_]) d_X12_wasted_9 s_12_656 ok_X12_isLine rfl rfl (Nat.le_of_ble_eq_true rfl) (Nat.le_of_ble_eq_true rfl) (by decide) (ty_120 hS.1.1) ?_
    refine Tr.imp (Tr.deep (by decide) (sp_X12_isLine_120 hS.1 ((St.kp hS (by decide) (by decide) (by decide)).trans en_120_12) a1 (by omega))) ?_
    rintro M9 _ ⟨h9, r9, rfl, lr9, ur9, z9_0⟩
    have hS := St.tr hS h9 (by decide) (by decide)
    obtain ⟨w9_129_0, ew9_129_0⟩ : ∃ v, rd M9 129 0 = v := ⟨_, rfl⟩
    have bw9_129_0 : 0 ≤ w9_129_0 ∧ w9_129_0 ≤ 60 := by rw [← ew9_129_0]; exact ir_129_0 hS.1.2.1
    have ka9_129_0 : rd M9 129 0 = w9_129_0 := ew9_129_0
    refine Tr.sc [(0, r9)] rfl ?_
    refine Tr.if_ne (pc := 12) (tgt := 17) d_X12_wasted_12 rfl (fun c12 => ?_) (fun c12 => ?_)
    · refine Tr.iconst (pc := 17) d_X12_wasted_17 (by decide) ?_
      refine Tr.istore_n (pc := 18) (i := 2) (ls2 := [(2, (0, 0)), (0, (2, 120)), (1, (0, a1))]) d_X12_wasted_18 rfl (by decide) rfl ?_
      refine Tr.iconst (pc := 19) d_X12_wasted_19 (by decide) ?_
      refine Tr.istore_n (pc := 20) (i := 3) (ls2 := [(3, (0, 0)), (2, (0, 0)), (0, (2, 120)), (1, (0, a1))]) d_X12_wasted_20 rfl (by decide) rfl ?_
      have J21 : ∀ (n21 : Nat) (M : Mem) (p21_2 p21_3 : Int), St Tru ws_X12_wasted_120 as_X12_wasted_120 M0 M → ((-2147483648) ≤ p21_2 ∧ p21_2 ≤ 2147483647) → (0 ≤ p21_3 ∧ p21_3 ≤ 6) → rd M 120 85 = r1 → rd M 129 0 = w9_129_0 → (6 - p21_3).toNat < n21 → Tr l K 2 mX12_wasted 21 [(0, (2, 120)), (1, (0, a1)), (2, (0, p21_2)), (3, (0, p21_3))] [] M (q_X12_wasted_120 M0) := by
        intro n21
        induction n21 with
        | zero => intro M p21_2 p21_3 hS bp21_2 bp21_3 k21_120_85 k21_129_0 hm21; exact absurd hm21 (Nat.not_lt_zero _)
        | succ n21 J21 =>
          intro M p21_2 p21_3 hS bp21_2 bp21_3 k21_120_85 k21_129_0 hm21
          refine Tr.iload_n (pc := 21) (i := 3) d_X12_wasted_21 rfl rfl ?_
          refine Tr.aload_n (pc := 22) (i := 0) d_X12_wasted_22 rfl rfl ?_
          refine Tr.getf (pc := 23) d_X12_wasted_23 f_12_63 (by decide) (by decide) (ty_120 hS.1.1) ?_
          refine Tr.tp 126 (fx_120_17 hS.1.1) ?_
          refine Tr.aload_n (pc := 26) (i := 0) d_X12_wasted_26 rfl rfl ?_
          refine Tr.getf (pc := 27) d_X12_wasted_27 f_12_48 (by decide) (by decide) (ty_120 hS.1.1) ?_
          refine Tr.tp 0 ((St.kp hS (by decide) (by decide) (by decide)).trans en_120_12) ?_
          refine Tr.iald (pc := 30) d_X12_wasted_30 (ty_126 hS.1.1) (by omega) (by omega) ?_
          refine Tr.gen (P := fun v => 0 ≤ v ∧ v ≤ 6) (ir_126_0 hS.1.2.1) (fun r30 er30 br30 => ?_)
          refine Tr.icmp_ge (pc := 31) (tgt := 236) d_X12_wasted_31 rfl (fun c31 => ?_) (fun c31 => ?_)
          · refine Tr.iload_n (pc := 236) (i := 2) d_X12_wasted_236 rfl rfl ?_
            exact Tr.iret (pc := 237) d_X12_wasted_237 rfl ⟨hS, _, rfl, by omega, by omega⟩
          · refine Tr.iconst (pc := 34) d_X12_wasted_34 (by decide) ?_
            refine Tr.istore (pc := 35) (i := 4) (ls2 := [(4, (0, 1)), (0, (2, 120)), (1, (0, a1)), (2, (0, p21_2)), (3, (0, p21_3))]) d_X12_wasted_35 (by decide) rfl ?_
            refine Tr.iconst (pc := 37) d_X12_wasted_37 (by decide) ?_
            refine Tr.istore (pc := 38) (i := 5) (ls2 := [(5, (0, 0)), (4, (0, 1)), (0, (2, 120)), (1, (0, a1)), (2, (0, p21_2)), (3, (0, p21_3))]) d_X12_wasted_38 (by decide) rfl ?_
            have J40 : ∀ (n40 : Nat) (M : Mem) (p40_2 p40_4 p40_5 : Int), St Tru ws_X12_wasted_120 as_X12_wasted_120 M0 M → ((-2147483648) ≤ p40_2 ∧ p40_2 ≤ 2147483647) → (0 ≤ p40_4 ∧ p40_4 ≤ 1) → (0 ≤ p40_5 ∧ p40_5 ≤ 2147483647) → rd M 120 85 = r1 → rd M 126 0 = r30 → rd M 129 0 = w9_129_0 → (p40_5 ≤ 2102 ∧ (p40_4 = 0 ∨ p40_5 ≤ 2101)) → (2300 - p40_5).toNat < n40 → Tr l K 2 mX12_wasted 40 [(0, (2, 120)), (1, (0, a1)), (2, (0, p40_2)), (3, (0, p21_3)), (4, (0, p40_4)), (5, (0, p40_5))] [] M (q_X12_wasted_120 M0) := by
              intro n40
              induction n40 with
              | zero => intro M p40_2 p40_4 p40_5 hS bp40_2 bp40_4 bp40_5 k40_120_85 k40_126_0 k40_129_0 t40_0 hm40; exact absurd hm40 (Nat.not_lt_zero _)
              | succ n40 J40 =>
                intro M p40_2 p40_4 p40_5 hS bp40_2 bp40_4 bp40_5 k40_120_85 k40_126_0 k40_129_0 t40_0 hm40
                refine Tr.iload (pc := 40) (i := 4) d_X12_wasted_40 rfl ?_
                refine Tr.if_eq (pc := 42) (tgt := 230) d_X12_wasted_42 rfl (fun c42 => ?_) (fun c42 => ?_)
                · refine Tr.iincV (pc := 230) (n2 := (p21_3 + 1)) (ls2 := [(3, (0, (p21_3 + 1))), (0, (2, 120)), (1, (0, a1)), (2, (0, p40_2)), (4, (0, p40_4)), (5, (0, p40_5))]) d_X12_wasted_230 rfl (by decide) ((w32_id (by omega)).trans (by omega)) rfl ?_
                  refine Tr.goto (pc := 233) (tgt := 21) d_X12_wasted_233 rfl ?_
                  refine Tr.pick [1, 2, 3, 0] (ls2 := [(0, (2, 120)), (1, (0, a1)), (2, (0, p40_2)), (3, (0, (p21_3 + 1)))]) rfl ?_
                  exact J21 _ _ _ hS (by omega) (by omega) k40_120_85 k40_129_0 (by omega)
                · refine Tr.aload_n (pc := 45) (i := 0) d_X12_wasted_45 rfl rfl ?_
                  refine Tr.iload_n (pc := 46) (i := 3) d_X12_wasted_46 rfl rfl ?_
                  refine Tr.iload (pc := 47) (i := 5) d_X12_wasted_47 rfl ?_
                  refine Tr.callV (pc := 49) (as := [_, _]) d_X12_wasted_49 s_12_644 ok_X12_finds rfl rfl (Nat.le_of_ble_eq_true rfl) (Nat.le_of_ble_eq_true rfl) (by decide) (ty_120 hS.1.1) ?_
                  refine Tr.imp (Tr.deep (by decide) (sp_X12_finds_120 hS.1 p21_3 (by omega) p40_5 (by omega))) ?_
                  rintro M49 _ ⟨h49, r49, rfl, lr49, ur49, z49_0⟩
                  have hS := St.tr hS h49 (by decide) (by decide)
                  refine Tr.sc [(0, r49)] rfl ?_
                  refine Tr.istore (pc := 52) (i := 4) (ls2 := [(4, (0, r49)), (0, (2, 120)), (1, (0, a1)), (2, (0, p40_2)), (3, (0, p21_3)), (5, (0, p40_5))]) d_X12_wasted_52 (by decide) rfl ?_
                  refine Tr.iload (pc := 54) (i := 4) d_X12_wasted_54 rfl ?_
                  have J224 : ∀ (M : Mem) (p224_2 : Int), St Tru ws_X12_wasted_120 as_X12_wasted_120 M0 M → ((-2147483648) ≤ p224_2 ∧ p224_2 ≤ 2147483647) → rd M 120 85 = r1 → rd M 126 0 = r30 → rd M 129 0 = w9_129_0 → (p40_5 ≤ 2101 ∧ (r49 = 0 ∨ p40_5 ≤ 2100)) → Tr l K 2 mX12_wasted 224 [(0, (2, 120)), (1, (0, a1)), (2, (0, p224_2)), (3, (0, p21_3)), (4, (0, r49)), (5, (0, p40_5))] [] M (q_X12_wasted_120 M0) := by
                    intro M p224_2 hS bp224_2 k224_120_85 k224_126_0 k224_129_0 t224_0
                    refine Tr.iincV (pc := 224) (n2 := (p40_5 + 1)) (ls2 := [(5, (0, (p40_5 + 1))), (0, (2, 120)), (1, (0, a1)), (2, (0, p224_2)), (3, (0, p21_3)), (4, (0, r49))]) d_X12_wasted_224 rfl (by decide) ((w32_id (by omega)).trans (by omega)) rfl ?_
                    refine Tr.goto (pc := 227) (tgt := 40) d_X12_wasted_227 rfl ?_
                    refine Tr.pick [1, 2, 3, 4, 5, 0] (ls2 := [(0, (2, 120)), (1, (0, a1)), (2, (0, p224_2)), (3, (0, p21_3)), (4, (0, r49)), (5, (0, (p40_5 + 1)))]) rfl ?_
                    exact J40 _ _ _ _ hS (by omega) (by omega) (by omega) k224_120_85 k224_126_0 k224_129_0 (by first | assumption | omega) (by omega)
                  refine Tr.if_eq (pc := 56) (tgt := 224) d_X12_wasted_56 rfl (fun c56 => ?_) (fun c56 => ?_)
                  · refine Tr.pick [1, 2, 3, 4, 0, 5] (ls2 := [(0, (2, 120)), (1, (0, a1)), (2, (0, p40_2)), (3, (0, p21_3)), (4, (0, r49)), (5, (0, p40_5))]) rfl ?_
                    exact J224 _ _ hS (by omega) ((St.kp h49 (by decide) (by decide) (by decide)).trans k40_120_85) ((St.kp h49 (by decide) (by decide) (by decide)).trans k40_126_0) ((St.kp h49 (by decide) (by decide) (by decide)).trans k40_129_0) (by first | assumption | omega)
                  · refine Tr.aload_n (pc := 59) (i := 0) d_X12_wasted_59 rfl rfl ?_
                    refine Tr.getf (pc := 60) d_X12_wasted_60 f_12_309 (by decide) (by decide) (ty_120 hS.1.1) ?_
                    refine Tr.gen (P := fun v => 0 ≤ v ∧ v ≤ 2100) (ir_120_98 hS.1.2.1) (fun r60 er60 br60 => ?_)
                    refine Tr.aload_n (pc := 63) (i := 0) d_X12_wasted_63 rfl rfl ?_
                    refine Tr.getf (pc := 64) d_X12_wasted_64 f_12_273 (by decide) (by decide) (ty_120 hS.1.1) ?_
                    refine Tr.gen (P := fun v => 0 ≤ v ∧ v ≤ 2060) (ir_120_86 hS.1.2.1) (fun r64 er64 br64 => ?_)
                    have J82 : ∀ (M : Mem), St Tru ws_X12_wasted_120 as_X12_wasted_120 M0 M → rd M 120 85 = r1 → rd M 120 86 = r64 → rd M 120 98 = r60 → rd M 126 0 = r30 → rd M 129 0 = w9_129_0 → Tr l K 2 mX12_wasted 82 [(0, (2, 120)), (1, (0, a1)), (2, (0, p40_2)), (3, (0, p21_3)), (4, (0, r49)), (5, (0, p40_5))] [] M (q_X12_wasted_120 M0) := by
                      intro M  hS  k82_120_85 k82_120_86 k82_120_98 k82_126_0 k82_129_0
                      refine Tr.iconst (pc := 82) d_X12_wasted_82 (by decide) ?_
                      refine Tr.istore (pc := 83) (i := 6) (ls2 := [(6, (0, (-1))), (0, (2, 120)), (1, (0, a1)), (2, (0, p40_2)), (3, (0, p21_3)), (4, (0, r49)), (5, (0, p40_5))]) d_X12_wasted_83 (by decide) rfl ?_
                      refine Tr.iconst (pc := 85) d_X12_wasted_85 (by decide) ?_
                      refine Tr.istore (pc := 86) (i := 7) (ls2 := [(7, (0, 0)), (6, (0, (-1))), (0, (2, 120)), (1, (0, a1)), (2, (0, p40_2)), (3, (0, p21_3)), (4, (0, r49)), (5, (0, p40_5))]) d_X12_wasted_86 (by decide) rfl ?_
                      have J88 : ∀ (n88 : Nat) (M : Mem) (p88_6 p88_7 : Int), St Tru ws_X12_wasted_120 as_X12_wasted_120 M0 M → ((-1) ≤ p88_6 ∧ p88_6 ≤ 59) → (0 ≤ p88_7 ∧ p88_7 ≤ 2100) → rd M 120 85 = r1 → rd M 120 86 = r64 → rd M 120 98 = r60 → rd M 126 0 = r30 → rd M 129 0 = w9_129_0 → (2100 - p88_7).toNat < n88 → Tr l K 2 mX12_wasted 88 [(0, (2, 120)), (1, (0, a1)), (2, (0, p40_2)), (3, (0, p21_3)), (4, (0, r49)), (5, (0, p40_5)), (6, (0, p88_6)), (7, (0, p88_7))] [] M (q_X12_wasted_120 M0) := by
                        intro n88
                        induction n88 with
                        | zero => intro M p88_6 p88_7 hS bp88_6 bp88_7 k88_120_85 k88_120_86 k88_120_98 k88_126_0 k88_129_0 hm88; exact absurd hm88 (Nat.not_lt_zero _)
                        | succ n88 J88 =>
                          intro M p88_6 p88_7 hS bp88_6 bp88_7 k88_120_85 k88_120_86 k88_120_98 k88_126_0 k88_129_0 hm88
                          refine Tr.iload (pc := 88) (i := 7) d_X12_wasted_88 rfl ?_
                          refine Tr.aload_n (pc := 90) (i := 0) d_X12_wasted_90 rfl rfl ?_
                          refine Tr.getf (pc := 91) d_X12_wasted_91 f_12_300 (by decide) (by decide) (ty_120 hS.1.1) ?_
                          refine Tr.gen (P := fun v => 0 ≤ v ∧ v ≤ 2100) (ir_120_95 hS.1.2.1) (fun r91 er91 br91 => ?_)
                          refine Tr.icmp_ge (pc := 94) (tgt := 153) d_X12_wasted_94 rfl (fun c94 => ?_) (fun c94 => ?_)
                          · refine Tr.iload (pc := 153) (i := 6) d_X12_wasted_153 rfl ?_
                            refine Tr.iload_n (pc := 155) (i := 1) d_X12_wasted_155 rfl rfl ?_
                            refine Tr.icmp_eq (pc := 156) (tgt := 162) d_X12_wasted_156 rfl (fun c156 => ?_) (fun c156 => ?_)
                            · refine Tr.aload_n (pc := 162) (i := 0) d_X12_wasted_162 rfl rfl ?_
                              refine Tr.getf (pc := 163) d_X12_wasted_163 f_12_309 (by decide) (by decide) (ty_120 hS.1.1) ?_
                              refine Tr.tp r60 k88_120_98 ?_
                              refine Tr.iconst (pc := 166) d_X12_wasted_166 (by decide) ?_
                              refine Tr.isub (pc := 167) d_X12_wasted_167 ?_
                              refine Tr.tp (r60 - 1) ((w32_id (by omega)).trans (by omega)) ?_
                              refine Tr.istore (pc := 168) (i := 7) (ls2 := [(7, (0, (r60 - 1))), (0, (2, 120)), (1, (0, a1)), (2, (0, p40_2)), (3, (0, p21_3)), (4, (0, r49)), (5, (0, p40_5)), (6, (0, p88_6))]) d_X12_wasted_168 (by decide) rfl ?_
                              have J170 : ∀ (n170 : Nat) (M : Mem) (p170_2 p170_7 : Int), St Tru ws_X12_wasted_120 as_X12_wasted_120 M0 M → ((-2147483648) ≤ p170_2 ∧ p170_2 ≤ 2147483647) → ((-1) ≤ p170_7 ∧ p170_7 ≤ 2099) → rd M 120 85 = r1 → rd M 120 86 = r64 → rd M 120 95 = r91 → rd M 120 98 = r60 → rd M 126 0 = r30 → rd M 129 0 = w9_129_0 → (p170_7 - (-1)).toNat < n170 → Tr l K 2 mX12_wasted 170 [(0, (2, 120)), (1, (0, a1)), (2, (0, p170_2)), (3, (0, p21_3)), (4, (0, r49)), (5, (0, p40_5)), (7, (0, p170_7))] [] M (q_X12_wasted_120 M0) := by
                                intro n170
                                induction n170 with
                                | zero => intro M p170_2 p170_7 hS bp170_2 bp170_7 k170_120_85 k170_120_86 k170_120_95 k170_120_98 k170_126_0 k170_129_0 hm170; exact absurd hm170 (Nat.not_lt_zero _)
                                | succ n170 J170 =>
                                  intro M p170_2 p170_7 hS bp170_2 bp170_7 k170_120_85 k170_120_86 k170_120_95 k170_120_98 k170_126_0 k170_129_0 hm170
                                  refine Tr.iload (pc := 170) (i := 7) d_X12_wasted_170 rfl ?_
                                  refine Tr.aload_n (pc := 172) (i := 0) d_X12_wasted_172 rfl rfl ?_
                                  refine Tr.getf (pc := 173) d_X12_wasted_173 f_12_306 (by decide) (by decide) (ty_120 hS.1.1) ?_
                                  refine Tr.gen (P := fun v => 0 ≤ v ∧ v ≤ 2100) (ir_120_97 hS.1.2.1) (fun r173 er173 br173 => ?_)
                                  refine Tr.icmp_lt (pc := 176) (tgt := 224) d_X12_wasted_176 rfl (fun c176 => ?_) (fun c176 => ?_)
                                  · refine Tr.pick [0, 1, 2, 3, 4, 5] (ls2 := [(0, (2, 120)), (1, (0, a1)), (2, (0, p170_2)), (3, (0, p21_3)), (4, (0, r49)), (5, (0, p40_5))]) rfl ?_
                                    exact J224 _ _ hS (by omega) k170_120_85 k170_126_0 k170_129_0 (by first | assumption | omega)
                                  · refine Tr.iload (pc := 179) (i := 7) d_X12_wasted_179 rfl ?_
                                    refine Tr.aload_n (pc := 181) (i := 0) d_X12_wasted_181 rfl rfl ?_
                                    refine Tr.getf (pc := 182) d_X12_wasted_182 f_12_309 (by decide) (by decide) (ty_120 hS.1.1) ?_
                                    refine Tr.tp r60 k170_120_98 ?_
                                    refine Tr.aload_n (pc := 185) (i := 0) d_X12_wasted_185 rfl rfl ?_
                                    refine Tr.iload_n (pc := 186) (i := 3) d_X12_wasted_186 rfl rfl ?_
                                    refine Tr.callV (pc := 187) (as := [_]) d_X12_wasted_187 s_12_591 ok_X12_tails rfl rfl (Nat.le_of_ble_eq_true rfl) (Nat.le_of_ble_eq_true rfl) (by decide) (ty_120 hS.1.1) ?_
                                    refine Tr.imp (Tr.deep (by decide) (sp_X12_tails_120 hS.1 ((St.kp hS (by decide) (by decide) (by decide)).trans en_120_12) p21_3 (by omega) (Bk0.of hF_Bk0 (fun j => (St.ka hS (by decide) (by decide) (by decide))) (fun j => (St.ka hS (by decide) (by decide) (by decide))) (fun j => (St.ka hS (by decide) (by decide) (by decide))) (fun j => (St.ka hS (by decide) (by decide) (by decide))) (fun j => (St.ka hS (by decide) (by decide) (by decide))) (fun j => (St.ka hS (by decide) (by decide) (by decide))) (fun j => (St.ka hS (by decide) (by decide) (by decide))) (fun j => (St.ka hS (by decide) (by decide) (by decide))) (St.kp hS (by decide) (by decide) (by decide)) (St.kp hS (by decide) (by decide) (by decide)) (St.kp hS (by decide) (by decide) (by decide)) (St.kp hS (by decide) (by decide) (by decide))))) ?_
                                    rintro M187 _ ⟨h187, r187, rfl, lr187, ur187, z187_0⟩
                                    have hS := St.tr hS h187 (by decide) (by decide)
                                    have ka187_126_0 : rd M187 126 0 = r30 := ((St.kp h187 (by decide) (by decide) (by decide)).trans k170_126_0)
                                    refine Tr.sc [(0, r187), (0, r60), (0, p170_7)] rfl ?_
                                    refine Tr.isub (pc := 190) d_X12_wasted_190 ?_
                                    refine Tr.gen (P := fun v => (-2147483648) ≤ v ∧ v ≤ 2147483647) (w32_b _) (fun r190 er190 br190 => ?_)
                                    refine Tr.icmp_lt (pc := 191) (tgt := 224) d_X12_wasted_191 rfl (fun c191 => ?_) (fun c191 => ?_)
                                    · refine Tr.pick [0, 1, 2, 3, 4, 5] (ls2 := [(0, (2, 120)), (1, (0, a1)), (2, (0, p170_2)), (3, (0, p21_3)), (4, (0, r49)), (5, (0, p40_5))]) rfl ?_
                                      exact J224 _ _ hS (by omega) ((St.kp h187 (by decide) (by decide) (by decide)).trans k170_120_85) ((St.kp h187 (by decide) (by decide) (by decide)).trans k170_126_0) ((St.kp h187 (by decide) (by decide) (by decide)).trans k170_129_0) (by first | assumption | omega)
                                    · refine Tr.iload_n (pc := 194) (i := 2) d_X12_wasted_194 rfl rfl ?_
                                      refine Tr.aload_n (pc := 195) (i := 0) d_X12_wasted_195 rfl rfl ?_
                                      refine Tr.iload_n (pc := 196) (i := 3) d_X12_wasted_196 rfl rfl ?_
                                      refine Tr.iload (pc := 197) (i := 7) d_X12_wasted_197 rfl ?_
                                      refine Tr.callV (pc := 199) (as := [_, _]) d_X12_wasted_199 s_12_641 ok_X12_stateAt rfl rfl (Nat.le_of_ble_eq_true rfl) (Nat.le_of_ble_eq_true rfl) (by decide) (ty_120 hS.1.1) ?_
                                      refine Tr.imp (Tr.deep (by decide) (sp_X12_stateAt_120 hS.1 p21_3 (by omega) p170_7 (by omega))) ?_
                                      rintro M199 _ ⟨h199, r199, rfl, lr199, ur199, z199_0⟩
                                      have hS := St.tr hS h199 (by decide) (by decide)
                                      refine Tr.sc [(0, r199), (0, p170_2)] rfl ?_
                                      have qs199 : rd M187 163 (p170_7 + 2100 * p21_3) = r199 := (congrArg (rd M187 163) (by omega)).trans z199_0.symm
                                      refine Tr.iconst (pc := 202) d_X12_wasted_202 (by decide) ?_
                                      have J216 : ∀ (M : Mem) (q216_1 : Int), St Tru ws_X12_wasted_120 as_X12_wasted_120 M0 M → ((-2147483648) ≤ q216_1 ∧ q216_1 ≤ 2147483647) → rd M 120 85 = r1 → rd M 120 86 = r64 → rd M 120 95 = r91 → rd M 120 97 = r173 → rd M 120 98 = r60 → rd M 126 0 = r30 → rd M 129 0 = w9_129_0 → rd M 163 (p170_7 + 2100 * p21_3) = r199 → Tr l K 2 mX12_wasted 216 [(0, (2, 120)), (1, (0, a1)), (3, (0, p21_3)), (4, (0, r49)), (5, (0, p40_5)), (7, (0, p170_7))] [(0, q216_1), (0, p170_2)] M (q_X12_wasted_120 M0) := by
                                        intro M q216_1 hS bq216_1 k216_120_85 k216_120_86 k216_120_95 k216_120_97 k216_120_98 k216_126_0 k216_129_0 k216_163_p170_71p21_321000
                                        refine Tr.iadd (pc := 216) d_X12_wasted_216 ?_
                                        refine Tr.gen (P := fun v => (-2147483648) ≤ v ∧ v ≤ 2147483647) (w32_b _) (fun r216 er216 br216 => ?_)
                                        refine Tr.istore_n (pc := 217) (i := 2) (ls2 := [(2, (0, r216)), (0, (2, 120)), (1, (0, a1)), (3, (0, p21_3)), (4, (0, r49)), (5, (0, p40_5)), (7, (0, p170_7))]) d_X12_wasted_217 rfl (by decide) rfl ?_
                                        refine Tr.iincV (pc := 218) (n2 := (p170_7 - 1)) (ls2 := [(7, (0, (p170_7 - 1))), (2, (0, r216)), (0, (2, 120)), (1, (0, a1)), (3, (0, p21_3)), (4, (0, r49)), (5, (0, p40_5))]) d_X12_wasted_218 rfl (by decide) ((w32_id (by omega)).trans (by omega)) rfl ?_
                                        refine Tr.goto (pc := 221) (tgt := 170) d_X12_wasted_221 rfl ?_
                                        refine Tr.pick [2, 3, 1, 4, 5, 6, 0] (ls2 := [(0, (2, 120)), (1, (0, a1)), (2, (0, r216)), (3, (0, p21_3)), (4, (0, r49)), (5, (0, p40_5)), (7, (0, (p170_7 - 1)))]) rfl ?_
                                        exact J170 _ _ _ hS (by omega) (by omega) k216_120_85 k216_120_86 k216_120_95 k216_120_98 k216_126_0 k216_129_0 (by omega)
                                      refine Tr.icmp_ne (pc := 203) (tgt := 215) d_X12_wasted_203 rfl (fun c203 => ?_) (fun c203 => ?_)
                                      · refine Tr.iconst (pc := 215) d_X12_wasted_215 (by decide) ?_
                                        refine Tr.pick [0, 1, 3, 4, 5, 6] (ls2 := [(0, (2, 120)), (1, (0, a1)), (3, (0, p21_3)), (4, (0, r49)), (5, (0, p40_5)), (7, (0, p170_7))]) rfl ?_
                                        exact J216 _ _ hS (by omega) ((St.kp h199 (by decide) (by decide) (by decide)).trans ((St.kp h187 (by decide) (by decide) (by decide)).trans k170_120_85)) ((St.kp h199 (by decide) (by decide) (by decide)).trans ((St.kp h187 (by decide) (by decide) (by decide)).trans k170_120_86)) ((St.kp h199 (by decide) (by decide) (by decide)).trans ((St.kp h187 (by decide) (by decide) (by decide)).trans k170_120_95)) ((St.kp h199 (by decide) (by decide) (by decide)).trans ((St.kp h187 (by decide) (by decide) (by decide)).trans er173)) ((St.kp h199 (by decide) (by decide) (by decide)).trans ((St.kp h187 (by decide) (by decide) (by decide)).trans k170_120_98)) ((St.kp h199 (by decide) (by decide) (by decide)).trans ((St.kp h187 (by decide) (by decide) (by decide)).trans k170_126_0)) ((St.kp h199 (by decide) (by decide) (by decide)).trans ((St.kp h187 (by decide) (by decide) (by decide)).trans k170_129_0)) ((St.ka h199 (by decide) (by decide) (by decide)).trans qs199)
                                      · refine Tr.aload_n (pc := 206) (i := 0) d_X12_wasted_206 rfl rfl ?_
                                        refine Tr.iload_n (pc := 207) (i := 3) d_X12_wasted_207 rfl rfl ?_
                                        refine Tr.iconst (pc := 208) d_X12_wasted_208 (by decide) ?_
                                        refine Tr.callV (pc := 209) (as := [_, _]) d_X12_wasted_209 s_12_565 ok_X12_rate rfl rfl (Nat.le_of_ble_eq_true rfl) (Nat.le_of_ble_eq_true rfl) (by decide) (ty_120 hS.1.1) ?_
                                        refine Tr.imp (Tr.deep (by decide) (sp_X12_rate_120 hS.1 ((St.kp hS (by decide) (by decide) (by decide)).trans en_120_12) p21_3 (by omega) 3 (by omega) (Bk0.of hF_Bk0 (fun j => (St.ka hS (by decide) (by decide) (by decide))) (fun j => (St.ka hS (by decide) (by decide) (by decide))) (fun j => (St.ka hS (by decide) (by decide) (by decide))) (fun j => (St.ka hS (by decide) (by decide) (by decide))) (fun j => (St.ka hS (by decide) (by decide) (by decide))) (fun j => (St.ka hS (by decide) (by decide) (by decide))) (fun j => (St.ka hS (by decide) (by decide) (by decide))) (fun j => (St.ka hS (by decide) (by decide) (by decide))) (St.kp hS (by decide) (by decide) (by decide)) (St.kp hS (by decide) (by decide) (by decide)) (St.kp hS (by decide) (by decide) (by decide)) (St.kp hS (by decide) (by decide) (by decide))))) ?_
                                        rintro M209 _ ⟨h209, r209, rfl, lr209, ur209, z209_0⟩
                                        have hS := St.tr hS h209 (by decide) (by decide)
                                        have ka209_126_0 : rd M209 126 0 = r30 := ((St.kp h209 (by decide) (by decide) (by decide)).trans ((St.kp h199 (by decide) (by decide) (by decide)).trans ((St.kp h187 (by decide) (by decide) (by decide)).trans k170_126_0)))
                                        refine Tr.sc [(0, r209), (0, p170_2)] rfl ?_
                                        refine Tr.goto (pc := 212) (tgt := 216) d_X12_wasted_212 rfl ?_
                                        refine Tr.pick [0, 1, 3, 4, 5, 6] (ls2 := [(0, (2, 120)), (1, (0, a1)), (3, (0, p21_3)), (4, (0, r49)), (5, (0, p40_5)), (7, (0, p170_7))]) rfl ?_
                                        exact J216 _ _ hS (by omega) ((St.kp h209 (by decide) (by decide) (by decide)).trans ((St.kp h199 (by decide) (by decide) (by decide)).trans ((St.kp h187 (by decide) (by decide) (by decide)).trans k170_120_85))) ((St.kp h209 (by decide) (by decide) (by decide)).trans ((St.kp h199 (by decide) (by decide) (by decide)).trans ((St.kp h187 (by decide) (by decide) (by decide)).trans k170_120_86))) ((St.kp h209 (by decide) (by decide) (by decide)).trans ((St.kp h199 (by decide) (by decide) (by decide)).trans ((St.kp h187 (by decide) (by decide) (by decide)).trans k170_120_95))) ((St.kp h209 (by decide) (by decide) (by decide)).trans ((St.kp h199 (by decide) (by decide) (by decide)).trans ((St.kp h187 (by decide) (by decide) (by decide)).trans er173))) ((St.kp h209 (by decide) (by decide) (by decide)).trans ((St.kp h199 (by decide) (by decide) (by decide)).trans ((St.kp h187 (by decide) (by decide) (by decide)).trans k170_120_98))) ((St.kp h209 (by decide) (by decide) (by decide)).trans ((St.kp h199 (by decide) (by decide) (by decide)).trans ((St.kp h187 (by decide) (by decide) (by decide)).trans k170_126_0))) ((St.kp h209 (by decide) (by decide) (by decide)).trans ((St.kp h199 (by decide) (by decide) (by decide)).trans ((St.kp h187 (by decide) (by decide) (by decide)).trans k170_129_0))) ((St.ka h209 (by decide) (by decide) (by decide)).trans ((St.ka h199 (by decide) (by decide) (by decide)).trans qs199))
                              refine Tr.pick [1, 2, 3, 4, 5, 6, 0] (ls2 := [(0, (2, 120)), (1, (0, a1)), (2, (0, p40_2)), (3, (0, p21_3)), (4, (0, r49)), (5, (0, p40_5)), (7, (0, (r60 - 1)))]) rfl ?_
                              exact J170 _ _ _ _ hS (by omega) (by omega) k88_120_85 k88_120_86 er91 k88_120_98 k88_126_0 k88_129_0 (Nat.lt_succ_self _)
                            · refine Tr.goto (pc := 159) (tgt := 224) d_X12_wasted_159 rfl ?_
                              refine Tr.pick [0, 1, 2, 3, 4, 5] (ls2 := [(0, (2, 120)), (1, (0, a1)), (2, (0, p40_2)), (3, (0, p21_3)), (4, (0, r49)), (5, (0, p40_5))]) rfl ?_
                              exact J224 _ _ hS (by omega) k88_120_85 k88_126_0 k88_129_0 (by first | assumption | omega)
                          · refine Tr.aload_n (pc := 97) (i := 0) d_X12_wasted_97 rfl rfl ?_
                            refine Tr.getf (pc := 98) d_X12_wasted_98 f_12_243 (by decide) (by decide) (ty_120 hS.1.1) ?_
                            refine Tr.tp 166 (fx_120_76 hS.1.1) ?_
                            refine Tr.iload (pc := 101) (i := 7) d_X12_wasted_101 rfl ?_
                            refine Tr.iald (pc := 103) d_X12_wasted_103 (ty_166 hS.1.1) (by omega) (by omega) ?_
                            refine Tr.gen (P := fun v => 0 ≤ v ∧ v ≤ 5) (ar_166 hS.1.2.1 _) (fun r103 er103 br103 => ?_)
                            refine Tr.iload_n (pc := 104) (i := 3) d_X12_wasted_104 rfl rfl ?_
                            have J147 : ∀ (M : Mem) (p147_6 : Int), St Tru ws_X12_wasted_120 as_X12_wasted_120 M0 M → ((-1) ≤ p147_6 ∧ p147_6 ≤ 59) → rd M 120 85 = r1 → rd M 120 86 = r64 → rd M 120 95 = r91 → rd M 120 98 = r60 → rd M 126 0 = r30 → rd M 129 0 = w9_129_0 → rd M 166 p88_7 = r103 → Tr l K 2 mX12_wasted 147 [(0, (2, 120)), (1, (0, a1)), (2, (0, p40_2)), (3, (0, p21_3)), (4, (0, r49)), (5, (0, p40_5)), (6, (0, p147_6)), (7, (0, p88_7))] [] M (q_X12_wasted_120 M0) := by
                              intro M p147_6 hS bp147_6 k147_120_85 k147_120_86 k147_120_95 k147_120_98 k147_126_0 k147_129_0 k147_166_p88_710
                              refine Tr.iincV (pc := 147) (n2 := (p88_7 + 1)) (ls2 := [(7, (0, (p88_7 + 1))), (0, (2, 120)), (1, (0, a1)), (2, (0, p40_2)), (3, (0, p21_3)), (4, (0, r49)), (5, (0, p40_5)), (6, (0, p147_6))]) d_X12_wasted_147 rfl (by decide) ((w32_id (by omega)).trans (by omega)) rfl ?_
                              refine Tr.goto (pc := 150) (tgt := 88) d_X12_wasted_150 rfl ?_
                              refine Tr.pick [1, 2, 3, 4, 5, 6, 7, 0] (ls2 := [(0, (2, 120)), (1, (0, a1)), (2, (0, p40_2)), (3, (0, p21_3)), (4, (0, r49)), (5, (0, p40_5)), (6, (0, p147_6)), (7, (0, (p88_7 + 1)))]) rfl ?_
                              exact J88 _ _ _ hS (by omega) (by omega) k147_120_85 k147_120_86 k147_120_98 k147_126_0 k147_129_0 (by omega)
                            refine Tr.icmp_ne (pc := 105) (tgt := 147) d_X12_wasted_105 rfl (fun c105 => ?_) (fun c105 => ?_)
                            · refine Tr.pick [0, 1, 2, 3, 4, 5, 6, 7] (ls2 := [(0, (2, 120)), (1, (0, a1)), (2, (0, p40_2)), (3, (0, p21_3)), (4, (0, r49)), (5, (0, p40_5)), (6, (0, p88_6)), (7, (0, p88_7))]) rfl ?_
                              exact J147 _ _ hS (by omega) k88_120_85 k88_120_86 er91 k88_120_98 k88_126_0 k88_129_0 er103
                            · refine Tr.aload_n (pc := 108) (i := 0) d_X12_wasted_108 rfl rfl ?_
                              refine Tr.getf (pc := 109) d_X12_wasted_109 f_12_249 (by decide) (by decide) (ty_120 hS.1.1) ?_
                              refine Tr.tp 168 (fx_120_78 hS.1.1) ?_
                              refine Tr.iload (pc := 112) (i := 7) d_X12_wasted_112 rfl ?_
                              refine Tr.iald (pc := 114) d_X12_wasted_114 (ty_168 hS.1.1) (by omega) (by omega) ?_
                              refine Tr.gen (P := fun v => (-2147483648) ≤ v ∧ v ≤ 2147483647) (ar_168 hS.1.2.1 _) (fun r114 er114 br114 => ?_)
                              refine Tr.aload_n (pc := 115) (i := 0) d_X12_wasted_115 rfl rfl ?_
                              refine Tr.getf (pc := 116) d_X12_wasted_116 f_12_306 (by decide) (by decide) (ty_120 hS.1.1) ?_
                              refine Tr.gen (P := fun v => 0 ≤ v ∧ v ≤ 2100) (ir_120_97 hS.1.2.1) (fun r116 er116 br116 => ?_)
                              refine Tr.iconst (pc := 119) d_X12_wasted_119 (by decide) ?_
                              refine Tr.isub (pc := 120) d_X12_wasted_120 ?_
                              refine Tr.tp (r116 - 1) ((w32_id (by omega)).trans (by omega)) ?_
                              refine Tr.icmp_lt (pc := 121) (tgt := 147) d_X12_wasted_121 rfl (fun c121 => ?_) (fun c121 => ?_)
                              · refine Tr.pick [0, 1, 2, 3, 4, 5, 6, 7] (ls2 := [(0, (2, 120)), (1, (0, a1)), (2, (0, p40_2)), (3, (0, p21_3)), (4, (0, r49)), (5, (0, p40_5)), (6, (0, p88_6)), (7, (0, p88_7))]) rfl ?_
                                exact J147 _ _ hS (by omega) k88_120_85 k88_120_86 er91 k88_120_98 k88_126_0 k88_129_0 er103
                              · refine Tr.aload_n (pc := 124) (i := 0) d_X12_wasted_124 rfl rfl ?_
                                refine Tr.getf (pc := 125) d_X12_wasted_125 f_12_249 (by decide) (by decide) (ty_120 hS.1.1) ?_
                                refine Tr.tp 168 (fx_120_78 hS.1.1) ?_
                                refine Tr.iload (pc := 128) (i := 7) d_X12_wasted_128 rfl ?_
                                refine Tr.iald (pc := 130) d_X12_wasted_130 (ty_168 hS.1.1) (by omega) (by omega) ?_
                                refine Tr.tp r114 er114 ?_
                                refine Tr.aload_n (pc := 131) (i := 0) d_X12_wasted_131 rfl rfl ?_
                                refine Tr.getf (pc := 132) d_X12_wasted_132 f_12_309 (by decide) (by decide) (ty_120 hS.1.1) ?_
                                refine Tr.tp r60 k88_120_98 ?_
                                refine Tr.icmp_ge (pc := 135) (tgt := 147) d_X12_wasted_135 rfl (fun c135 => ?_) (fun c135 => ?_)
                                · refine Tr.pick [0, 1, 2, 3, 4, 5, 6, 7] (ls2 := [(0, (2, 120)), (1, (0, a1)), (2, (0, p40_2)), (3, (0, p21_3)), (4, (0, r49)), (5, (0, p40_5)), (6, (0, p88_6)), (7, (0, p88_7))]) rfl ?_
                                  exact J147 _ _ hS (by omega) k88_120_85 k88_120_86 er91 k88_120_98 k88_126_0 k88_129_0 er103
                                · refine Tr.aload_n (pc := 138) (i := 0) d_X12_wasted_138 rfl rfl ?_
                                  refine Tr.getf (pc := 139) d_X12_wasted_139 f_12_246 (by decide) (by decide) (ty_120 hS.1.1) ?_
                                  refine Tr.tp 167 (fx_120_77 hS.1.1) ?_
                                  refine Tr.iload (pc := 142) (i := 7) d_X12_wasted_142 rfl ?_
                                  refine Tr.iald (pc := 144) d_X12_wasted_144 (ty_167 hS.1.1) (by omega) (by omega) ?_
                                  refine Tr.gen (P := fun v => (-1) ≤ v ∧ v ≤ 59) (ar_167 hS.1.2.1 _) (fun r144 er144 br144 => ?_)
                                  refine Tr.istore (pc := 145) (i := 6) (ls2 := [(6, (0, r144)), (0, (2, 120)), (1, (0, a1)), (2, (0, p40_2)), (3, (0, p21_3)), (4, (0, r49)), (5, (0, p40_5)), (7, (0, p88_7))]) d_X12_wasted_145 (by decide) rfl ?_
                                  refine Tr.pick [1, 2, 3, 4, 5, 6, 0, 7] (ls2 := [(0, (2, 120)), (1, (0, a1)), (2, (0, p40_2)), (3, (0, p21_3)), (4, (0, r49)), (5, (0, p40_5)), (6, (0, r144)), (7, (0, p88_7))]) rfl ?_
                                  exact J147 _ _ hS (by omega) k88_120_85 k88_120_86 er91 k88_120_98 k88_126_0 k88_129_0 er103
                      refine Tr.pick [2, 3, 4, 5, 6, 7, 1, 0] (ls2 := [(0, (2, 120)), (1, (0, a1)), (2, (0, p40_2)), (3, (0, p21_3)), (4, (0, r49)), (5, (0, p40_5)), (6, (0, (-1))), (7, (0, 0))]) rfl ?_
                      exact J88 _ _ _ _ hS (by omega) (by omega) k82_120_85 k82_120_86 k82_120_98 k82_126_0 k82_129_0 (Nat.lt_succ_self _)
                    refine Tr.icmp_ne (pc := 67) (tgt := 82) d_X12_wasted_67 rfl (fun c67 => ?_) (fun c67 => ?_)
                    · refine Tr.pick [1, 2, 3, 4, 0, 5] (ls2 := [(0, (2, 120)), (1, (0, a1)), (2, (0, p40_2)), (3, (0, p21_3)), (4, (0, r49)), (5, (0, p40_5))]) rfl ?_
                      exact J82 _ hS ((St.kp h49 (by decide) (by decide) (by decide)).trans k40_120_85) er64 er60 ((St.kp h49 (by decide) (by decide) (by decide)).trans k40_126_0) ((St.kp h49 (by decide) (by decide) (by decide)).trans k40_129_0)
                    · refine Tr.aload_n (pc := 70) (i := 0) d_X12_wasted_70 rfl rfl ?_
                      refine Tr.getf (pc := 71) d_X12_wasted_71 f_12_297 (by decide) (by decide) (ty_120 hS.1.1) ?_
                      refine Tr.tp 175 (fx_120_94 hS.1.1) ?_
                      refine Tr.iload_n (pc := 74) (i := 3) d_X12_wasted_74 rfl rfl ?_
                      refine Tr.zald (pc := 75) d_X12_wasted_75 (ty_175 hS.1.1) (by omega) (by omega) ?_
                      refine Tr.gen (P := fun v => 0 ≤ v ∧ v ≤ 1) (ar_175 hS.1.2.1 _) (fun r75 er75 br75 => ?_)
                      refine Tr.if_ne (pc := 76) (tgt := 82) d_X12_wasted_76 rfl (fun c76 => ?_) (fun c76 => ?_)
                      · refine Tr.pick [1, 2, 3, 4, 0, 5] (ls2 := [(0, (2, 120)), (1, (0, a1)), (2, (0, p40_2)), (3, (0, p21_3)), (4, (0, r49)), (5, (0, p40_5))]) rfl ?_
                        exact J82 _ hS ((St.kp h49 (by decide) (by decide) (by decide)).trans k40_120_85) er64 er60 ((St.kp h49 (by decide) (by decide) (by decide)).trans k40_126_0) ((St.kp h49 (by decide) (by decide) (by decide)).trans k40_129_0)
                      · refine Tr.goto (pc := 79) (tgt := 224) d_X12_wasted_79 rfl ?_
                        refine Tr.pick [1, 2, 3, 4, 0, 5] (ls2 := [(0, (2, 120)), (1, (0, a1)), (2, (0, p40_2)), (3, (0, p21_3)), (4, (0, r49)), (5, (0, p40_5))]) rfl ?_
                        exact J224 _ _ hS (by omega) ((St.kp h49 (by decide) (by decide) (by decide)).trans k40_120_85) ((St.kp h49 (by decide) (by decide) (by decide)).trans k40_126_0) ((St.kp h49 (by decide) (by decide) (by decide)).trans k40_129_0) (by first | assumption | omega)
            refine Tr.pick [2, 3, 4, 5, 1, 0] (ls2 := [(0, (2, 120)), (1, (0, a1)), (2, (0, p21_2)), (3, (0, p21_3)), (4, (0, 1)), (5, (0, 0))]) rfl ?_
            exact J40 _ _ _ _ _ hS (by omega) (by omega) (by omega) k21_120_85 er30 k21_129_0 (by first | assumption | omega) (Nat.lt_succ_self _)
      refine Tr.pick [2, 3, 1, 0] (ls2 := [(0, (2, 120)), (1, (0, a1)), (2, (0, 0)), (3, (0, 0))]) rfl ?_
      exact J21 _ _ _ _ hS (by omega) (by omega) ((St.kp h9 (by decide) (by decide) (by decide)).trans er1) ew9_129_0 (Nat.lt_succ_self _)
    · refine Tr.iconst (pc := 15) d_X12_wasted_15 (by decide) ?_
      exact Tr.iret (pc := 16) d_X12_wasted_16 rfl ⟨hS, _, rfl, by omega, by omega⟩

def ws_X12_where_120 : List (Int × Int) := []
def as_X12_where_120 : List Int := []
def q_X12_where_120 (M0 M' : Mem) (r : Option PV) : Prop := St Tru ws_X12_where_120 as_X12_where_120 M0 M' ∧ ∃ v : Int, r = some (0, v) ∧ (-2147483648) ≤ v ∧ v ≤ 2147483647
set_option maxRecDepth 100000 in
set_option maxHeartbeats 4000000 in
theorem sp_X12_where_120 {l : Launch} {K : EC} {M0 : Mem} (hI : In Tru M0) (en_120_12 : rd M0 120 12 = 0) (a1 : Int) (ha1 : (-2147483648) ≤ a1 ∧ a1 ≤ 2147483647)  : Tr l K 2 mX12_where 0 [(0, (2, 120)), (1, (0, a1))] [] M0 (q_X12_where_120 M0) := by
  have hS : St Tru ws_X12_where_120 as_X12_where_120 M0 M0 := St.rf hI
  refine Tr.aload_n (pc := 0) (i := 0) d_X12_where_0 rfl rfl ?_
  refine Tr.getz (pc := 1) d_X12_where_1 f_12_327 (by decide) (ty_120 hS.1.1) ?_
  refine Tr.gen (P := fun v => 0 ≤ v ∧ v ≤ 1) (ir_120_104 hS.1.2.1) (fun r1 er1 br1 => ?_)
  refine Tr.if_eq (pc := 4) (tgt := 24) d_X12_where_4 rfl (fun c4 => ?_) (fun c4 => ?_)
  · refine Tr.iconst (pc := 24) d_X12_where_24 (by decide) ?_
    exact Tr.iret (pc := 25) d_X12_where_25 rfl ⟨hS, _, rfl, by omega, by omega⟩
  · refine Tr.aload_n (pc := 7) (i := 0) d_X12_where_7 rfl rfl ?_
    refine Tr.iload_n (pc := 8) (i := 1) d_X12_where_8 rfl rfl ?_
    refine Tr.callV (pc := 9) (as := [_]) d_X12_where_9 s_12_562 ok_X12_isInput rfl rfl (Nat.le_of_ble_eq_true rfl) (Nat.le_of_ble_eq_true rfl) (by decide) (ty_120 hS.1.1) ?_
    refine Tr.imp (Tr.deep (by decide) (sp_X12_isInput_120 hS.1 ((St.kp hS (by decide) (by decide) (by decide)).trans en_120_12) a1 (by omega))) ?_
    rintro M9 _ ⟨h9, r9, rfl, lr9, ur9, z9_0⟩
    have hS := St.tr hS h9 (by decide) (by decide)
    obtain ⟨w9_127_0, ew9_127_0⟩ : ∃ v, rd M9 127 0 = v := ⟨_, rfl⟩
    have bw9_127_0 : 0 ≤ w9_127_0 ∧ w9_127_0 ≤ 3 := by rw [← ew9_127_0]; exact ir_127_0 hS.1.2.1
    have ka9_127_0 : rd M9 127 0 = w9_127_0 := ew9_127_0
    refine Tr.sc [(0, r9)] rfl ?_
    refine Tr.if_eq (pc := 12) (tgt := 24) d_X12_where_12 rfl (fun c12 => ?_) (fun c12 => ?_)
    · refine Tr.iconst (pc := 24) d_X12_where_24 (by decide) ?_
      exact Tr.iret (pc := 25) d_X12_where_25 rfl ⟨hS, _, rfl, by omega, by omega⟩
    · refine Tr.aload_n (pc := 15) (i := 0) d_X12_where_15 rfl rfl ?_
      refine Tr.getf (pc := 16) d_X12_where_16 f_12_330 (by decide) (by decide) (ty_120 hS.1.1) ?_
      refine Tr.tp 179 (fx_120_105 hS.1.1) ?_
      refine Tr.iload_n (pc := 19) (i := 1) d_X12_where_19 rfl rfl ?_
      refine Tr.iald (pc := 20) d_X12_where_20 (ty_179 hS.1.1) (by omega) (by omega) ?_
      refine Tr.gen (P := fun v => (-2147483648) ≤ v ∧ v ≤ 2147483647) (ar_179 hS.1.2.1 _) (fun r20 er20 br20 => ?_)
      refine Tr.goto (pc := 21) (tgt := 25) d_X12_where_21 rfl ?_
      exact Tr.iret (pc := 25) d_X12_where_25 rfl ⟨hS, _, rfl, by omega, by omega⟩

def ws_X12_stateOf_120 : List (Int × Int) := []
def as_X12_stateOf_120 : List Int := []
def q_X12_stateOf_120 (a1 : Int) (M0 M' : Mem) (r : Option PV) : Prop := St Tru ws_X12_stateOf_120 as_X12_stateOf_120 M0 M' ∧ ∃ v : Int, r = some (0, v) ∧ 0 ≤ v ∧ v ≤ 3 ∧ ((rd M' 120 59 = a1 ∧ v = rd M' 120 61) ∨ ((rd M0 156 a1 = 1 ∨ 0 < rd M0 158 a1) ∧ v = 2) ∨ (rd M0 156 a1 = 0 ∧ rd M0 158 a1 ≤ 0 ∧ v = 0))
set_option maxRecDepth 100000 in
set_option maxHeartbeats 4000000 in
theorem sp_X12_stateOf_120 {l : Launch} {K : EC} {M0 : Mem} (hI : In Tru M0)  (a1 : Int) (ha1 : 0 ≤ a1 ∧ a1 ≤ 5)  : Tr l K 0 mX12_stateOf 0 [(0, (2, 120)), (1, (0, a1))] [] M0 (q_X12_stateOf_120 a1 M0) := by
  have hS : St Tru ws_X12_stateOf_120 as_X12_stateOf_120 M0 M0 := St.rf hI
  obtain ⟨g120_59, eg120_59⟩ : ∃ v, rd M0 120 59 = v := ⟨_, rfl⟩
  have bg120_59 : (-1) ≤ g120_59 ∧ g120_59 ≤ 5 := by rw [← eg120_59]; exact ir_120_59 hI.2.1
  obtain ⟨g120_61, eg120_61⟩ : ∃ v, rd M0 120 61 = v := ⟨_, rfl⟩
  have bg120_61 : 0 ≤ g120_61 ∧ g120_61 ≤ 3 := by rw [← eg120_61]; exact ir_120_61 hI.2.1
  refine Tr.iload_n (pc := 0) (i := 1) d_X12_stateOf_0 rfl rfl ?_
  refine Tr.aload_n (pc := 1) (i := 0) d_X12_stateOf_1 rfl rfl ?_
  refine Tr.getf (pc := 2) d_X12_stateOf_2 f_12_192 (by decide) (by decide) (ty_120 hS.1.1) ?_
  refine Tr.tp g120_59 eg120_59 ?_
  refine Tr.icmp_ne (pc := 5) (tgt := 15) d_X12_stateOf_5 rfl (fun c5 => ?_) (fun c5 => ?_)
  · refine Tr.aload_n (pc := 15) (i := 0) d_X12_stateOf_15 rfl rfl ?_
    refine Tr.getf (pc := 16) d_X12_stateOf_16 f_12_177 (by decide) (by decide) (ty_120 hS.1.1) ?_
    refine Tr.tp 156 (fx_120_54 hS.1.1) ?_
    refine Tr.iload_n (pc := 19) (i := 1) d_X12_stateOf_19 rfl rfl ?_
    refine Tr.zald (pc := 20) d_X12_stateOf_20 (ty_156 hS.1.1) (by omega) (by omega) ?_
    refine Tr.gen (P := fun v => 0 ≤ v ∧ v ≤ 1) (ar_156 hS.1.2.1 _) (fun r20 er20 br20 => ?_)
    refine Tr.if_ne (pc := 21) (tgt := 33) d_X12_stateOf_21 rfl (fun c21 => ?_) (fun c21 => ?_)
    · refine Tr.iconst (pc := 33) d_X12_stateOf_33 (by decide) ?_
      refine Tr.goto (pc := 34) (tgt := 38) d_X12_stateOf_34 rfl ?_
      have kr_120_59 : rd M0 120 59 = g120_59 := eg120_59
      have kr_120_61 : rd M0 120 61 = g120_61 := eg120_61
      exact Tr.iret (pc := 38) d_X12_stateOf_38 rfl ⟨hS, _, rfl, by omega, by omega, by omega⟩
    · refine Tr.aload_n (pc := 24) (i := 0) d_X12_stateOf_24 rfl rfl ?_
      refine Tr.getf (pc := 25) d_X12_stateOf_25 f_12_183 (by decide) (by decide) (ty_120 hS.1.1) ?_
      refine Tr.tp 158 (fx_120_56 hS.1.1) ?_
      refine Tr.iload_n (pc := 28) (i := 1) d_X12_stateOf_28 rfl rfl ?_
      refine Tr.iald (pc := 29) d_X12_stateOf_29 (ty_158 hS.1.1) (by omega) (by omega) ?_
      refine Tr.gen (P := fun v => (-2147483648) ≤ v ∧ v ≤ 2147483647) (ar_158 hS.1.2.1 _) (fun r29 er29 br29 => ?_)
      refine Tr.if_le (pc := 30) (tgt := 37) d_X12_stateOf_30 rfl (fun c30 => ?_) (fun c30 => ?_)
      · refine Tr.iconst (pc := 37) d_X12_stateOf_37 (by decide) ?_
        have kr_120_59 : rd M0 120 59 = g120_59 := eg120_59
        have kr_120_61 : rd M0 120 61 = g120_61 := eg120_61
        exact Tr.iret (pc := 38) d_X12_stateOf_38 rfl ⟨hS, _, rfl, by omega, by omega, by omega⟩
      · refine Tr.iconst (pc := 33) d_X12_stateOf_33 (by decide) ?_
        refine Tr.goto (pc := 34) (tgt := 38) d_X12_stateOf_34 rfl ?_
        have kr_120_59 : rd M0 120 59 = g120_59 := eg120_59
        have kr_120_61 : rd M0 120 61 = g120_61 := eg120_61
        exact Tr.iret (pc := 38) d_X12_stateOf_38 rfl ⟨hS, _, rfl, by omega, by omega, by omega⟩
  · refine Tr.aload_n (pc := 8) (i := 0) d_X12_stateOf_8 rfl rfl ?_
    refine Tr.getf (pc := 9) d_X12_stateOf_9 f_12_198 (by decide) (by decide) (ty_120 hS.1.1) ?_
    refine Tr.tp g120_61 eg120_61 ?_
    refine Tr.goto (pc := 12) (tgt := 38) d_X12_stateOf_12 rfl ?_
    have kr_120_59 : rd M0 120 59 = g120_59 := eg120_59
    have kr_120_61 : rd M0 120 61 = g120_61 := eg120_61
    exact Tr.iret (pc := 38) d_X12_stateOf_38 rfl ⟨hS, _, rfl, by omega, by omega, by omega⟩

def ws_X12_tick_120 : List (Int × Int) := [(120, 62), (120, 63), (120, 68)]
def as_X12_tick_120 : List Int := [158, 161, 162, 163, 164, 165]
def q_X12_tick_120 (a1 : Int) (M0 M' : Mem) (r : Option PV) : Prop := St Tb0 ws_X12_tick_120 as_X12_tick_120 M0 M' ∧ ∃ v : Int, r = some (0, v) ∧ 0 ≤ v ∧ v ≤ 1 ∧ ((v = 1 ∧ rd M' 120 62 = rd M0 120 62 + 1 ∧ (a1 = -1 ∨ rd M' 120 62 ≤ 2000)) ∨ (v = 0 ∧ rd M' 120 62 = rd M0 120 62 ∧ 1 ≤ rd M' 120 68)) ∧ (a1 ≠ -1 ∨ rd M' 120 68 = rd M0 120 68) ∧ (rd M' 120 59 = rd M0 120 59)
set_option maxRecDepth 100000 in
set_option maxHeartbeats 4000000 in
theorem sp_X12_tick_120 {l : Launch} {K : EC} {M0 : Mem} (hI : In Tb0 M0) (en_120_12 : rd M0 120 12 = 0) (a1 : Int) (ha1 : 0 ≤ a1 ∧ a1 ≤ 59)  (hq0 : rd M0 120 61 ≠ 2 ∨ rd M0 120 59 = -1) (hq1 : rd M0 120 62 ≤ 2000 ∨ (a1 = -1 ∧ rd M0 120 62 ≤ 2049)) (hF_Bk0 : Bk0 M0) : Tr l K 3 mX12_tick 0 [(0, (2, 120)), (1, (0, a1))] [] M0 (q_X12_tick_120 a1 M0) := by
  have hS : St Tb0 ws_X12_tick_120 as_X12_tick_120 M0 M0 := St.rf hI
  obtain ⟨g120_62, eg120_62⟩ : ∃ v, rd M0 120 62 = v := ⟨_, rfl⟩
  have bg120_62 : 0 ≤ g120_62 ∧ g120_62 ≤ 2060 := by rw [← eg120_62]; exact ir_120_62 hI.2.1
  obtain ⟨g120_68, eg120_68⟩ : ∃ v, rd M0 120 68 = v := ⟨_, rfl⟩
  have bg120_68 : 0 ≤ g120_68 ∧ g120_68 ≤ 2 := by rw [← eg120_68]; exact ir_120_68 hI.2.1
  obtain ⟨g120_59, eg120_59⟩ : ∃ v, rd M0 120 59 = v := ⟨_, rfl⟩
  have bg120_59 : (-1) ≤ g120_59 ∧ g120_59 ≤ 5 := by rw [← eg120_59]; exact ir_120_59 hI.2.1
  obtain ⟨g126_0, eg126_0⟩ : ∃ v, rd M0 126 0 = v := ⟨_, rfl⟩
  have bg126_0 : 0 ≤ g126_0 ∧ g126_0 ≤ 6 := by rw [← eg126_0]; exact ir_126_0 hI.2.1
  obtain ⟨g120_61, eg120_61⟩ : ∃ v, rd M0 120 61 = v := ⟨_, rfl⟩
  have bg120_61 : 0 ≤ g120_61 ∧ g120_61 ≤ 3 := by rw [← eg120_61]; exact ir_120_61 hI.2.1
  refine Tr.iload_n (pc := 0) (i := 1) d_X12_tick_0 rfl rfl ?_
  refine Tr.iconst (pc := 1) d_X12_tick_1 (by decide) ?_
  have J20 : ∀ (M : Mem) (u20_120_68 : Int), St Tb0 ws_X12_tick_120 as_X12_tick_120 M0 M → (0 ≤ u20_120_68 ∧ u20_120_68 ≤ 2) → rd M 120 59 = g120_59 → rd M 120 61 = g120_61 → rd M 120 62 = g120_62 → rd M 120 68 = u20_120_68 → rd M 126 0 = g126_0 → (a1 = -1 ∨ g120_62 ≠ 2000 ∨ 1 ≤ u20_120_68) → (a1 ≠ -1 ∨ u20_120_68 = g120_68) → Tr l K 3 mX12_tick 20 [(0, (2, 120)), (1, (0, a1))] [] M (q_X12_tick_120 a1 M0) := by
    intro M u20_120_68 hS bu20_120_68 k20_120_59 k20_120_61 k20_120_62 k20_120_68 k20_126_0 t20_0 t20_1
    refine Tr.iload_n (pc := 20) (i := 1) d_X12_tick_20 rfl rfl ?_
    refine Tr.iconst (pc := 21) d_X12_tick_21 (by decide) ?_
    refine Tr.icmp_ne (pc := 22) (tgt := 29) d_X12_tick_22 rfl (fun _ => ?_) (fun hc => absurd hc (by omega))
    refine Tr.aload_n (pc := 29) (i := 0) d_X12_tick_29 rfl rfl ?_
    refine Tr.getf (pc := 30) d_X12_tick_30 f_12_51 (by decide) (by decide) (ty_120 hS.1.1) ?_
    refine Tr.tp 122 (fx_120_13 hS.1.1) ?_
    refine Tr.aload_n (pc := 33) (i := 0) d_X12_tick_33 rfl rfl ?_
    refine Tr.getf (pc := 34) d_X12_tick_34 f_12_48 (by decide) (by decide) (ty_120 hS.1.1) ?_
    refine Tr.tp 0 ((St.kp hS (by decide) (by decide) (by decide)).trans en_120_12) ?_
    refine Tr.iald (pc := 37) d_X12_tick_37 (ty_122 hS.1.1) (by omega) (by omega) ?_
    refine Tr.gen (P := fun v => (-2147483648) ≤ v ∧ v ≤ 2147483647) (ir_122_0 hS.1.2.1) (fun r37 er37 br37 => ?_)
    refine Tr.i2l (pc := 38) d_X12_tick_38 ?_
    refine Tr.lstore_n (pc := 39) (i := 2) (ls2 := [(2, (1, r37)), (0, (2, 120)), (1, (0, a1))]) d_X12_tick_39 rfl (by decide) rfl ?_
    refine Tr.iconst (pc := 40) d_X12_tick_40 (by decide) ?_
    refine Tr.istore (pc := 41) (i := 4) (ls2 := [(4, (0, 0)), (2, (1, r37)), (0, (2, 120)), (1, (0, a1))]) d_X12_tick_41 (by decide) rfl ?_
    have J43 : ∀ (n43 : Nat) (M : Mem) (p43_2 p43_4 : Int), St Tb0 ws_X12_tick_120 as_X12_tick_120 M0 M → ((-9223372036854775808) ≤ p43_2 ∧ p43_2 ≤ 9223372036854775807) → (0 ≤ p43_4 ∧ p43_4 ≤ 6) → rd M 120 59 = g120_59 → rd M 120 61 = g120_61 → rd M 120 62 = g120_62 → rd M 120 68 = u20_120_68 → rd M 122 0 = r37 → rd M 126 0 = g126_0 → (6 - p43_4).toNat < n43 → Tr l K 3 mX12_tick 43 [(0, (2, 120)), (1, (0, a1)), (2, (1, p43_2)), (4, (0, p43_4))] [] M (q_X12_tick_120 a1 M0) := by
      intro n43
      induction n43 with
      | zero => intro M p43_2 p43_4 hS bp43_2 bp43_4 k43_120_59 k43_120_61 k43_120_62 k43_120_68 k43_122_0 k43_126_0 hm43; exact absurd hm43 (Nat.not_lt_zero _)
      | succ n43 J43 =>
        intro M p43_2 p43_4 hS bp43_2 bp43_4 k43_120_59 k43_120_61 k43_120_62 k43_120_68 k43_122_0 k43_126_0 hm43
        refine Tr.iload (pc := 43) (i := 4) d_X12_tick_43 rfl ?_
        refine Tr.aload_n (pc := 45) (i := 0) d_X12_tick_45 rfl rfl ?_
        refine Tr.getf (pc := 46) d_X12_tick_46 f_12_63 (by decide) (by decide) (ty_120 hS.1.1) ?_
        refine Tr.tp 126 (fx_120_17 hS.1.1) ?_
        refine Tr.aload_n (pc := 49) (i := 0) d_X12_tick_49 rfl rfl ?_
        refine Tr.getf (pc := 50) d_X12_tick_50 f_12_48 (by decide) (by decide) (ty_120 hS.1.1) ?_
        refine Tr.tp 0 ((St.kp hS (by decide) (by decide) (by decide)).trans en_120_12) ?_
        refine Tr.iald (pc := 53) d_X12_tick_53 (ty_126 hS.1.1) (by omega) (by omega) ?_
        refine Tr.tp g126_0 k43_126_0 ?_
        refine Tr.icmp_ge (pc := 54) (tgt := 79) d_X12_tick_54 rfl (fun c54 => ?_) (fun c54 => ?_)
        · refine Tr.aload_n (pc := 79) (i := 0) d_X12_tick_79 rfl rfl ?_
          refine Tr.getf (pc := 80) d_X12_tick_80 f_12_219 (by decide) (by decide) (ty_120 hS.1.1) ?_
          refine Tr.tp u20_120_68 k43_120_68 ?_
          have J119 : ∀ (M : Mem) (u119_120_68 : Int), St Tb0 ws_X12_tick_120 as_X12_tick_120 M0 M → (0 ≤ u119_120_68 ∧ u119_120_68 ≤ 2) → rd M 120 59 = g120_59 → rd M 120 61 = g120_61 → rd M 120 62 = g120_62 → rd M 120 68 = u119_120_68 → rd M 122 0 = r37 → rd M 126 0 = g126_0 → (a1 = -1 ∨ g120_62 ≠ 2000 ∨ 1 ≤ u119_120_68) → (a1 ≠ -1 ∨ u119_120_68 = g120_68) → Tr l K 3 mX12_tick 119 [(0, (2, 120)), (1, (0, a1)), (2, (1, p43_2))] [] M (q_X12_tick_120 a1 M0) := by
            intro M u119_120_68 hS bu119_120_68 k119_120_59 k119_120_61 k119_120_62 k119_120_68 k119_122_0 k119_126_0 t119_0 t119_1
            refine Tr.aload_n (pc := 119) (i := 0) d_X12_tick_119 rfl rfl ?_
            refine Tr.getf (pc := 120) d_X12_tick_120 f_12_219 (by decide) (by decide) (ty_120 hS.1.1) ?_
            refine Tr.tp u119_120_68 k119_120_68 ?_
            refine Tr.if_le (pc := 123) (tgt := 128) d_X12_tick_123 rfl (fun c123 => ?_) (fun c123 => ?_)
            · refine Tr.iconst (pc := 128) d_X12_tick_128 (by decide) ?_
              refine Tr.istore (pc := 129) (i := 4) (ls2 := [(4, (0, 0)), (0, (2, 120)), (1, (0, a1)), (2, (1, p43_2))]) d_X12_tick_129 (by decide) rfl ?_
              have J131 : ∀ (n131 : Nat) (M : Mem) (p131_4 : Int), St Tb0 ws_X12_tick_120 as_X12_tick_120 M0 M → (0 ≤ p131_4 ∧ p131_4 ≤ 6) → rd M 120 59 = g120_59 → rd M 120 61 = g120_61 → rd M 120 62 = g120_62 → rd M 120 68 = u119_120_68 → rd M 122 0 = r37 → rd M 126 0 = g126_0 → (6 - p131_4).toNat < n131 → Tr l K 3 mX12_tick 131 [(0, (2, 120)), (1, (0, a1)), (2, (1, p43_2)), (4, (0, p131_4))] [] M (q_X12_tick_120 a1 M0) := by
                intro n131
                induction n131 with
                | zero => intro M p131_4 hS bp131_4 k131_120_59 k131_120_61 k131_120_62 k131_120_68 k131_122_0 k131_126_0 hm131; exact absurd hm131 (Nat.not_lt_zero _)
                | succ n131 J131 =>
                  intro M p131_4 hS bp131_4 k131_120_59 k131_120_61 k131_120_62 k131_120_68 k131_122_0 k131_126_0 hm131
                  refine Tr.iload (pc := 131) (i := 4) d_X12_tick_131 rfl ?_
                  refine Tr.aload_n (pc := 133) (i := 0) d_X12_tick_133 rfl rfl ?_
                  refine Tr.getf (pc := 134) d_X12_tick_134 f_12_63 (by decide) (by decide) (ty_120 hS.1.1) ?_
                  refine Tr.tp 126 (fx_120_17 hS.1.1) ?_
                  refine Tr.aload_n (pc := 137) (i := 0) d_X12_tick_137 rfl rfl ?_
                  refine Tr.getf (pc := 138) d_X12_tick_138 f_12_48 (by decide) (by decide) (ty_120 hS.1.1) ?_
                  refine Tr.tp 0 ((St.kp hS (by decide) (by decide) (by decide)).trans en_120_12) ?_
                  refine Tr.iald (pc := 141) d_X12_tick_141 (ty_126 hS.1.1) (by omega) (by omega) ?_
                  refine Tr.tp g126_0 k131_126_0 ?_
                  refine Tr.icmp_ge (pc := 142) (tgt := 297) d_X12_tick_142 rfl (fun c142 => ?_) (fun c142 => ?_)
                  · refine Tr.aload_n (pc := 297) (i := 0) d_X12_tick_297 rfl rfl ?_
                    refine Tr.getz (pc := 298) d_X12_tick_298 f_12_225 (by decide) (ty_120 hS.1.1) ?_
                    refine Tr.gen (P := fun v => 0 ≤ v ∧ v ≤ 1) (ir_120_70 hS.1.2.1) (fun r298 er298 br298 => ?_)
                    have J314 : ∀ (M : Mem), St Tb0 ws_X12_tick_120 as_X12_tick_120 M0 M → rd M 120 59 = g120_59 → rd M 120 61 = g120_61 → rd M 120 62 = g120_62 → rd M 120 68 = u119_120_68 → rd M 120 70 = r298 → rd M 122 0 = r37 → rd M 126 0 = g126_0 → Tr l K 3 mX12_tick 314 [(0, (2, 120)), (2, (1, p43_2))] [] M (q_X12_tick_120 a1 M0) := by
                      intro M  hS  k314_120_59 k314_120_61 k314_120_62 k314_120_68 k314_120_70 k314_122_0 k314_126_0
                      refine Tr.aload_n (pc := 314) (i := 0) d_X12_tick_314 rfl rfl ?_
                      refine Tr.dup (pc := 315) d_X12_tick_315 ne21 ?_
                      refine Tr.getf (pc := 316) d_X12_tick_316 f_12_204 (by decide) (by decide) (ty_120 hS.1.1) ?_
                      refine Tr.gen (P := fun v => (-9223372036854775808) ≤ v ∧ v ≤ 9223372036854775807) (ir_120_63 hS.1.2.1) (fun r316 er316 br316 => ?_)
                      refine Tr.lload_n (pc := 319) (i := 2) d_X12_tick_319 rfl rfl ?_
                      refine Tr.ladd (pc := 320) d_X12_tick_320 ?_
                      refine Tr.gen (P := fun v => (-9223372036854775808) ≤ v ∧ v ≤ 9223372036854775807) (w64_b _) (fun r320 er320 br320 => ?_)
                      refine Tr.putfS (pc := 321) (P := St Tb0 ws_X12_tick_120 as_X12_tick_120 M0) d_X12_tick_321 f_12_204 (by decide) (by decide) (ty_120 hS.1.1) (st_120_63 hS (by decide) (by omega) (Tb0.of hS.1.2.2.2.2 (fun _ => rd_wb _ rfl) (rd_wb _ rfl))) (fun M321 hS w321 => ?_)
                      refine Tr.aload_n (pc := 324) (i := 0) d_X12_tick_324 rfl rfl ?_
                      refine Tr.dup (pc := 325) d_X12_tick_325 ne21 ?_
                      refine Tr.getf (pc := 326) d_X12_tick_326 f_12_201 (by decide) (by decide) (ty_120 hS.1.1) ?_
                      refine Tr.tp g120_62 ((Wr.b w321 rfl).trans k314_120_62) ?_
                      refine Tr.iconst (pc := 329) d_X12_tick_329 (by decide) ?_
                      refine Tr.iadd (pc := 330) d_X12_tick_330 ?_
                      refine Tr.tp (g120_62 + 1) ((w32_id (by omega)).trans (by omega)) ?_
                      refine Tr.putfS (pc := 331) (P := St Tb0 ws_X12_tick_120 as_X12_tick_120 M0) d_X12_tick_331 f_12_201 (by decide) (by decide) (ty_120 hS.1.1) (st_120_62 hS (by decide) (by omega) (Tb0.of hS.1.2.2.2.2 (fun _ => rd_wb _ rfl) (rd_wb _ rfl))) (fun M331 hS w331 => ?_)
                      refine Tr.iconst (pc := 334) d_X12_tick_334 (by decide) ?_
                      have kr_120_59 : rd M331 120 59 = g120_59 := ((Wr.b w331 rfl).trans ((Wr.b w321 rfl).trans k314_120_59))
                      have kr_120_62 : rd M331 120 62 = (g120_62 + 1) := w331.1
                      have kr_120_68 : rd M331 120 68 = u119_120_68 := ((Wr.b w331 rfl).trans ((Wr.b w321 rfl).trans k314_120_68))
                      exact Tr.zret (pc := 335) d_X12_tick_335 rfl (by omega) ⟨hS, _, rfl, by omega, by omega, by omega, by omega, by omega⟩
                    refine Tr.if_eq (pc := 301) (tgt := 314) d_X12_tick_301 rfl (fun c301 => ?_) (fun c301 => ?_)
                    · refine Tr.pick [0, 2] (ls2 := [(0, (2, 120)), (2, (1, p43_2))]) rfl ?_
                      exact J314 _ hS k131_120_59 k131_120_61 k131_120_62 k131_120_68 er298 k131_122_0 k131_126_0
                    · refine Tr.aload_n (pc := 304) (i := 0) d_X12_tick_304 rfl rfl ?_
                      refine Tr.getf (pc := 305) d_X12_tick_305 f_12_228 (by decide) (by decide) (ty_120 hS.1.1) ?_
                      refine Tr.tp 162 (fx_120_71 hS.1.1) ?_
                      refine Tr.aload_n (pc := 308) (i := 0) d_X12_tick_308 rfl rfl ?_
                      refine Tr.getf (pc := 309) d_X12_tick_309 f_12_201 (by decide) (by decide) (ty_120 hS.1.1) ?_
                      refine Tr.tp g120_62 k131_120_62 ?_
                      refine Tr.iload_n (pc := 312) (i := 1) d_X12_tick_312 rfl rfl ?_
                      refine Tr.iastS (pc := 313) (P := St Tb0 ws_X12_tick_120 as_X12_tick_120 M0) d_X12_tick_313 (ty_162 hS.1.1) (by omega) (by omega) (sa_162 hS (by decide) (by omega) (Tb0.of hS.1.2.2.2.2 (fun _ => rd_wb _ rfl) (rd_wb _ rfl))) (fun M313 hS w313 => ?_)
                      refine Tr.pick [0, 2] (ls2 := [(0, (2, 120)), (2, (1, p43_2))]) rfl ?_
                      exact J314 _ hS ((Wr.b w313 rfl).trans k131_120_59) ((Wr.b w313 rfl).trans k131_120_61) ((Wr.b w313 rfl).trans k131_120_62) ((Wr.b w313 rfl).trans k131_120_68) ((Wr.b w313 rfl).trans er298) ((Wr.b w313 rfl).trans k131_122_0) ((Wr.b w313 rfl).trans k131_126_0)
                  · refine Tr.aload_n (pc := 145) (i := 0) d_X12_tick_145 rfl rfl ?_
                    refine Tr.iload (pc := 146) (i := 4) d_X12_tick_146 rfl ?_
                    refine Tr.callV (pc := 148) (as := [_]) d_X12_tick_148 s_12_571 ok_X12_stateOf rfl rfl (Nat.le_of_ble_eq_true rfl) (Nat.le_of_ble_eq_true rfl) (by decide) (ty_120 hS.1.1) ?_
                    refine Tr.imp (Tr.deep (by decide) (sp_X12_stateOf_120 hS.1.wk p131_4 (by omega))) ?_
                    rintro M148 _ ⟨h148, r148, rfl, lr148, ur148, z148_0⟩
                    have h148 := St.rn h148 (Tb0.of hS.1.2.2.2.2 (fun _ => (St.ka h148 (by decide) (by decide) (by decide))) (St.kp h148 (by decide) (by decide) (by decide)))
                    have hS := St.tr hS h148 (by decide) (by decide)
                    have ka148_120_59 : rd M148 120 59 = g120_59 := ((St.kp h148 (by decide) (by decide) (by decide)).trans k131_120_59)
                    have ka148_120_61 : rd M148 120 61 = g120_61 := ((St.kp h148 (by decide) (by decide) (by decide)).trans k131_120_61)
                    refine Tr.sc [(0, r148)] rfl ?_
                    obtain ⟨th156, eth156⟩ : ∃ v, rd M 156 p131_4 = v := ⟨_, rfl⟩
                    have bth156 : 0 ≤ th156 ∧ th156 ≤ 1 := by rw [← eth156, ← show rd M148 156 p131_4 = rd M 156 p131_4 from St.ka h148 (by decide) (by decide) (by decide)]; exact ar_156 hS.1.2.1 _
                    obtain ⟨th158, eth158⟩ : ∃ v, rd M 158 p131_4 = v := ⟨_, rfl⟩
                    have bth158 : (-2147483648) ≤ th158 ∧ th158 ≤ 2147483647 := by rw [← eth158, ← show rd M148 158 p131_4 = rd M 158 p131_4 from St.ka h148 (by decide) (by decide) (by decide)]; exact ar_158 hS.1.2.1 _
                    refine Tr.istore (pc := 151) (i := 5) (ls2 := [(5, (0, r148)), (0, (2, 120)), (1, (0, a1)), (2, (1, p43_2)), (4, (0, p131_4))]) d_X12_tick_151 (by decide) rfl ?_
                    refine Tr.aload_n (pc := 153) (i := 0) d_X12_tick_153 rfl rfl ?_
                    refine Tr.getf (pc := 154) d_X12_tick_154 f_12_222 (by decide) (by decide) (ty_120 hS.1.1) ?_
                    refine Tr.tp 161 (fx_120_69 hS.1.1) ?_
                    refine Tr.iconst (pc := 157) d_X12_tick_157 (by decide) ?_
                    refine Tr.iload (pc := 158) (i := 4) d_X12_tick_158 rfl ?_
                    refine Tr.imul (pc := 160) d_X12_tick_160 ?_
                    refine Tr.tp (4 * p131_4) ((w32_id (by omega)).trans (by omega)) ?_
                    refine Tr.iload (pc := 161) (i := 5) d_X12_tick_161 rfl ?_
                    refine Tr.iadd (pc := 163) d_X12_tick_163 ?_
                    refine Tr.tp (4 * p131_4 + r148) ((w32_id (by omega)).trans (by omega)) ?_
                    refine Tr.dup2 (pc := 164) d_X12_tick_164 ne01 ne21 ?_
                    refine Tr.iald (pc := 165) d_X12_tick_165 (ty_161 hS.1.1) (by omega) (by omega) ?_
                    refine Tr.gen (P := fun v => (-2147483648) ≤ v ∧ v ≤ 2147483647) (ar_161 hS.1.2.1 _) (fun r165 er165 br165 => ?_)
                    refine Tr.iconst (pc := 166) d_X12_tick_166 (by decide) ?_
                    refine Tr.iadd (pc := 167) d_X12_tick_167 ?_
                    refine Tr.gen (P := fun v => (-2147483648) ≤ v ∧ v ≤ 2147483647) (w32_b _) (fun r167 er167 br167 => ?_)
                    refine Tr.iastS (pc := 168) (P := St Tb0 ws_X12_tick_120 as_X12_tick_120 M0) d_X12_tick_168 (ty_161 hS.1.1) (by omega) (by omega) (sa_161 hS (by decide) (by omega) (Tb0.of hS.1.2.2.2.2 (fun _ => rd_wb _ rfl) (rd_wb _ rfl))) (fun M168 hS w168 => ?_)
                    refine Tr.aload_n (pc := 169) (i := 0) d_X12_tick_169 rfl rfl ?_
                    refine Tr.getz (pc := 170) d_X12_tick_170 f_12_225 (by decide) (ty_120 hS.1.1) ?_
                    refine Tr.gen (P := fun v => 0 ≤ v ∧ v ≤ 1) (ir_120_70 hS.1.2.1) (fun r170 er170 br170 => ?_)
                    have J264 : ∀ (M : Mem), St Tb0 ws_X12_tick_120 as_X12_tick_120 M0 M → rd M 120 59 = g120_59 → rd M 120 61 = g120_61 → rd M 120 62 = g120_62 → rd M 120 68 = u119_120_68 → rd M 120 70 = r170 → rd M 122 0 = r37 → rd M 126 0 = g126_0 → rd M 156 p131_4 = th156 → rd M 158 p131_4 = th158 → rd M 161 (4 * p131_4 + r148) = r167 → Tr l K 3 mX12_tick 264 [(0, (2, 120)), (1, (0, a1)), (2, (1, p43_2)), (4, (0, p131_4)), (5, (0, r148))] [] M (q_X12_tick_120 a1 M0) := by
                      intro M  hS  k264_120_59 k264_120_61 k264_120_62 k264_120_68 k264_120_70 k264_122_0 k264_126_0 k264_156_p131_410 k264_158_p131_410 k264_161_p131_44r14810
                      refine Tr.iload (pc := 264) (i := 5) d_X12_tick_264 rfl ?_
                      refine Tr.iconst (pc := 266) d_X12_tick_266 (by decide) ?_
                      have J291 : ∀ (M : Mem), St Tb0 ws_X12_tick_120 as_X12_tick_120 M0 M → rd M 120 59 = g120_59 → rd M 120 61 = g120_61 → rd M 120 62 = g120_62 → rd M 120 68 = u119_120_68 → rd M 120 70 = r170 → rd M 122 0 = r37 → rd M 126 0 = g126_0 → rd M 156 p131_4 = th156 → rd M 161 (4 * p131_4 + r148) = r167 → Tr l K 3 mX12_tick 291 [(0, (2, 120)), (1, (0, a1)), (2, (1, p43_2)), (4, (0, p131_4))] [] M (q_X12_tick_120 a1 M0) := by
                        intro M  hS  k291_120_59 k291_120_61 k291_120_62 k291_120_68 k291_120_70 k291_122_0 k291_126_0 k291_156_p131_410 k291_161_p131_44r14810
                        refine Tr.iincV (pc := 291) (n2 := (p131_4 + 1)) (ls2 := [(4, (0, (p131_4 + 1))), (0, (2, 120)), (1, (0, a1)), (2, (1, p43_2))]) d_X12_tick_291 rfl (by decide) ((w32_id (by omega)).trans (by omega)) rfl ?_
                        refine Tr.goto (pc := 294) (tgt := 131) d_X12_tick_294 rfl ?_
                        refine Tr.pick [1, 2, 3, 0] (ls2 := [(0, (2, 120)), (1, (0, a1)), (2, (1, p43_2)), (4, (0, (p131_4 + 1)))]) rfl ?_
                        exact J131 _ _ hS (by omega) k291_120_59 k291_120_61 k291_120_62 k291_120_68 k291_122_0 k291_126_0 (by omega)
                      refine Tr.icmp_ne (pc := 267) (tgt := 291) d_X12_tick_267 rfl (fun c267 => ?_) (fun c267 => ?_)
                      · refine Tr.pick [0, 1, 2, 3] (ls2 := [(0, (2, 120)), (1, (0, a1)), (2, (1, p43_2)), (4, (0, p131_4))]) rfl ?_
                        exact J291 _ hS k264_120_59 k264_120_61 k264_120_62 k264_120_68 k264_120_70 k264_122_0 k264_126_0 k264_156_p131_410 k264_161_p131_44r14810
                      · refine Tr.aload_n (pc := 270) (i := 0) d_X12_tick_270 rfl rfl ?_
                        refine Tr.getf (pc := 271) d_X12_tick_271 f_12_177 (by decide) (by decide) (ty_120 hS.1.1) ?_
                        refine Tr.tp 156 (fx_120_54 hS.1.1) ?_
                        refine Tr.iload (pc := 274) (i := 4) d_X12_tick_274 rfl ?_
                        refine Tr.zald (pc := 276) d_X12_tick_276 (ty_156 hS.1.1) (by omega) (by omega) ?_
                        refine Tr.tp th156 k264_156_p131_410 ?_
                        refine Tr.if_ne (pc := 277) (tgt := 291) d_X12_tick_277 rfl (fun c277 => ?_) (fun c277 => ?_)
                        · refine Tr.pick [0, 1, 2, 3] (ls2 := [(0, (2, 120)), (1, (0, a1)), (2, (1, p43_2)), (4, (0, p131_4))]) rfl ?_
                          exact J291 _ hS k264_120_59 k264_120_61 k264_120_62 k264_120_68 k264_120_70 k264_122_0 k264_126_0 k264_156_p131_410 k264_161_p131_44r14810
                        · refine Tr.aload_n (pc := 280) (i := 0) d_X12_tick_280 rfl rfl ?_
                          refine Tr.getf (pc := 281) d_X12_tick_281 f_12_183 (by decide) (by decide) (ty_120 hS.1.1) ?_
                          refine Tr.tp 158 (fx_120_56 hS.1.1) ?_
                          refine Tr.iload (pc := 284) (i := 4) d_X12_tick_284 rfl ?_
                          refine Tr.dup2 (pc := 286) d_X12_tick_286 ne01 ne21 ?_
                          refine Tr.iald (pc := 287) d_X12_tick_287 (ty_158 hS.1.1) (by omega) (by omega) ?_
                          refine Tr.tp th158 k264_158_p131_410 ?_
                          refine Tr.iconst (pc := 288) d_X12_tick_288 (by decide) ?_
                          refine Tr.isub (pc := 289) d_X12_tick_289 ?_
                          refine Tr.tp (th158 - 1) ((w32_id (by omega)).trans (by omega)) ?_
                          refine Tr.iastS (pc := 290) (P := St Tb0 ws_X12_tick_120 as_X12_tick_120 M0) d_X12_tick_290 (ty_158 hS.1.1) (by omega) (by omega) (sa_158 hS (by decide) (by omega) (Tb0_wr hS.1.2.2.2.2 (fun i0 i1 => by have h8 := hS.1.2.2.2.2 _ i0 i1; omega))) (fun M290 hS w290 => ?_)
                          refine Tr.pick [0, 1, 2, 3] (ls2 := [(0, (2, 120)), (1, (0, a1)), (2, (1, p43_2)), (4, (0, p131_4))]) rfl ?_
                          exact J291 _ hS ((Wr.b w290 rfl).trans k264_120_59) ((Wr.b w290 rfl).trans k264_120_61) ((Wr.b w290 rfl).trans k264_120_62) ((Wr.b w290 rfl).trans k264_120_68) ((Wr.b w290 rfl).trans k264_120_70) ((Wr.b w290 rfl).trans k264_122_0) ((Wr.b w290 rfl).trans k264_126_0) ((Wr.b w290 rfl).trans k264_156_p131_410) ((Wr.b w290 rfl).trans k264_161_p131_44r14810)
                    refine Tr.if_eq (pc := 173) (tgt := 264) d_X12_tick_173 rfl (fun c173 => ?_) (fun c173 => ?_)
                    · refine Tr.pick [1, 2, 3, 4, 0] (ls2 := [(0, (2, 120)), (1, (0, a1)), (2, (1, p43_2)), (4, (0, p131_4)), (5, (0, r148))]) rfl ?_
                      exact J264 _ hS ((Wr.b w168 rfl).trans ((St.kp h148 (by decide) (by decide) (by decide)).trans k131_120_59)) ((Wr.b w168 rfl).trans ((St.kp h148 (by decide) (by decide) (by decide)).trans k131_120_61)) ((Wr.b w168 rfl).trans ((St.kp h148 (by decide) (by decide) (by decide)).trans k131_120_62)) ((Wr.b w168 rfl).trans ((St.kp h148 (by decide) (by decide) (by decide)).trans k131_120_68)) er170 ((Wr.b w168 rfl).trans ((St.kp h148 (by decide) (by decide) (by decide)).trans k131_122_0)) ((Wr.b w168 rfl).trans ((St.kp h148 (by decide) (by decide) (by decide)).trans k131_126_0)) ((Wr.b w168 rfl).trans ((St.ka h148 (by decide) (by decide) (by decide)).trans eth156)) ((Wr.b w168 rfl).trans ((St.ka h148 (by decide) (by decide) (by decide)).trans eth158)) w168.1
                    · refine Tr.aload_n (pc := 176) (i := 0) d_X12_tick_176 rfl rfl ?_
                      refine Tr.getf (pc := 177) d_X12_tick_177 f_12_231 (by decide) (by decide) (ty_120 hS.1.1) ?_
                      refine Tr.tp 163 (fx_120_72 hS.1.1) ?_
                      refine Tr.sipush (pc := 180) d_X12_tick_180 rfl (by decide) ?_
                      refine Tr.iload (pc := 183) (i := 4) d_X12_tick_183 rfl ?_
                      refine Tr.imul (pc := 185) d_X12_tick_185 ?_
                      refine Tr.tp (2100 * p131_4) ((w32_id (by omega)).trans (by omega)) ?_
                      refine Tr.aload_n (pc := 186) (i := 0) d_X12_tick_186 rfl rfl ?_
                      refine Tr.getf (pc := 187) d_X12_tick_187 f_12_201 (by decide) (by decide) (ty_120 hS.1.1) ?_
                      refine Tr.tp g120_62 ((Wr.b w168 rfl).trans ((St.kp h148 (by decide) (by decide) (by decide)).trans k131_120_62)) ?_
                      refine Tr.iadd (pc := 190) d_X12_tick_190 ?_
                      refine Tr.tp (g120_62 + 2100 * p131_4) ((w32_id (by omega)).trans (by omega)) ?_
                      refine Tr.iload (pc := 191) (i := 5) d_X12_tick_191 rfl ?_
                      refine Tr.iastS (pc := 193) (P := St Tb0 ws_X12_tick_120 as_X12_tick_120 M0) d_X12_tick_193 (ty_163 hS.1.1) (by omega) (by omega) (sa_163 hS (by decide) (by omega) (Tb0.of hS.1.2.2.2.2 (fun _ => rd_wb _ rfl) (rd_wb _ rfl))) (fun M193 hS w193 => ?_)
                      refine Tr.aload_n (pc := 194) (i := 0) d_X12_tick_194 rfl rfl ?_
                      refine Tr.getf (pc := 195) d_X12_tick_195 f_12_234 (by decide) (by decide) (ty_120 hS.1.1) ?_
                      refine Tr.tp 164 (fx_120_73 hS.1.1) ?_
                      refine Tr.sipush (pc := 198) d_X12_tick_198 rfl (by decide) ?_
                      refine Tr.iload (pc := 201) (i := 4) d_X12_tick_201 rfl ?_
                      refine Tr.imul (pc := 203) d_X12_tick_203 ?_
                      refine Tr.tp (2100 * p131_4) ((w32_id (by omega)).trans (by omega)) ?_
                      refine Tr.aload_n (pc := 204) (i := 0) d_X12_tick_204 rfl rfl ?_
                      refine Tr.getf (pc := 205) d_X12_tick_205 f_12_201 (by decide) (by decide) (ty_120 hS.1.1) ?_
                      refine Tr.tp g120_62 ((Wr.b w193 rfl).trans ((Wr.b w168 rfl).trans ((St.kp h148 (by decide) (by decide) (by decide)).trans k131_120_62))) ?_
                      refine Tr.iadd (pc := 208) d_X12_tick_208 ?_
                      refine Tr.tp (g120_62 + 2100 * p131_4) ((w32_id (by omega)).trans (by omega)) ?_
                      refine Tr.iload (pc := 209) (i := 5) d_X12_tick_209 rfl ?_
                      refine Tr.iconst (pc := 211) d_X12_tick_211 (by decide) ?_
                      have J226 : ∀ (M : Mem) (q226_2 : Int), St Tb0 ws_X12_tick_120 as_X12_tick_120 M0 M → ((-1) ≤ q226_2 ∧ q226_2 ≤ 59) → rd M 120 59 = g120_59 → rd M 120 61 = g120_61 → rd M 120 62 = g120_62 → rd M 120 68 = u119_120_68 → rd M 120 70 = r170 → rd M 122 0 = r37 → rd M 126 0 = g126_0 → rd M 156 p131_4 = th156 → rd M 158 p131_4 = th158 → rd M 161 (4 * p131_4 + r148) = r167 → rd M 163 (g120_62 + 2100 * p131_4) = r148 → Tr l K 3 mX12_tick 226 [(0, (2, 120)), (1, (0, a1)), (2, (1, p43_2)), (4, (0, p131_4)), (5, (0, r148))] [(0, q226_2), (0, (g120_62 + 2100 * p131_4)), (2, 164)] M (q_X12_tick_120 a1 M0) := by
                        intro M q226_2 hS bq226_2 k226_120_59 k226_120_61 k226_120_62 k226_120_68 k226_120_70 k226_122_0 k226_126_0 k226_156_p131_410 k226_158_p131_410 k226_161_p131_44r14810 k226_163_g120_621p131_421000
                        refine Tr.iastS (pc := 226) (P := St Tb0 ws_X12_tick_120 as_X12_tick_120 M0) d_X12_tick_226 (ty_164 hS.1.1) (by omega) (by omega) (sa_164 hS (by decide) (by omega) (Tb0.of hS.1.2.2.2.2 (fun _ => rd_wb _ rfl) (rd_wb _ rfl))) (fun M226 hS w226 => ?_)
                        refine Tr.aload_n (pc := 227) (i := 0) d_X12_tick_227 rfl rfl ?_
                        refine Tr.getf (pc := 228) d_X12_tick_228 f_12_237 (by decide) (by decide) (ty_120 hS.1.1) ?_
                        refine Tr.tp 165 (fx_120_74 hS.1.1) ?_
                        refine Tr.sipush (pc := 231) d_X12_tick_231 rfl (by decide) ?_
                        refine Tr.iload (pc := 234) (i := 4) d_X12_tick_234 rfl ?_
                        refine Tr.imul (pc := 236) d_X12_tick_236 ?_
                        refine Tr.tp (2100 * p131_4) ((w32_id (by omega)).trans (by omega)) ?_
                        refine Tr.aload_n (pc := 237) (i := 0) d_X12_tick_237 rfl rfl ?_
                        refine Tr.getf (pc := 238) d_X12_tick_238 f_12_201 (by decide) (by decide) (ty_120 hS.1.1) ?_
                        refine Tr.tp g120_62 ((Wr.b w226 rfl).trans k226_120_62) ?_
                        refine Tr.iadd (pc := 241) d_X12_tick_241 ?_
                        refine Tr.tp (g120_62 + 2100 * p131_4) ((w32_id (by omega)).trans (by omega)) ?_
                        refine Tr.aload_n (pc := 242) (i := 0) d_X12_tick_242 rfl rfl ?_
                        refine Tr.getf (pc := 243) d_X12_tick_243 f_12_177 (by decide) (by decide) (ty_120 hS.1.1) ?_
                        refine Tr.tp 156 (fx_120_54 hS.1.1) ?_
                        refine Tr.iload (pc := 246) (i := 4) d_X12_tick_246 rfl ?_
                        refine Tr.zald (pc := 248) d_X12_tick_248 (ty_156 hS.1.1) (by omega) (by omega) ?_
                        refine Tr.tp th156 ((Wr.b w226 rfl).trans k226_156_p131_410) ?_
                        have J263 : ∀ (M : Mem) (q263_2 : Int), St Tb0 ws_X12_tick_120 as_X12_tick_120 M0 M → ((-1) ≤ q263_2 ∧ q263_2 ≤ 59) → rd M 120 59 = g120_59 → rd M 120 61 = g120_61 → rd M 120 62 = g120_62 → rd M 120 68 = u119_120_68 → rd M 120 70 = r170 → rd M 122 0 = r37 → rd M 126 0 = g126_0 → rd M 156 p131_4 = th156 → rd M 158 p131_4 = th158 → rd M 161 (4 * p131_4 + r148) = r167 → rd M 163 (g120_62 + 2100 * p131_4) = r148 → rd M 164 (g120_62 + 2100 * p131_4) = q226_2 → Tr l K 3 mX12_tick 263 [(0, (2, 120)), (1, (0, a1)), (2, (1, p43_2)), (4, (0, p131_4)), (5, (0, r148))] [(0, q263_2), (0, (g120_62 + 2100 * p131_4)), (2, 165)] M (q_X12_tick_120 a1 M0) := by
                          intro M q263_2 hS bq263_2 k263_120_59 k263_120_61 k263_120_62 k263_120_68 k263_120_70 k263_122_0 k263_126_0 k263_156_p131_410 k263_158_p131_410 k263_161_p131_44r14810 k263_163_g120_621p131_421000 k263_164_g120_621p131_421000
                          refine Tr.iastS (pc := 263) (P := St Tb0 ws_X12_tick_120 as_X12_tick_120 M0) d_X12_tick_263 (ty_165 hS.1.1) (by omega) (by omega) (sa_165 hS (by decide) (by omega) (Tb0.of hS.1.2.2.2.2 (fun _ => rd_wb _ rfl) (rd_wb _ rfl))) (fun M263 hS w263 => ?_)
                          refine Tr.pick [0, 1, 2, 3, 4] (ls2 := [(0, (2, 120)), (1, (0, a1)), (2, (1, p43_2)), (4, (0, p131_4)), (5, (0, r148))]) rfl ?_
                          exact J264 _ hS ((Wr.b w263 rfl).trans k263_120_59) ((Wr.b w263 rfl).trans k263_120_61) ((Wr.b w263 rfl).trans k263_120_62) ((Wr.b w263 rfl).trans k263_120_68) ((Wr.b w263 rfl).trans k263_120_70) ((Wr.b w263 rfl).trans k263_122_0) ((Wr.b w263 rfl).trans k263_126_0) ((Wr.b w263 rfl).trans k263_156_p131_410) ((Wr.b w263 rfl).trans k263_158_p131_410) ((Wr.b w263 rfl).trans k263_161_p131_44r14810)
                        refine Tr.if_eq (pc := 249) (tgt := 262) d_X12_tick_249 rfl (fun c249 => ?_) (fun c249 => ?_)
                        · refine Tr.iconst (pc := 262) d_X12_tick_262 (by decide) ?_
                          refine Tr.pick [0, 1, 2, 3, 4] (ls2 := [(0, (2, 120)), (1, (0, a1)), (2, (1, p43_2)), (4, (0, p131_4)), (5, (0, r148))]) rfl ?_
                          exact J263 _ _ hS (by omega) ((Wr.b w226 rfl).trans k226_120_59) ((Wr.b w226 rfl).trans k226_120_61) ((Wr.b w226 rfl).trans k226_120_62) ((Wr.b w226 rfl).trans k226_120_68) ((Wr.b w226 rfl).trans k226_120_70) ((Wr.b w226 rfl).trans k226_122_0) ((Wr.b w226 rfl).trans k226_126_0) ((Wr.b w226 rfl).trans k226_156_p131_410) ((Wr.b w226 rfl).trans k226_158_p131_410) ((Wr.b w226 rfl).trans k226_161_p131_44r14810) ((Wr.b w226 rfl).trans k226_163_g120_621p131_421000) w226.1
                        · refine Tr.aload_n (pc := 252) (i := 0) d_X12_tick_252 rfl rfl ?_
                          refine Tr.getf (pc := 253) d_X12_tick_253 f_12_180 (by decide) (by decide) (ty_120 hS.1.1) ?_
                          refine Tr.tp 157 (fx_120_55 hS.1.1) ?_
                          refine Tr.iload (pc := 256) (i := 4) d_X12_tick_256 rfl ?_
                          refine Tr.iald (pc := 258) d_X12_tick_258 (ty_157 hS.1.1) (by omega) (by omega) ?_
                          refine Tr.gen (P := fun v => (-1) ≤ v ∧ v ≤ 59) (ar_157 hS.1.2.1 _) (fun r258 er258 br258 => ?_)
                          refine Tr.goto (pc := 259) (tgt := 263) d_X12_tick_259 rfl ?_
                          refine Tr.pick [0, 1, 2, 3, 4] (ls2 := [(0, (2, 120)), (1, (0, a1)), (2, (1, p43_2)), (4, (0, p131_4)), (5, (0, r148))]) rfl ?_
                          exact J263 _ _ hS (by omega) ((Wr.b w226 rfl).trans k226_120_59) ((Wr.b w226 rfl).trans k226_120_61) ((Wr.b w226 rfl).trans k226_120_62) ((Wr.b w226 rfl).trans k226_120_68) ((Wr.b w226 rfl).trans k226_120_70) ((Wr.b w226 rfl).trans k226_122_0) ((Wr.b w226 rfl).trans k226_126_0) ((Wr.b w226 rfl).trans k226_156_p131_410) ((Wr.b w226 rfl).trans k226_158_p131_410) ((Wr.b w226 rfl).trans k226_161_p131_44r14810) ((Wr.b w226 rfl).trans k226_163_g120_621p131_421000) w226.1
                      refine Tr.icmp_ne (pc := 212) (tgt := 225) d_X12_tick_212 rfl (fun c212 => ?_) (fun c212 => ?_)
                      · refine Tr.iload_n (pc := 225) (i := 1) d_X12_tick_225 rfl rfl ?_
                        refine Tr.pick [1, 2, 3, 4, 0] (ls2 := [(0, (2, 120)), (1, (0, a1)), (2, (1, p43_2)), (4, (0, p131_4)), (5, (0, r148))]) rfl ?_
                        exact J226 _ _ hS (by omega) ((Wr.b w193 rfl).trans ((Wr.b w168 rfl).trans ((St.kp h148 (by decide) (by decide) (by decide)).trans k131_120_59))) ((Wr.b w193 rfl).trans ((Wr.b w168 rfl).trans ((St.kp h148 (by decide) (by decide) (by decide)).trans k131_120_61))) ((Wr.b w193 rfl).trans ((Wr.b w168 rfl).trans ((St.kp h148 (by decide) (by decide) (by decide)).trans k131_120_62))) ((Wr.b w193 rfl).trans ((Wr.b w168 rfl).trans ((St.kp h148 (by decide) (by decide) (by decide)).trans k131_120_68))) ((Wr.b w193 rfl).trans er170) ((Wr.b w193 rfl).trans ((Wr.b w168 rfl).trans ((St.kp h148 (by decide) (by decide) (by decide)).trans k131_122_0))) ((Wr.b w193 rfl).trans ((Wr.b w168 rfl).trans ((St.kp h148 (by decide) (by decide) (by decide)).trans k131_126_0))) ((Wr.b w193 rfl).trans ((Wr.b w168 rfl).trans ((St.ka h148 (by decide) (by decide) (by decide)).trans eth156))) ((Wr.b w193 rfl).trans ((Wr.b w168 rfl).trans ((St.ka h148 (by decide) (by decide) (by decide)).trans eth158))) ((Wr.b w193 rfl).trans w168.1) w193.1
                      · refine Tr.aload_n (pc := 215) (i := 0) d_X12_tick_215 rfl rfl ?_
                        refine Tr.getf (pc := 216) d_X12_tick_216 f_12_186 (by decide) (by decide) (ty_120 hS.1.1) ?_
                        refine Tr.tp 159 (fx_120_57 hS.1.1) ?_
                        refine Tr.iload (pc := 219) (i := 4) d_X12_tick_219 rfl ?_
                        refine Tr.iald (pc := 221) d_X12_tick_221 (ty_159 hS.1.1) (by omega) (by omega) ?_
                        refine Tr.gen (P := fun v => (-1) ≤ v ∧ v ≤ 59) (ar_159 hS.1.2.1 _) (fun r221 er221 br221 => ?_)
                        refine Tr.goto (pc := 222) (tgt := 226) d_X12_tick_222 rfl ?_
                        refine Tr.pick [1, 2, 3, 4, 0] (ls2 := [(0, (2, 120)), (1, (0, a1)), (2, (1, p43_2)), (4, (0, p131_4)), (5, (0, r148))]) rfl ?_
                        exact J226 _ _ hS (by omega) ((Wr.b w193 rfl).trans ((Wr.b w168 rfl).trans ((St.kp h148 (by decide) (by decide) (by decide)).trans k131_120_59))) ((Wr.b w193 rfl).trans ((Wr.b w168 rfl).trans ((St.kp h148 (by decide) (by decide) (by decide)).trans k131_120_61))) ((Wr.b w193 rfl).trans ((Wr.b w168 rfl).trans ((St.kp h148 (by decide) (by decide) (by decide)).trans k131_120_62))) ((Wr.b w193 rfl).trans ((Wr.b w168 rfl).trans ((St.kp h148 (by decide) (by decide) (by decide)).trans k131_120_68))) ((Wr.b w193 rfl).trans er170) ((Wr.b w193 rfl).trans ((Wr.b w168 rfl).trans ((St.kp h148 (by decide) (by decide) (by decide)).trans k131_122_0))) ((Wr.b w193 rfl).trans ((Wr.b w168 rfl).trans ((St.kp h148 (by decide) (by decide) (by decide)).trans k131_126_0))) ((Wr.b w193 rfl).trans ((Wr.b w168 rfl).trans ((St.ka h148 (by decide) (by decide) (by decide)).trans eth156))) ((Wr.b w193 rfl).trans ((Wr.b w168 rfl).trans ((St.ka h148 (by decide) (by decide) (by decide)).trans eth158))) ((Wr.b w193 rfl).trans w168.1) w193.1
              refine Tr.pick [1, 2, 3, 0] (ls2 := [(0, (2, 120)), (1, (0, a1)), (2, (1, p43_2)), (4, (0, 0))]) rfl ?_
              exact J131 _ _ _ hS (by omega) k119_120_59 k119_120_61 k119_120_62 k119_120_68 k119_122_0 k119_126_0 (Nat.lt_succ_self _)
            · refine Tr.iconst (pc := 126) d_X12_tick_126 (by decide) ?_
              have kr_120_59 : rd M 120 59 = g120_59 := k119_120_59
              have kr_120_62 : rd M 120 62 = g120_62 := k119_120_62
              have kr_120_68 : rd M 120 68 = u119_120_68 := k119_120_68
              exact Tr.zret (pc := 127) d_X12_tick_127 rfl (by omega) ⟨hS, _, rfl, by omega, by omega, by omega, by omega, by omega⟩
          refine Tr.if_ne (pc := 83) (tgt := 119) d_X12_tick_83 rfl (fun c83 => ?_) (fun c83 => ?_)
          · refine Tr.pick [0, 1, 2] (ls2 := [(0, (2, 120)), (1, (0, a1)), (2, (1, p43_2))]) rfl ?_
            exact J119 _ _ hS (by omega) k43_120_59 k43_120_61 k43_120_62 k43_120_68 k43_122_0 k43_126_0 (by first | assumption | omega) (by first | assumption | omega)
          · refine Tr.iload_n (pc := 86) (i := 1) d_X12_tick_86 rfl rfl ?_
            refine Tr.iconst (pc := 87) d_X12_tick_87 (by decide) ?_
            refine Tr.icmp_eq (pc := 88) (tgt := 119) d_X12_tick_88 rfl (fun hc => absurd hc (by omega)) (fun _ => ?_)
            refine Tr.aload_n (pc := 91) (i := 0) d_X12_tick_91 rfl rfl ?_
            refine Tr.getf (pc := 92) d_X12_tick_92 f_12_207 (by decide) (by decide) (ty_120 hS.1.1) ?_
            refine Tr.gen (P := fun v => (-9223372036854775808) ≤ v ∧ v ≤ 9223372036854775807) (ir_120_64 hS.1.2.1) (fun r92 er92 br92 => ?_)
            refine Tr.lconst (pc := 95) (v := 0) d_X12_tick_95 rfl (by decide) ?_
            refine Tr.lcmp (pc := 96) d_X12_tick_96 ?_
            refine Tr.gen (P := fun v => (v = 1 ∧ 0 < r92) ∨ (v = 0 ∧ r92 = 0) ∨ (v = -1 ∧ r92 < 0)) (f_lcmp_c _ _) (fun r96 er96 br96 => ?_)
            refine Tr.if_lt (pc := 97) (tgt := 119) d_X12_tick_97 rfl (fun c97 => ?_) (fun c97 => ?_)
            · refine Tr.pick [0, 1, 2] (ls2 := [(0, (2, 120)), (1, (0, a1)), (2, (1, p43_2))]) rfl ?_
              exact J119 _ _ hS (by omega) k43_120_59 k43_120_61 k43_120_62 k43_120_68 k43_122_0 k43_126_0 (by first | assumption | omega) (by first | assumption | omega)
            · refine Tr.lload_n (pc := 100) (i := 2) d_X12_tick_100 rfl rfl ?_
              refine Tr.aload_n (pc := 101) (i := 0) d_X12_tick_101 rfl rfl ?_
              refine Tr.getf (pc := 102) d_X12_tick_102 f_12_207 (by decide) (by decide) (ty_120 hS.1.1) ?_
              refine Tr.tp r92 er92 ?_
              refine Tr.aload_n (pc := 105) (i := 0) d_X12_tick_105 rfl rfl ?_
              refine Tr.getf (pc := 106) d_X12_tick_106 f_12_204 (by decide) (by decide) (ty_120 hS.1.1) ?_
              refine Tr.gen (P := fun v => (-9223372036854775808) ≤ v ∧ v ≤ 9223372036854775807) (ir_120_63 hS.1.2.1) (fun r106 er106 br106 => ?_)
              refine Tr.lsub (pc := 109) d_X12_tick_109 ?_
              refine Tr.gen (P := fun v => (-9223372036854775808) ≤ v ∧ v ≤ 9223372036854775807) (w64_b _) (fun r109 er109 br109 => ?_)
              refine Tr.lcmp (pc := 110) d_X12_tick_110 ?_
              refine Tr.gen (P := fun v => (v = 1 ∧ r109 < p43_2) ∨ (v = 0 ∧ p43_2 = r109) ∨ (v = -1 ∧ p43_2 < r109)) (f_lcmp_c _ _) (fun r110 er110 br110 => ?_)
              refine Tr.if_le (pc := 111) (tgt := 119) d_X12_tick_111 rfl (fun c111 => ?_) (fun c111 => ?_)
              · refine Tr.pick [0, 1, 2] (ls2 := [(0, (2, 120)), (1, (0, a1)), (2, (1, p43_2))]) rfl ?_
                exact J119 _ _ hS (by omega) k43_120_59 k43_120_61 k43_120_62 k43_120_68 k43_122_0 k43_126_0 (by first | assumption | omega) (by first | assumption | omega)
              · refine Tr.aload_n (pc := 114) (i := 0) d_X12_tick_114 rfl rfl ?_
                refine Tr.iconst (pc := 115) d_X12_tick_115 (by decide) ?_
                refine Tr.putfS (pc := 116) (P := St Tb0 ws_X12_tick_120 as_X12_tick_120 M0) d_X12_tick_116 f_12_219 (by decide) (by decide) (ty_120 hS.1.1) (st_120_68 hS (by decide) (by omega) (Tb0.of hS.1.2.2.2.2 (fun _ => rd_wb _ rfl) (rd_wb _ rfl))) (fun M116 hS w116 => ?_)
                refine Tr.pick [0, 1, 2] (ls2 := [(0, (2, 120)), (1, (0, a1)), (2, (1, p43_2))]) rfl ?_
                exact J119 _ _ hS (by omega) ((Wr.b w116 rfl).trans k43_120_59) ((Wr.b w116 rfl).trans k43_120_61) ((Wr.b w116 rfl).trans k43_120_62) w116.1 ((Wr.b w116 rfl).trans k43_122_0) ((Wr.b w116 rfl).trans k43_126_0) (by first | assumption | omega) (by first | assumption | omega)
        · refine Tr.lload_n (pc := 57) (i := 2) d_X12_tick_57 rfl rfl ?_
          refine Tr.aload_n (pc := 58) (i := 0) d_X12_tick_58 rfl rfl ?_
          refine Tr.iload (pc := 59) (i := 4) d_X12_tick_59 rfl ?_
          refine Tr.aload_n (pc := 61) (i := 0) d_X12_tick_61 rfl rfl ?_
          refine Tr.iload (pc := 62) (i := 4) d_X12_tick_62 rfl ?_
          refine Tr.callV (pc := 64) (as := [_]) d_X12_tick_64 s_12_571 ok_X12_stateOf rfl rfl (Nat.le_of_ble_eq_true rfl) (Nat.le_of_ble_eq_true rfl) (by decide) (ty_120 hS.1.1) ?_
          refine Tr.imp (Tr.deep (by decide) (sp_X12_stateOf_120 hS.1.wk p43_4 (by omega))) ?_
          rintro M64 _ ⟨h64, r64, rfl, lr64, ur64, z64_0⟩
          have h64 := St.rn h64 (Tb0.of hS.1.2.2.2.2 (fun _ => (St.ka h64 (by decide) (by decide) (by decide))) (St.kp h64 (by decide) (by decide) (by decide)))
          have hS := St.tr hS h64 (by decide) (by decide)
          have ka64_120_59 : rd M64 120 59 = g120_59 := ((St.kp h64 (by decide) (by decide) (by decide)).trans k43_120_59)
          have ka64_120_61 : rd M64 120 61 = g120_61 := ((St.kp h64 (by decide) (by decide) (by decide)).trans k43_120_61)
          refine Tr.sc [(0, r64), (0, p43_4), (2, 120), (1, p43_2)] rfl ?_
          refine Tr.callV (pc := 67) (as := [_, _]) d_X12_tick_67 s_12_574 ok_X12_sips rfl rfl (Nat.le_of_ble_eq_true rfl) (Nat.le_of_ble_eq_true rfl) (by decide) (ty_120 hS.1.1) ?_
          refine Tr.imp (Tr.deep (by decide) (sp_X12_sips_120 hS.1.wk ((St.kp hS (by decide) (by decide) (by decide)).trans en_120_12) p43_4 (by omega) r64 (by omega) (Bk0.of hF_Bk0 (fun j => (St.ka hS (by decide) (by decide) (by decide))) (fun j => (St.ka hS (by decide) (by decide) (by decide))) (fun j => (St.ka hS (by decide) (by decide) (by decide))) (fun j => (St.ka hS (by decide) (by decide) (by decide))) (fun j => (St.ka hS (by decide) (by decide) (by decide))) (fun j => (St.ka hS (by decide) (by decide) (by decide))) (fun j => (St.ka hS (by decide) (by decide) (by decide))) (fun j => (St.ka hS (by decide) (by decide) (by decide))) (St.kp hS (by decide) (by decide) (by decide)) (St.kp hS (by decide) (by decide) (by decide)) (St.kp hS (by decide) (by decide) (by decide)) (St.kp hS (by decide) (by decide) (by decide))))) ?_
          rintro M67 _ ⟨h67, r67, rfl, lr67, ur67⟩
          have h67 := St.rn h67 (Tb0.of hS.1.2.2.2.2 (fun _ => (St.ka h67 (by decide) (by decide) (by decide))) (St.kp h67 (by decide) (by decide) (by decide)))
          have hS := St.tr hS h67 (by decide) (by decide)
          refine Tr.sc [(0, r67), (1, p43_2)] rfl ?_
          refine Tr.i2l (pc := 70) d_X12_tick_70 ?_
          refine Tr.ladd (pc := 71) d_X12_tick_71 ?_
          refine Tr.gen (P := fun v => (-9223372036854775808) ≤ v ∧ v ≤ 9223372036854775807) (w64_b _) (fun r71 er71 br71 => ?_)
          refine Tr.lstore_n (pc := 72) (i := 2) (ls2 := [(2, (1, r71)), (0, (2, 120)), (1, (0, a1)), (4, (0, p43_4))]) d_X12_tick_72 rfl (by decide) rfl ?_
          refine Tr.iincV (pc := 73) (n2 := (p43_4 + 1)) (ls2 := [(4, (0, (p43_4 + 1))), (2, (1, r71)), (0, (2, 120)), (1, (0, a1))]) d_X12_tick_73 rfl (by decide) ((w32_id (by omega)).trans (by omega)) rfl ?_
          refine Tr.goto (pc := 76) (tgt := 43) d_X12_tick_76 rfl ?_
          refine Tr.pick [2, 3, 1, 0] (ls2 := [(0, (2, 120)), (1, (0, a1)), (2, (1, r71)), (4, (0, (p43_4 + 1)))]) rfl ?_
          exact J43 _ _ _ hS (by omega) (by omega) ((St.kp h67 (by decide) (by decide) (by decide)).trans ((St.kp h64 (by decide) (by decide) (by decide)).trans k43_120_59)) ((St.kp h67 (by decide) (by decide) (by decide)).trans ((St.kp h64 (by decide) (by decide) (by decide)).trans k43_120_61)) ((St.kp h67 (by decide) (by decide) (by decide)).trans ((St.kp h64 (by decide) (by decide) (by decide)).trans k43_120_62)) ((St.kp h67 (by decide) (by decide) (by decide)).trans ((St.kp h64 (by decide) (by decide) (by decide)).trans k43_120_68)) ((St.kp h67 (by decide) (by decide) (by decide)).trans ((St.kp h64 (by decide) (by decide) (by decide)).trans k43_122_0)) ((St.kp h67 (by decide) (by decide) (by decide)).trans ((St.kp h64 (by decide) (by decide) (by decide)).trans k43_126_0)) (by omega)
    refine Tr.pick [2, 3, 1, 0] (ls2 := [(0, (2, 120)), (1, (0, a1)), (2, (1, r37)), (4, (0, 0))]) rfl ?_
    exact J43 _ _ _ _ hS (by omega) (by omega) k20_120_59 k20_120_61 k20_120_62 k20_120_68 er37 k20_126_0 (Nat.lt_succ_self _)
  refine Tr.icmp_eq (pc := 2) (tgt := 20) d_X12_tick_2 rfl (fun hc => absurd hc (by omega)) (fun _ => ?_)
  refine Tr.aload_n (pc := 5) (i := 0) d_X12_tick_5 rfl rfl ?_
  refine Tr.getf (pc := 6) d_X12_tick_6 f_12_201 (by decide) (by decide) (ty_120 hS.1.1) ?_
  refine Tr.tp g120_62 eg120_62 ?_
  refine Tr.sipush (pc := 9) d_X12_tick_9 rfl (by decide) ?_
  refine Tr.icmp_ne (pc := 12) (tgt := 20) d_X12_tick_12 rfl (fun c12 => ?_) (fun c12 => ?_)
  · refine Tr.pick [0, 1] (ls2 := [(0, (2, 120)), (1, (0, a1))]) rfl ?_
    exact J20 _ _ hS (by omega) eg120_59 eg120_61 eg120_62 eg120_68 eg126_0 (by first | assumption | omega) (by first | assumption | omega)
  · refine Tr.aload_n (pc := 15) (i := 0) d_X12_tick_15 rfl rfl ?_
    refine Tr.iconst (pc := 16) d_X12_tick_16 (by decide) ?_
    refine Tr.putfS (pc := 17) (P := St Tb0 ws_X12_tick_120 as_X12_tick_120 M0) d_X12_tick_17 f_12_219 (by decide) (by decide) (ty_120 hS.1.1) (st_120_68 hS (by decide) (by omega) (Tb0.of hS.1.2.2.2.2 (fun _ => rd_wb _ rfl) (rd_wb _ rfl))) (fun M17 hS w17 => ?_)
    refine Tr.pick [0, 1] (ls2 := [(0, (2, 120)), (1, (0, a1))]) rfl ?_
    exact J20 _ _ hS (by omega) ((Wr.b w17 rfl).trans eg120_59) ((Wr.b w17 rfl).trans eg120_61) ((Wr.b w17 rfl).trans eg120_62) w17.1 ((Wr.b w17 rfl).trans eg126_0) (by first | assumption | omega) (by first | assumption | omega)
