def ws_X12_where_120_w1 : List (Int × Int) := []
def as_X12_where_120_w1 : List Int := []
def q_X12_where_120_w1 (M0 M' : Mem) (r : Option PV) : Prop := St Tru ws_X12_where_120_w1 as_X12_where_120_w1 M0 M' ∧ ∃ v : Int, r = some (0, v) ∧ (-2147483648) ≤ v ∧ v ≤ 2147483647
set_option maxRecDepth 100000 in
set_option maxHeartbeats 4000000 in
theorem sp_X12_where_120_w1 {l : Launch} {K : EC} {M0 : Mem} (hI : In Tru M0) (en_120_12 : rd M0 120 12 = 1) (a1 : Int) (ha1 : (-2147483648) ≤ a1 ∧ a1 ≤ 2147483647)  : Tr l K 2 mX12_where 0 [(0, (2, 120)), (1, (0, a1))] [] M0 (q_X12_where_120_w1 M0) := by
  have hS : St Tru ws_X12_where_120_w1 as_X12_where_120_w1 M0 M0 := St.rf hI
  refine Tr.aload_n (pc := 0) (i := 0) d_X12_where_0 rfl rfl ?_
  refine Tr.getz (pc := 1) d_X12_where_1 f_12_327 (by decide) (ty_120 hS.1.1) ?_
  refine Tr.gen (P := fun v => 0 ≤ v ∧ v ≤ 1) (ir_120_104 hS.1.2.1) (fun r1 er1 br1 => ?_)
  refine Tr.if_eq (pc := 4) (tgt := 24) d_X12_where_4 rfl (fun c4 => ?_) (fun c4 => ?_)
  · refine Tr.iconst (pc := 24) d_X12_where_24 (by decide) ?_
    exact Tr.iret (pc := 25) d_X12_where_25 rfl ⟨hS, _, rfl, by omega, by omega⟩
  · refine Tr.aload_n (pc := 7) (i := 0) d_X12_where_7 rfl rfl ?_
    refine Tr.iload_n (pc := 8) (i := 1) d_X12_where_8 rfl rfl ?_
    refine Tr.callV (pc := 9) (as := [_]) d_X12_where_9 s_12_562 ok_X12_isInput rfl rfl (Nat.le_of_ble_eq_true rfl) (Nat.le_of_ble_eq_true rfl) (by decide) (ty_120 hS.1.1) ?_
    refine Tr.imp (Tr.deep (by decide) (sp_X12_isInput_120_w1 hS.1 ((St.kp hS (by decide) (by decide) (by decide)).trans en_120_12) a1 (by omega))) ?_
    rintro M9 _ ⟨h9, r9, rfl, lr9, ur9, z9_0⟩
    have hS := St.tr hS h9 (by decide) (by decide)
    obtain ⟨w9_127_1, ew9_127_1⟩ : ∃ v, rd M9 127 1 = v := ⟨_, rfl⟩
    have bw9_127_1 : 0 ≤ w9_127_1 ∧ w9_127_1 ≤ 3 := by rw [← ew9_127_1]; exact ir_127_1 hS.1.2.1
    have ka9_127_1 : rd M9 127 1 = w9_127_1 := ew9_127_1
    refine Tr.sc [(0, r9)] rfl ?_
    refine Tr.if_eq (pc := 12) (tgt := 24) d_X12_where_12 rfl (fun c12 => ?_) (fun c12 => ?_)
    · refine Tr.iconst (pc := 24) d_X12_where_24 (by decide) ?_
      exact Tr.iret (pc := 25) d_X12_where_25 rfl ⟨hS, _, rfl, by omega, by omega⟩
    · refine Tr.aload_n (pc := 15) (i := 0) d_X12_where_15 rfl rfl ?_
      refine Tr.getf (pc := 16) d_X12_where_16 f_12_330 (by decide) (by decide) (ty_120 hS.1.1) ?_
      refine Tr.tp 179 (fx_120_105 hS.1.1) ?_
      refine Tr.iload_n (pc := 19) (i := 1) d_X12_where_19 rfl rfl ?_
      refine Tr.iald (pc := 20) d_X12_where_20 (ty_179 hS.1.1) (by omega) (by omega) ?_
      refine Tr.gen (P := fun v => (-2147483648) ≤ v ∧ v ≤ 2147483647) (ar_179 hS.1.2.1 _) (fun r20 er20 br20 => ?_)
      refine Tr.goto (pc := 21) (tgt := 25) d_X12_where_21 rfl ?_
      exact Tr.iret (pc := 25) d_X12_where_25 rfl ⟨hS, _, rfl, by omega, by omega⟩

def ws_X12_tick_120_w2 : List (Int × Int) := [(120, 62), (120, 63), (120, 68)]
def as_X12_tick_120_w2 : List Int := [158, 161, 162, 163, 164, 165]
def q_X12_tick_120_w2 (a1 : Int) (M0 M' : Mem) (r : Option PV) : Prop := St Tb1 ws_X12_tick_120_w2 as_X12_tick_120_w2 M0 M' ∧ ∃ v : Int, r = some (0, v) ∧ 0 ≤ v ∧ v ≤ 1 ∧ ((v = 1 ∧ rd M' 120 62 = rd M0 120 62 + 1 ∧ (a1 = -1 ∨ rd M' 120 62 ≤ 2000)) ∨ (v = 0 ∧ rd M' 120 62 = rd M0 120 62 ∧ 1 ≤ rd M' 120 68)) ∧ (a1 ≠ -1 ∨ rd M' 120 68 = rd M0 120 68) ∧ (rd M' 120 59 = rd M0 120 59)
set_option maxRecDepth 100000 in
set_option maxHeartbeats 4000000 in
theorem sp_X12_tick_120_w2 {l : Launch} {K : EC} {M0 : Mem} (hI : In Tb1 M0) (en_120_12 : rd M0 120 12 = 1) (a1 : Int) (ha1 : 0 ≤ a1 ∧ a1 ≤ 59)  (hq0 : rd M0 120 61 ≠ 2 ∨ rd M0 120 59 = -1) (hq1 : rd M0 120 62 ≤ 2000 ∨ (a1 = -1 ∧ rd M0 120 62 ≤ 2049)) (hF_Bk1 : Bk1 M0) : Tr l K 3 mX12_tick 0 [(0, (2, 120)), (1, (0, a1))] [] M0 (q_X12_tick_120_w2 a1 M0) := by
  have hS : St Tb1 ws_X12_tick_120_w2 as_X12_tick_120_w2 M0 M0 := St.rf hI
  obtain ⟨g120_62, eg120_62⟩ : ∃ v, rd M0 120 62 = v := ⟨_, rfl⟩
  have bg120_62 : 0 ≤ g120_62 ∧ g120_62 ≤ 2060 := by rw [← eg120_62]; exact ir_120_62 hI.2.1
  obtain ⟨g120_68, eg120_68⟩ : ∃ v, rd M0 120 68 = v := ⟨_, rfl⟩
  have bg120_68 : 0 ≤ g120_68 ∧ g120_68 ≤ 2 := by rw [← eg120_68]; exact ir_120_68 hI.2.1
  obtain ⟨g120_59, eg120_59⟩ : ∃ v, rd M0 120 59 = v := ⟨_, rfl⟩
  have bg120_59 : (-1) ≤ g120_59 ∧ g120_59 ≤ 5 := by rw [← eg120_59]; exact ir_120_59 hI.2.1
  obtain ⟨g126_1, eg126_1⟩ : ∃ v, rd M0 126 1 = v := ⟨_, rfl⟩
  have bg126_1 : 0 ≤ g126_1 ∧ g126_1 ≤ 6 := by rw [← eg126_1]; exact ir_126_1 hI.2.1
  obtain ⟨g120_61, eg120_61⟩ : ∃ v, rd M0 120 61 = v := ⟨_, rfl⟩
  have bg120_61 : 0 ≤ g120_61 ∧ g120_61 ≤ 3 := by rw [← eg120_61]; exact ir_120_61 hI.2.1
  refine Tr.iload_n (pc := 0) (i := 1) d_X12_tick_0 rfl rfl ?_
  refine Tr.iconst (pc := 1) d_X12_tick_1 (by decide) ?_
  have J20 : ∀ (M : Mem) (u20_120_68 : Int), St Tb1 ws_X12_tick_120_w2 as_X12_tick_120_w2 M0 M → (0 ≤ u20_120_68 ∧ u20_120_68 ≤ 2) → rd M 120 59 = g120_59 → rd M 120 61 = g120_61 → rd M 120 62 = g120_62 → rd M 120 68 = u20_120_68 → rd M 126 1 = g126_1 → (a1 = -1 ∨ g120_62 ≠ 2000 ∨ 1 ≤ u20_120_68) → (a1 ≠ -1 ∨ u20_120_68 = g120_68) → Tr l K 3 mX12_tick 20 [(0, (2, 120)), (1, (0, a1))] [] M (q_X12_tick_120_w2 a1 M0) := by
    intro M u20_120_68 hS bu20_120_68 k20_120_59 k20_120_61 k20_120_62 k20_120_68 k20_126_1 t20_0 t20_1
    refine Tr.iload_n (pc := 20) (i := 1) d_X12_tick_20 rfl rfl ?_
    refine Tr.iconst (pc := 21) d_X12_tick_21 (by decide) ?_
    refine Tr.icmp_ne (pc := 22) (tgt := 29) d_X12_tick_22 rfl (fun _ => ?_) (fun hc => absurd hc (by omega))
    refine Tr.aload_n (pc := 29) (i := 0) d_X12_tick_29 rfl rfl ?_
    refine Tr.getf (pc := 30) d_X12_tick_30 f_12_51 (by decide) (by decide) (ty_120 hS.1.1) ?_
    refine Tr.tp 122 (fx_120_13 hS.1.1) ?_
    refine Tr.aload_n (pc := 33) (i := 0) d_X12_tick_33 rfl rfl ?_
    refine Tr.getf (pc := 34) d_X12_tick_34 f_12_48 (by decide) (by decide) (ty_120 hS.1.1) ?_
    refine Tr.tp 1 ((St.kp hS (by decide) (by decide) (by decide)).trans en_120_12) ?_
    refine Tr.iald (pc := 37) d_X12_tick_37 (ty_122 hS.1.1) (by omega) (by omega) ?_
    refine Tr.gen (P := fun v => (-2147483648) ≤ v ∧ v ≤ 2147483647) (ir_122_1 hS.1.2.1) (fun r37 er37 br37 => ?_)
    refine Tr.i2l (pc := 38) d_X12_tick_38 ?_
    refine Tr.lstore_n (pc := 39) (i := 2) (ls2 := [(2, (1, r37)), (0, (2, 120)), (1, (0, a1))]) d_X12_tick_39 rfl (by decide) rfl ?_
    refine Tr.iconst (pc := 40) d_X12_tick_40 (by decide) ?_
    refine Tr.istore (pc := 41) (i := 4) (ls2 := [(4, (0, 0)), (2, (1, r37)), (0, (2, 120)), (1, (0, a1))]) d_X12_tick_41 (by decide) rfl ?_
    have J43 : ∀ (n43 : Nat) (M : Mem) (p43_2 p43_4 : Int), St Tb1 ws_X12_tick_120_w2 as_X12_tick_120_w2 M0 M → ((-9223372036854775808) ≤ p43_2 ∧ p43_2 ≤ 9223372036854775807) → (0 ≤ p43_4 ∧ p43_4 ≤ 6) → rd M 120 59 = g120_59 → rd M 120 61 = g120_61 → rd M 120 62 = g120_62 → rd M 120 68 = u20_120_68 → rd M 122 1 = r37 → rd M 126 1 = g126_1 → (6 - p43_4).toNat < n43 → Tr l K 3 mX12_tick 43 [(0, (2, 120)), (1, (0, a1)), (2, (1, p43_2)), (4, (0, p43_4))] [] M (q_X12_tick_120_w2 a1 M0) := by
      intro n43
      induction n43 with
      | zero => intro M p43_2 p43_4 hS bp43_2 bp43_4 k43_120_59 k43_120_61 k43_120_62 k43_120_68 k43_122_1 k43_126_1 hm43; exact absurd hm43 (Nat.not_lt_zero _)
      | succ n43 J43 =>
        intro M p43_2 p43_4 hS bp43_2 bp43_4 k43_120_59 k43_120_61 k43_120_62 k43_120_68 k43_122_1 k43_126_1 hm43
        refine Tr.iload (pc := 43) (i := 4) d_X12_tick_43 rfl ?_
        refine Tr.aload_n (pc := 45) (i := 0) d_X12_tick_45 rfl rfl ?_
        refine Tr.getf (pc := 46) d_X12_tick_46 f_12_63 (by decide) (by decide) (ty_120 hS.1.1) ?_
        refine Tr.tp 126 (fx_120_17 hS.1.1) ?_
        refine Tr.aload_n (pc := 49) (i := 0) d_X12_tick_49 rfl rfl ?_
        refine Tr.getf (pc := 50) d_X12_tick_50 f_12_48 (by decide) (by decide) (ty_120 hS.1.1) ?_
        refine Tr.tp 1 ((St.kp hS (by decide) (by decide) (by decide)).trans en_120_12) ?_
        refine Tr.iald (pc := 53) d_X12_tick_53 (ty_126 hS.1.1) (by omega) (by omega) ?_
        refine Tr.tp g126_1 k43_126_1 ?_
        refine Tr.icmp_ge (pc := 54) (tgt := 79) d_X12_tick_54 rfl (fun c54 => ?_) (fun c54 => ?_)
        · refine Tr.aload_n (pc := 79) (i := 0) d_X12_tick_79 rfl rfl ?_
          refine Tr.getf (pc := 80) d_X12_tick_80 f_12_219 (by decide) (by decide) (ty_120 hS.1.1) ?_
          refine Tr.tp u20_120_68 k43_120_68 ?_
          have J119 : ∀ (M : Mem) (u119_120_68 : Int), St Tb1 ws_X12_tick_120_w2 as_X12_tick_120_w2 M0 M → (0 ≤ u119_120_68 ∧ u119_120_68 ≤ 2) → rd M 120 59 = g120_59 → rd M 120 61 = g120_61 → rd M 120 62 = g120_62 → rd M 120 68 = u119_120_68 → rd M 122 1 = r37 → rd M 126 1 = g126_1 → (a1 = -1 ∨ g120_62 ≠ 2000 ∨ 1 ≤ u119_120_68) → (a1 ≠ -1 ∨ u119_120_68 = g120_68) → Tr l K 3 mX12_tick 119 [(0, (2, 120)), (1, (0, a1)), (2, (1, p43_2))] [] M (q_X12_tick_120_w2 a1 M0) := by
            intro M u119_120_68 hS bu119_120_68 k119_120_59 k119_120_61 k119_120_62 k119_120_68 k119_122_1 k119_126_1 t119_0 t119_1
            refine Tr.aload_n (pc := 119) (i := 0) d_X12_tick_119 rfl rfl ?_
            refine Tr.getf (pc := 120) d_X12_tick_120 f_12_219 (by decide) (by decide) (ty_120 hS.1.1) ?_
            refine Tr.tp u119_120_68 k119_120_68 ?_
            refine Tr.if_le (pc := 123) (tgt := 128) d_X12_tick_123 rfl (fun c123 => ?_) (fun c123 => ?_)
            · refine Tr.iconst (pc := 128) d_X12_tick_128 (by decide) ?_
              refine Tr.istore (pc := 129) (i := 4) (ls2 := [(4, (0, 0)), (0, (2, 120)), (1, (0, a1)), (2, (1, p43_2))]) d_X12_tick_129 (by decide) rfl ?_
              have J131 : ∀ (n131 : Nat) (M : Mem) (p131_4 : Int), St Tb1 ws_X12_tick_120_w2 as_X12_tick_120_w2 M0 M → (0 ≤ p131_4 ∧ p131_4 ≤ 6) → rd M 120 59 = g120_59 → rd M 120 61 = g120_61 → rd M 120 62 = g120_62 → rd M 120 68 = u119_120_68 → rd M 122 1 = r37 → rd M 126 1 = g126_1 → (6 - p131_4).toNat < n131 → Tr l K 3 mX12_tick 131 [(0, (2, 120)), (1, (0, a1)), (2, (1, p43_2)), (4, (0, p131_4))] [] M (q_X12_tick_120_w2 a1 M0) := by
                intro n131
                induction n131 with
                | zero => intro M p131_4 hS bp131_4 k131_120_59 k131_120_61 k131_120_62 k131_120_68 k131_122_1 k131_126_1 hm131; exact absurd hm131 (Nat.not_lt_zero _)
                | succ n131 J131 =>
                  intro M p131_4 hS bp131_4 k131_120_59 k131_120_61 k131_120_62 k131_120_68 k131_122_1 k131_126_1 hm131
                  refine Tr.iload (pc := 131) (i := 4) d_X12_tick_131 rfl ?_
                  refine Tr.aload_n (pc := 133) (i := 0) d_X12_tick_133 rfl rfl ?_
                  refine Tr.getf (pc := 134) d_X12_tick_134 f_12_63 (by decide) (by decide) (ty_120 hS.1.1) ?_
                  refine Tr.tp 126 (fx_120_17 hS.1.1) ?_
                  refine Tr.aload_n (pc := 137) (i := 0) d_X12_tick_137 rfl rfl ?_
                  refine Tr.getf (pc := 138) d_X12_tick_138 f_12_48 (by decide) (by decide) (ty_120 hS.1.1) ?_
                  refine Tr.tp 1 ((St.kp hS (by decide) (by decide) (by decide)).trans en_120_12) ?_
                  refine Tr.iald (pc := 141) d_X12_tick_141 (ty_126 hS.1.1) (by omega) (by omega) ?_
                  refine Tr.tp g126_1 k131_126_1 ?_
                  refine Tr.icmp_ge (pc := 142) (tgt := 297) d_X12_tick_142 rfl (fun c142 => ?_) (fun c142 => ?_)
                  · refine Tr.aload_n (pc := 297) (i := 0) d_X12_tick_297 rfl rfl ?_
                    refine Tr.getz (pc := 298) d_X12_tick_298 f_12_225 (by decide) (ty_120 hS.1.1) ?_
                    refine Tr.gen (P := fun v => 0 ≤ v ∧ v ≤ 1) (ir_120_70 hS.1.2.1) (fun r298 er298 br298 => ?_)
                    have J314 : ∀ (M : Mem), St Tb1 ws_X12_tick_120_w2 as_X12_tick_120_w2 M0 M → rd M 120 59 = g120_59 → rd M 120 61 = g120_61 → rd M 120 62 = g120_62 → rd M 120 68 = u119_120_68 → rd M 120 70 = r298 → rd M 122 1 = r37 → rd M 126 1 = g126_1 → Tr l K 3 mX12_tick 314 [(0, (2, 120)), (2, (1, p43_2))] [] M (q_X12_tick_120_w2 a1 M0) := by
                      intro M  hS  k314_120_59 k314_120_61 k314_120_62 k314_120_68 k314_120_70 k314_122_1 k314_126_1
                      refine Tr.aload_n (pc := 314) (i := 0) d_X12_tick_314 rfl rfl ?_
                      refine Tr.dup (pc := 315) d_X12_tick_315 ne21 ?_
                      refine Tr.getf (pc := 316) d_X12_tick_316 f_12_204 (by decide) (by decide) (ty_120 hS.1.1) ?_
                      refine Tr.gen (P := fun v => (-9223372036854775808) ≤ v ∧ v ≤ 9223372036854775807) (ir_120_63 hS.1.2.1) (fun r316 er316 br316 => ?_)
                      refine Tr.lload_n (pc := 319) (i := 2) d_X12_tick_319 rfl rfl ?_
                      refine Tr.ladd (pc := 320) d_X12_tick_320 ?_
                      refine Tr.gen (P := fun v => (-9223372036854775808) ≤ v ∧ v ≤ 9223372036854775807) (w64_b _) (fun r320 er320 br320 => ?_)
                      refine Tr.putfS (pc := 321) (P := St Tb1 ws_X12_tick_120_w2 as_X12_tick_120_w2 M0) d_X12_tick_321 f_12_204 (by decide) (by decide) (ty_120 hS.1.1) (st_120_63 hS (by decide) (by omega) (Tb1.of hS.1.2.2.2.2 (fun _ => rd_wb _ rfl) (rd_wb _ rfl))) (fun M321 hS w321 => ?_)
                      refine Tr.aload_n (pc := 324) (i := 0) d_X12_tick_324 rfl rfl ?_
                      refine Tr.dup (pc := 325) d_X12_tick_325 ne21 ?_
                      refine Tr.getf (pc := 326) d_X12_tick_326 f_12_201 (by decide) (by decide) (ty_120 hS.1.1) ?_
                      refine Tr.tp g120_62 ((Wr.b w321 rfl).trans k314_120_62) ?_
                      refine Tr.iconst (pc := 329) d_X12_tick_329 (by decide) ?_
                      refine Tr.iadd (pc := 330) d_X12_tick_330 ?_
                      refine Tr.tp (g120_62 + 1) ((w32_id (by omega)).trans (by omega)) ?_
                      refine Tr.putfS (pc := 331) (P := St Tb1 ws_X12_tick_120_w2 as_X12_tick_120_w2 M0) d_X12_tick_331 f_12_201 (by decide) (by decide) (ty_120 hS.1.1) (st_120_62 hS (by decide) (by omega) (Tb1.of hS.1.2.2.2.2 (fun _ => rd_wb _ rfl) (rd_wb _ rfl))) (fun M331 hS w331 => ?_)
                      refine Tr.iconst (pc := 334) d_X12_tick_334 (by decide) ?_
                      have kr_120_59 : rd M331 120 59 = g120_59 := ((Wr.b w331 rfl).trans ((Wr.b w321 rfl).trans k314_120_59))
                      have kr_120_62 : rd M331 120 62 = (g120_62 + 1) := w331.1
                      have kr_120_68 : rd M331 120 68 = u119_120_68 := ((Wr.b w331 rfl).trans ((Wr.b w321 rfl).trans k314_120_68))
                      exact Tr.zret (pc := 335) d_X12_tick_335 rfl (by omega) ⟨hS, _, rfl, by omega, by omega, by omega, by omega, by omega⟩
                    refine Tr.if_eq (pc := 301) (tgt := 314) d_X12_tick_301 rfl (fun c301 => ?_) (fun c301 => ?_)
                    · refine Tr.pick [0, 2] (ls2 := [(0, (2, 120)), (2, (1, p43_2))]) rfl ?_
                      exact J314 _ hS k131_120_59 k131_120_61 k131_120_62 k131_120_68 er298 k131_122_1 k131_126_1
                    · refine Tr.aload_n (pc := 304) (i := 0) d_X12_tick_304 rfl rfl ?_
                      refine Tr.getf (pc := 305) d_X12_tick_305 f_12_228 (by decide) (by decide) (ty_120 hS.1.1) ?_
                      refine Tr.tp 162 (fx_120_71 hS.1.1) ?_
                      refine Tr.aload_n (pc := 308) (i := 0) d_X12_tick_308 rfl rfl ?_
                      refine Tr.getf (pc := 309) d_X12_tick_309 f_12_201 (by decide) (by decide) (ty_120 hS.1.1) ?_
                      refine Tr.tp g120_62 k131_120_62 ?_
                      refine Tr.iload_n (pc := 312) (i := 1) d_X12_tick_312 rfl rfl ?_
                      refine Tr.iastS (pc := 313) (P := St Tb1 ws_X12_tick_120_w2 as_X12_tick_120_w2 M0) d_X12_tick_313 (ty_162 hS.1.1) (by omega) (by omega) (sa_162 hS (by decide) (by omega) (Tb1.of hS.1.2.2.2.2 (fun _ => rd_wb _ rfl) (rd_wb _ rfl))) (fun M313 hS w313 => ?_)
                      refine Tr.pick [0, 2] (ls2 := [(0, (2, 120)), (2, (1, p43_2))]) rfl ?_
                      exact J314 _ hS ((Wr.b w313 rfl).trans k131_120_59) ((Wr.b w313 rfl).trans k131_120_61) ((Wr.b w313 rfl).trans k131_120_62) ((Wr.b w313 rfl).trans k131_120_68) ((Wr.b w313 rfl).trans er298) ((Wr.b w313 rfl).trans k131_122_1) ((Wr.b w313 rfl).trans k131_126_1)
                  · refine Tr.aload_n (pc := 145) (i := 0) d_X12_tick_145 rfl rfl ?_
                    refine Tr.iload (pc := 146) (i := 4) d_X12_tick_146 rfl ?_
                    refine Tr.callV (pc := 148) (as := [_]) d_X12_tick_148 s_12_571 ok_X12_stateOf rfl rfl (Nat.le_of_ble_eq_true rfl) (Nat.le_of_ble_eq_true rfl) (by decide) (ty_120 hS.1.1) ?_
                    refine Tr.imp (Tr.deep (by decide) (sp_X12_stateOf_120 hS.1.wk p131_4 (by omega))) ?_
                    rintro M148 _ ⟨h148, r148, rfl, lr148, ur148, z148_0⟩
                    have h148 := St.rn h148 (Tb1.of hS.1.2.2.2.2 (fun _ => (St.ka h148 (by decide) (by decide) (by decide))) (St.kp h148 (by decide) (by decide) (by decide)))
                    have hS := St.tr hS h148 (by decide) (by decide)
                    have ka148_120_59 : rd M148 120 59 = g120_59 := ((St.kp h148 (by decide) (by decide) (by decide)).trans k131_120_59)
                    have ka148_120_61 : rd M148 120 61 = g120_61 := ((St.kp h148 (by decide) (by decide) (by decide)).trans k131_120_61)
                    refine Tr.sc [(0, r148)] rfl ?_
                    obtain ⟨th156, eth156⟩ : ∃ v, rd M 156 p131_4 = v := ⟨_, rfl⟩
                    have bth156 : 0 ≤ th156 ∧ th156 ≤ 1 := by rw [← eth156, ← show rd M148 156 p131_4 = rd M 156 p131_4 from St.ka h148 (by decide) (by decide) (by decide)]; exact ar_156 hS.1.2.1 _
                    obtain ⟨th158, eth158⟩ : ∃ v, rd M 158 p131_4 = v := ⟨_, rfl⟩
                    have bth158 : (-2147483648) ≤ th158 ∧ th158 ≤ 2147483647 := by rw [← eth158, ← show rd M148 158 p131_4 = rd M 158 p131_4 from St.ka h148 (by decide) (by decide) (by decide)]; exact ar_158 hS.1.2.1 _
                    refine Tr.istore (pc := 151) (i := 5) (ls2 := [(5, (0, r148)), (0, (2, 120)), (1, (0, a1)), (2, (1, p43_2)), (4, (0, p131_4))]) d_X12_tick_151 (by decide) rfl ?_
                    refine Tr.aload_n (pc := 153) (i := 0) d_X12_tick_153 rfl rfl ?_
                    refine Tr.getf (pc := 154) d_X12_tick_154 f_12_222 (by decide) (by decide) (ty_120 hS.1.1) ?_
                    refine Tr.tp 161 (fx_120_69 hS.1.1) ?_
                    refine Tr.iconst (pc := 157) d_X12_tick_157 (by decide) ?_
                    refine Tr.iload (pc := 158) (i := 4) d_X12_tick_158 rfl ?_
                    refine Tr.imul (pc := 160) d_X12_tick_160 ?_
                    refine Tr.tp (4 * p131_4) ((w32_id (by omega)).trans (by omega)) ?_
                    refine Tr.iload (pc := 161) (i := 5) d_X12_tick_161 rfl ?_
                    refine Tr.iadd (pc := 163) d_X12_tick_163 ?_
                    refine Tr.tp (4 * p131_4 + r148) ((w32_id (by omega)).trans (by omega)) ?_
                    refine Tr.dup2 (pc := 164) d_X12_tick_164 ne01 ne21 ?_
                    refine Tr.iald (pc := 165) d_X12_tick_165 (ty_161 hS.1.1) (by omega) (by omega) ?_
                    refine Tr.gen (P := fun v => (-2147483648) ≤ v ∧ v ≤ 2147483647) (ar_161 hS.1.2.1 _) (fun r165 er165 br165 => ?_)
                    refine Tr.iconst (pc := 166) d_X12_tick_166 (by decide) ?_
                    refine Tr.iadd (pc := 167) d_X12_tick_167 ?_
                    refine Tr.gen (P := fun v => (-2147483648) ≤ v ∧ v ≤ 2147483647) (w32_b _) (fun r167 er167 br167 => ?_)
                    refine Tr.iastS (pc := 168) (P := St Tb1 ws_X12_tick_120_w2 as_X12_tick_120_w2 M0) d_X12_tick_168 (ty_161 hS.1.1) (by omega) (by omega) (sa_161 hS (by decide) (by omega) (Tb1.of hS.1.2.2.2.2 (fun _ => rd_wb _ rfl) (rd_wb _ rfl))) (fun M168 hS w168 => ?_)
                    refine Tr.aload_n (pc := 169) (i := 0) d_X12_tick_169 rfl rfl ?_
                    refine Tr.getz (pc := 170) d_X12_tick_170 f_12_225 (by decide) (ty_120 hS.1.1) ?_
                    refine Tr.gen (P := fun v => 0 ≤ v ∧ v ≤ 1) (ir_120_70 hS.1.2.1) (fun r170 er170 br170 => ?_)
                    have J264 : ∀ (M : Mem), St Tb1 ws_X12_tick_120_w2 as_X12_tick_120_w2 M0 M → rd M 120 59 = g120_59 → rd M 120 61 = g120_61 → rd M 120 62 = g120_62 → rd M 120 68 = u119_120_68 → rd M 120 70 = r170 → rd M 122 1 = r37 → rd M 126 1 = g126_1 → rd M 156 p131_4 = th156 → rd M 158 p131_4 = th158 → rd M 161 (4 * p131_4 + r148) = r167 → Tr l K 3 mX12_tick 264 [(0, (2, 120)), (1, (0, a1)), (2, (1, p43_2)), (4, (0, p131_4)), (5, (0, r148))] [] M (q_X12_tick_120_w2 a1 M0) := by
                      intro M  hS  k264_120_59 k264_120_61 k264_120_62 k264_120_68 k264_120_70 k264_122_1 k264_126_1 k264_156_p131_410 k264_158_p131_410 k264_161_p131_44r14810
                      refine Tr.iload (pc := 264) (i := 5) d_X12_tick_264 rfl ?_
                      refine Tr.iconst (pc := 266) d_X12_tick_266 (by decide) ?_
                      have J291 : ∀ (M : Mem), St Tb1 ws_X12_tick_120_w2 as_X12_tick_120_w2 M0 M → rd M 120 59 = g120_59 → rd M 120 61 = g120_61 → rd M 120 62 = g120_62 → rd M 120 68 = u119_120_68 → rd M 120 70 = r170 → rd M 122 1 = r37 → rd M 126 1 = g126_1 → rd M 156 p131_4 = th156 → rd M 161 (4 * p131_4 + r148) = r167 → Tr l K 3 mX12_tick 291 [(0, (2, 120)), (1, (0, a1)), (2, (1, p43_2)), (4, (0, p131_4))] [] M (q_X12_tick_120_w2 a1 M0) := by
                        intro M  hS  k291_120_59 k291_120_61 k291_120_62 k291_120_68 k291_120_70 k291_122_1 k291_126_1 k291_156_p131_410 k291_161_p131_44r14810
                        refine Tr.iincV (pc := 291) (n2 := (p131_4 + 1)) (ls2 := [(4, (0, (p131_4 + 1))), (0, (2, 120)), (1, (0, a1)), (2, (1, p43_2))]) d_X12_tick_291 rfl (by decide) ((w32_id (by omega)).trans (by omega)) rfl ?_
                        refine Tr.goto (pc := 294) (tgt := 131) d_X12_tick_294 rfl ?_
                        refine Tr.pick [1, 2, 3, 0] (ls2 := [(0, (2, 120)), (1, (0, a1)), (2, (1, p43_2)), (4, (0, (p131_4 + 1)))]) rfl ?_
                        exact J131 _ _ hS (by omega) k291_120_59 k291_120_61 k291_120_62 k291_120_68 k291_122_1 k291_126_1 (by omega)
                      refine Tr.icmp_ne (pc := 267) (tgt := 291) d_X12_tick_267 rfl (fun c267 => ?_) (fun c267 => ?_)
                      · refine Tr.pick [0, 1, 2, 3] (ls2 := [(0, (2, 120)), (1, (0, a1)), (2, (1, p43_2)), (4, (0, p131_4))]) rfl ?_
                        exact J291 _ hS k264_120_59 k264_120_61 k264_120_62 k264_120_68 k264_120_70 k264_122_1 k264_126_1 k264_156_p131_410 k264_161_p131_44r14810
                      · refine Tr.aload_n (pc := 270) (i := 0) d_X12_tick_270 rfl rfl ?_
                        refine Tr.getf (pc := 271) d_X12_tick_271 f_12_177 (by decide) (by decide) (ty_120 hS.1.1) ?_
                        refine Tr.tp 156 (fx_120_54 hS.1.1) ?_
                        refine Tr.iload (pc := 274) (i := 4) d_X12_tick_274 rfl ?_
                        refine Tr.zald (pc := 276) d_X12_tick_276 (ty_156 hS.1.1) (by omega) (by omega) ?_
                        refine Tr.tp th156 k264_156_p131_410 ?_
                        refine Tr.if_ne (pc := 277) (tgt := 291) d_X12_tick_277 rfl (fun c277 => ?_) (fun c277 => ?_)
                        · refine Tr.pick [0, 1, 2, 3] (ls2 := [(0, (2, 120)), (1, (0, a1)), (2, (1, p43_2)), (4, (0, p131_4))]) rfl ?_
                          exact J291 _ hS k264_120_59 k264_120_61 k264_120_62 k264_120_68 k264_120_70 k264_122_1 k264_126_1 k264_156_p131_410 k264_161_p131_44r14810
                        · refine Tr.aload_n (pc := 280) (i := 0) d_X12_tick_280 rfl rfl ?_
                          refine Tr.getf (pc := 281) d_X12_tick_281 f_12_183 (by decide) (by decide) (ty_120 hS.1.1) ?_
                          refine Tr.tp 158 (fx_120_56 hS.1.1) ?_
                          refine Tr.iload (pc := 284) (i := 4) d_X12_tick_284 rfl ?_
                          refine Tr.dup2 (pc := 286) d_X12_tick_286 ne01 ne21 ?_
                          refine Tr.iald (pc := 287) d_X12_tick_287 (ty_158 hS.1.1) (by omega) (by omega) ?_
                          refine Tr.tp th158 k264_158_p131_410 ?_
                          refine Tr.iconst (pc := 288) d_X12_tick_288 (by decide) ?_
                          refine Tr.isub (pc := 289) d_X12_tick_289 ?_
                          refine Tr.tp (th158 - 1) ((w32_id (by omega)).trans (by omega)) ?_
                          refine Tr.iastS (pc := 290) (P := St Tb1 ws_X12_tick_120_w2 as_X12_tick_120_w2 M0) d_X12_tick_290 (ty_158 hS.1.1) (by omega) (by omega) (sa_158 hS (by decide) (by omega) (Tb1_wr hS.1.2.2.2.2 (fun i0 i1 => by have h8 := hS.1.2.2.2.2 _ i0 i1; omega))) (fun M290 hS w290 => ?_)
                          refine Tr.pick [0, 1, 2, 3] (ls2 := [(0, (2, 120)), (1, (0, a1)), (2, (1, p43_2)), (4, (0, p131_4))]) rfl ?_
                          exact J291 _ hS ((Wr.b w290 rfl).trans k264_120_59) ((Wr.b w290 rfl).trans k264_120_61) ((Wr.b w290 rfl).trans k264_120_62) ((Wr.b w290 rfl).trans k264_120_68) ((Wr.b w290 rfl).trans k264_120_70) ((Wr.b w290 rfl).trans k264_122_1) ((Wr.b w290 rfl).trans k264_126_1) ((Wr.b w290 rfl).trans k264_156_p131_410) ((Wr.b w290 rfl).trans k264_161_p131_44r14810)
                    refine Tr.if_eq (pc := 173) (tgt := 264) d_X12_tick_173 rfl (fun c173 => ?_) (fun c173 => ?_)
                    · refine Tr.pick [1, 2, 3, 4, 0] (ls2 := [(0, (2, 120)), (1, (0, a1)), (2, (1, p43_2)), (4, (0, p131_4)), (5, (0, r148))]) rfl ?_
                      exact J264 _ hS ((Wr.b w168 rfl).trans ((St.kp h148 (by decide) (by decide) (by decide)).trans k131_120_59)) ((Wr.b w168 rfl).trans ((St.kp h148 (by decide) (by decide) (by decide)).trans k131_120_61)) ((Wr.b w168 rfl).trans ((St.kp h148 (by decide) (by decide) (by decide)).trans k131_120_62)) ((Wr.b w168 rfl).trans ((St.kp h148 (by decide) (by decide) (by decide)).trans k131_120_68)) er170 ((Wr.b w168 rfl).trans ((St.kp h148 (by decide) (by decide) (by decide)).trans k131_122_1)) ((Wr.b w168 rfl).trans ((St.kp h148 (by decide) (by decide) (by decide)).trans k131_126_1)) ((Wr.b w168 rfl).trans ((St.ka h148 (by decide) (by decide) (by decide)).trans eth156)) ((Wr.b w168 rfl).trans ((St.ka h148 (by decide) (by decide) (by decide)).trans eth158)) w168.1
                    · refine Tr.aload_n (pc := 176) (i := 0) d_X12_tick_176 rfl rfl ?_
                      refine Tr.getf (pc := 177) d_X12_tick_177 f_12_231 (by decide) (by decide) (ty_120 hS.1.1) ?_
                      refine Tr.tp 163 (fx_120_72 hS.1.1) ?_
                      refine Tr.sipush (pc := 180) d_X12_tick_180 rfl (by decide) ?_
                      refine Tr.iload (pc := 183) (i := 4) d_X12_tick_183 rfl ?_
                      refine Tr.imul (pc := 185) d_X12_tick_185 ?_
                      refine Tr.tp (2100 * p131_4) ((w32_id (by omega)).trans (by omega)) ?_
                      refine Tr.aload_n (pc := 186) (i := 0) d_X12_tick_186 rfl rfl ?_
                      refine Tr.getf (pc := 187) d_X12_tick_187 f_12_201 (by decide) (by decide) (ty_120 hS.1.1) ?_
                      refine Tr.tp g120_62 ((Wr.b w168 rfl).trans ((St.kp h148 (by decide) (by decide) (by decide)).trans k131_120_62)) ?_
                      refine Tr.iadd (pc := 190) d_X12_tick_190 ?_
                      refine Tr.tp (g120_62 + 2100 * p131_4) ((w32_id (by omega)).trans (by omega)) ?_
                      refine Tr.iload (pc := 191) (i := 5) d_X12_tick_191 rfl ?_
                      refine Tr.iastS (pc := 193) (P := St Tb1 ws_X12_tick_120_w2 as_X12_tick_120_w2 M0) d_X12_tick_193 (ty_163 hS.1.1) (by omega) (by omega) (sa_163 hS (by decide) (by omega) (Tb1.of hS.1.2.2.2.2 (fun _ => rd_wb _ rfl) (rd_wb _ rfl))) (fun M193 hS w193 => ?_)
                      refine Tr.aload_n (pc := 194) (i := 0) d_X12_tick_194 rfl rfl ?_
                      refine Tr.getf (pc := 195) d_X12_tick_195 f_12_234 (by decide) (by decide) (ty_120 hS.1.1) ?_
                      refine Tr.tp 164 (fx_120_73 hS.1.1) ?_
                      refine Tr.sipush (pc := 198) d_X12_tick_198 rfl (by decide) ?_
                      refine Tr.iload (pc := 201) (i := 4) d_X12_tick_201 rfl ?_
                      refine Tr.imul (pc := 203) d_X12_tick_203 ?_
                      refine Tr.tp (2100 * p131_4) ((w32_id (by omega)).trans (by omega)) ?_
                      refine Tr.aload_n (pc := 204) (i := 0) d_X12_tick_204 rfl rfl ?_
                      refine Tr.getf (pc := 205) d_X12_tick_205 f_12_201 (by decide) (by decide) (ty_120 hS.1.1) ?_
                      refine Tr.tp g120_62 ((Wr.b w193 rfl).trans ((Wr.b w168 rfl).trans ((St.kp h148 (by decide) (by decide) (by decide)).trans k131_120_62))) ?_
                      refine Tr.iadd (pc := 208) d_X12_tick_208 ?_
                      refine Tr.tp (g120_62 + 2100 * p131_4) ((w32_id (by omega)).trans (by omega)) ?_
                      refine Tr.iload (pc := 209) (i := 5) d_X12_tick_209 rfl ?_
                      refine Tr.iconst (pc := 211) d_X12_tick_211 (by decide) ?_
                      have J226 : ∀ (M : Mem) (q226_2 : Int), St Tb1 ws_X12_tick_120_w2 as_X12_tick_120_w2 M0 M → ((-1) ≤ q226_2 ∧ q226_2 ≤ 59) → rd M 120 59 = g120_59 → rd M 120 61 = g120_61 → rd M 120 62 = g120_62 → rd M 120 68 = u119_120_68 → rd M 120 70 = r170 → rd M 122 1 = r37 → rd M 126 1 = g126_1 → rd M 156 p131_4 = th156 → rd M 158 p131_4 = th158 → rd M 161 (4 * p131_4 + r148) = r167 → rd M 163 (g120_62 + 2100 * p131_4) = r148 → Tr l K 3 mX12_tick 226 [(0, (2, 120)), (1, (0, a1)), (2, (1, p43_2)), (4, (0, p131_4)), (5, (0, r148))] [(0, q226_2), (0, (g120_62 + 2100 * p131_4)), (2, 164)] M (q_X12_tick_120_w2 a1 M0) := by
                        intro M q226_2 hS bq226_2 k226_120_59 k226_120_61 k226_120_62 k226_120_68 k226_120_70 k226_122_1 k226_126_1 k226_156_p131_410 k226_158_p131_410 k226_161_p131_44r14810 k226_163_g120_621p131_421000
                        refine Tr.iastS (pc := 226) (P := St Tb1 ws_X12_tick_120_w2 as_X12_tick_120_w2 M0) d_X12_tick_226 (ty_164 hS.1.1) (by omega) (by omega) (sa_164 hS (by decide) (by omega) (Tb1.of hS.1.2.2.2.2 (fun _ => rd_wb _ rfl) (rd_wb _ rfl))) (fun M226 hS w226 => ?_)
                        refine Tr.aload_n (pc := 227) (i := 0) d_X12_tick_227 rfl rfl ?_
                        refine Tr.getf (pc := 228) d_X12_tick_228 f_12_237 (by decide) (by decide) (ty_120 hS.1.1) ?_
                        refine Tr.tp 165 (fx_120_74 hS.1.1) ?_
                        refine Tr.sipush (pc := 231) d_X12_tick_231 rfl (by decide) ?_
                        refine Tr.iload (pc := 234) (i := 4) d_X12_tick_234 rfl ?_
                        refine Tr.imul (pc := 236) d_X12_tick_236 ?_
                        refine Tr.tp (2100 * p131_4) ((w32_id (by omega)).trans (by omega)) ?_
                        refine Tr.aload_n (pc := 237) (i := 0) d_X12_tick_237 rfl rfl ?_
                        refine Tr.getf (pc := 238) d_X12_tick_238 f_12_201 (by decide) (by decide) (ty_120 hS.1.1) ?_
                        refine Tr.tp g120_62 ((Wr.b w226 rfl).trans k226_120_62) ?_
                        refine Tr.iadd (pc := 241) d_X12_tick_241 ?_
                        refine Tr.tp (g120_62 + 2100 * p131_4) ((w32_id (by omega)).trans (by omega)) ?_
                        refine Tr.aload_n (pc := 242) (i := 0) d_X12_tick_242 rfl rfl ?_
                        refine Tr.getf (pc := 243) d_X12_tick_243 f_12_177 (by decide) (by decide) (ty_120 hS.1.1) ?_
                        refine Tr.tp 156 (fx_120_54 hS.1.1) ?_
                        refine Tr.iload (pc := 246) (i := 4) d_X12_tick_246 rfl ?_
                        refine Tr.zald (pc := 248) d_X12_tick_248 (ty_156 hS.1.1) (by omega) (by omega) ?_
                        refine Tr.tp th156 ((Wr.b w226 rfl).trans k226_156_p131_410) ?_
                        have J263 : ∀ (M : Mem) (q263_2 : Int), St Tb1 ws_X12_tick_120_w2 as_X12_tick_120_w2 M0 M → ((-1) ≤ q263_2 ∧ q263_2 ≤ 59) → rd M 120 59 = g120_59 → rd M 120 61 = g120_61 → rd M 120 62 = g120_62 → rd M 120 68 = u119_120_68 → rd M 120 70 = r170 → rd M 122 1 = r37 → rd M 126 1 = g126_1 → rd M 156 p131_4 = th156 → rd M 158 p131_4 = th158 → rd M 161 (4 * p131_4 + r148) = r167 → rd M 163 (g120_62 + 2100 * p131_4) = r148 → rd M 164 (g120_62 + 2100 * p131_4) = q226_2 → Tr l K 3 mX12_tick 263 [(0, (2, 120)), (1, (0, a1)), (2, (1, p43_2)), (4, (0, p131_4)), (5, (0, r148))] [(0, q263_2), (0, (g120_62 + 2100 * p131_4)), (2, 165)] M (q_X12_tick_120_w2 a1 M0) := by
                          intro M q263_2 hS bq263_2 k263_120_59 k263_120_61 k263_120_62 k263_120_68 k263_120_70 k263_122_1 k263_126_1 k263_156_p131_410 k263_158_p131_410 k263_161_p131_44r14810 k263_163_g120_621p131_421000 k263_164_g120_621p131_421000
                          refine Tr.iastS (pc := 263) (P := St Tb1 ws_X12_tick_120_w2 as_X12_tick_120_w2 M0) d_X12_tick_263 (ty_165 hS.1.1) (by omega) (by omega) (sa_165 hS (by decide) (by omega) (Tb1.of hS.1.2.2.2.2 (fun _ => rd_wb _ rfl) (rd_wb _ rfl))) (fun M263 hS w263 => ?_)
                          refine Tr.pick [0, 1, 2, 3, 4] (ls2 := [(0, (2, 120)), (1, (0, a1)), (2, (1, p43_2)), (4, (0, p131_4)), (5, (0, r148))]) rfl ?_
                          exact J264 _ hS ((Wr.b w263 rfl).trans k263_120_59) ((Wr.b w263 rfl).trans k263_120_61) ((Wr.b w263 rfl).trans k263_120_62) ((Wr.b w263 rfl).trans k263_120_68) ((Wr.b w263 rfl).trans k263_120_70) ((Wr.b w263 rfl).trans k263_122_1) ((Wr.b w263 rfl).trans k263_126_1) ((Wr.b w263 rfl).trans k263_156_p131_410) ((Wr.b w263 rfl).trans k263_158_p131_410) ((Wr.b w263 rfl).trans k263_161_p131_44r14810)
                        refine Tr.if_eq (pc := 249) (tgt := 262) d_X12_tick_249 rfl (fun c249 => ?_) (fun c249 => ?_)
                        · refine Tr.iconst (pc := 262) d_X12_tick_262 (by decide) ?_
                          refine Tr.pick [0, 1, 2, 3, 4] (ls2 := [(0, (2, 120)), (1, (0, a1)), (2, (1, p43_2)), (4, (0, p131_4)), (5, (0, r148))]) rfl ?_
                          exact J263 _ _ hS (by omega) ((Wr.b w226 rfl).trans k226_120_59) ((Wr.b w226 rfl).trans k226_120_61) ((Wr.b w226 rfl).trans k226_120_62) ((Wr.b w226 rfl).trans k226_120_68) ((Wr.b w226 rfl).trans k226_120_70) ((Wr.b w226 rfl).trans k226_122_1) ((Wr.b w226 rfl).trans k226_126_1) ((Wr.b w226 rfl).trans k226_156_p131_410) ((Wr.b w226 rfl).trans k226_158_p131_410) ((Wr.b w226 rfl).trans k226_161_p131_44r14810) ((Wr.b w226 rfl).trans k226_163_g120_621p131_421000) w226.1
                        · refine Tr.aload_n (pc := 252) (i := 0) d_X12_tick_252 rfl rfl ?_
                          refine Tr.getf (pc := 253) d_X12_tick_253 f_12_180 (by decide) (by decide) (ty_120 hS.1.1) ?_
                          refine Tr.tp 157 (fx_120_55 hS.1.1) ?_
                          refine Tr.iload (pc := 256) (i := 4) d_X12_tick_256 rfl ?_
                          refine Tr.iald (pc := 258) d_X12_tick_258 (ty_157 hS.1.1) (by omega) (by omega) ?_
                          refine Tr.gen (P := fun v => (-1) ≤ v ∧ v ≤ 59) (ar_157 hS.1.2.1 _) (fun r258 er258 br258 => ?_)
                          refine Tr.goto (pc := 259) (tgt := 263) d_X12_tick_259 rfl ?_
                          refine Tr.pick [0, 1, 2, 3, 4] (ls2 := [(0, (2, 120)), (1, (0, a1)), (2, (1, p43_2)), (4, (0, p131_4)), (5, (0, r148))]) rfl ?_
                          exact J263 _ _ hS (by omega) ((Wr.b w226 rfl).trans k226_120_59) ((Wr.b w226 rfl).trans k226_120_61) ((Wr.b w226 rfl).trans k226_120_62) ((Wr.b w226 rfl).trans k226_120_68) ((Wr.b w226 rfl).trans k226_120_70) ((Wr.b w226 rfl).trans k226_122_1) ((Wr.b w226 rfl).trans k226_126_1) ((Wr.b w226 rfl).trans k226_156_p131_410) ((Wr.b w226 rfl).trans k226_158_p131_410) ((Wr.b w226 rfl).trans k226_161_p131_44r14810) ((Wr.b w226 rfl).trans k226_163_g120_621p131_421000) w226.1
                      refine Tr.icmp_ne (pc := 212) (tgt := 225) d_X12_tick_212 rfl (fun c212 => ?_) (fun c212 => ?_)
                      · refine Tr.iload_n (pc := 225) (i := 1) d_X12_tick_225 rfl rfl ?_
                        refine Tr.pick [1, 2, 3, 4, 0] (ls2 := [(0, (2, 120)), (1, (0, a1)), (2, (1, p43_2)), (4, (0, p131_4)), (5, (0, r148))]) rfl ?_
                        exact J226 _ _ hS (by omega) ((Wr.b w193 rfl).trans ((Wr.b w168 rfl).trans ((St.kp h148 (by decide) (by decide) (by decide)).trans k131_120_59))) ((Wr.b w193 rfl).trans ((Wr.b w168 rfl).trans ((St.kp h148 (by decide) (by decide) (by decide)).trans k131_120_61))) ((Wr.b w193 rfl).trans ((Wr.b w168 rfl).trans ((St.kp h148 (by decide) (by decide) (by decide)).trans k131_120_62))) ((Wr.b w193 rfl).trans ((Wr.b w168 rfl).trans ((St.kp h148 (by decide) (by decide) (by decide)).trans k131_120_68))) ((Wr.b w193 rfl).trans er170) ((Wr.b w193 rfl).trans ((Wr.b w168 rfl).trans ((St.kp h148 (by decide) (by decide) (by decide)).trans k131_122_1))) ((Wr.b w193 rfl).trans ((Wr.b w168 rfl).trans ((St.kp h148 (by decide) (by decide) (by decide)).trans k131_126_1))) ((Wr.b w193 rfl).trans ((Wr.b w168 rfl).trans ((St.ka h148 (by decide) (by decide) (by decide)).trans eth156))) ((Wr.b w193 rfl).trans ((Wr.b w168 rfl).trans ((St.ka h148 (by decide) (by decide) (by decide)).trans eth158))) ((Wr.b w193 rfl).trans w168.1) w193.1
                      · refine Tr.aload_n (pc := 215) (i := 0) d_X12_tick_215 rfl rfl ?_
                        refine Tr.getf (pc := 216) d_X12_tick_216 f_12_186 (by decide) (by decide) (ty_120 hS.1.1) ?_
                        refine Tr.tp 159 (fx_120_57 hS.1.1) ?_
                        refine Tr.iload (pc := 219) (i := 4) d_X12_tick_219 rfl ?_
                        refine Tr.iald (pc := 221) d_X12_tick_221 (ty_159 hS.1.1) (by omega) (by omega) ?_
                        refine Tr.gen (P := fun v => (-1) ≤ v ∧ v ≤ 59) (ar_159 hS.1.2.1 _) (fun r221 er221 br221 => ?_)
                        refine Tr.goto (pc := 222) (tgt := 226) d_X12_tick_222 rfl ?_
                        refine Tr.pick [1, 2, 3, 4, 0] (ls2 := [(0, (2, 120)), (1, (0, a1)), (2, (1, p43_2)), (4, (0, p131_4)), (5, (0, r148))]) rfl ?_
                        exact J226 _ _ hS (by omega) ((Wr.b w193 rfl).trans ((Wr.b w168 rfl).trans ((St.kp h148 (by decide) (by decide) (by decide)).trans k131_120_59))) ((Wr.b w193 rfl).trans ((Wr.b w168 rfl).trans ((St.kp h148 (by decide) (by decide) (by decide)).trans k131_120_61))) ((Wr.b w193 rfl).trans ((Wr.b w168 rfl).trans ((St.kp h148 (by decide) (by decide) (by decide)).trans k131_120_62))) ((Wr.b w193 rfl).trans ((Wr.b w168 rfl).trans ((St.kp h148 (by decide) (by decide) (by decide)).trans k131_120_68))) ((Wr.b w193 rfl).trans er170) ((Wr.b w193 rfl).trans ((Wr.b w168 rfl).trans ((St.kp h148 (by decide) (by decide) (by decide)).trans k131_122_1))) ((Wr.b w193 rfl).trans ((Wr.b w168 rfl).trans ((St.kp h148 (by decide) (by decide) (by decide)).trans k131_126_1))) ((Wr.b w193 rfl).trans ((Wr.b w168 rfl).trans ((St.ka h148 (by decide) (by decide) (by decide)).trans eth156))) ((Wr.b w193 rfl).trans ((Wr.b w168 rfl).trans ((St.ka h148 (by decide) (by decide) (by decide)).trans eth158))) ((Wr.b w193 rfl).trans w168.1) w193.1
              refine Tr.pick [1, 2, 3, 0] (ls2 := [(0, (2, 120)), (1, (0, a1)), (2, (1, p43_2)), (4, (0, 0))]) rfl ?_
              exact J131 _ _ _ hS (by omega) k119_120_59 k119_120_61 k119_120_62 k119_120_68 k119_122_1 k119_126_1 (Nat.lt_succ_self _)
            · refine Tr.iconst (pc := 126) d_X12_tick_126 (by decide) ?_
              have kr_120_59 : rd M 120 59 = g120_59 := k119_120_59
              have kr_120_62 : rd M 120 62 = g120_62 := k119_120_62
              have kr_120_68 : rd M 120 68 = u119_120_68 := k119_120_68
              exact Tr.zret (pc := 127) d_X12_tick_127 rfl (by omega) ⟨hS, _, rfl, by omega, by omega, by omega, by omega, by omega⟩
          refine Tr.if_ne (pc := 83) (tgt := 119) d_X12_tick_83 rfl (fun c83 => ?_) (fun c83 => ?_)
          · refine Tr.pick [0, 1, 2] (ls2 := [(0, (2, 120)), (1, (0, a1)), (2, (1, p43_2))]) rfl ?_
            exact J119 _ _ hS (by omega) k43_120_59 k43_120_61 k43_120_62 k43_120_68 k43_122_1 k43_126_1 (by first | assumption | omega) (by first | assumption | omega)
          · refine Tr.iload_n (pc := 86) (i := 1) d_X12_tick_86 rfl rfl ?_
            refine Tr.iconst (pc := 87) d_X12_tick_87 (by decide) ?_
            refine Tr.icmp_eq (pc := 88) (tgt := 119) d_X12_tick_88 rfl (fun hc => absurd hc (by omega)) (fun _ => ?_)
            refine Tr.aload_n (pc := 91) (i := 0) d_X12_tick_91 rfl rfl ?_
            refine Tr.getf (pc := 92) d_X12_tick_92 f_12_207 (by decide) (by decide) (ty_120 hS.1.1) ?_
            refine Tr.gen (P := fun v => (-9223372036854775808) ≤ v ∧ v ≤ 9223372036854775807) (ir_120_64 hS.1.2.1) (fun r92 er92 br92 => ?_)
            refine Tr.lconst (pc := 95) (v := 0) d_X12_tick_95 rfl (by decide) ?_
            refine Tr.lcmp (pc := 96) d_X12_tick_96 ?_
            refine Tr.gen (P := fun v => (v = 1 ∧ 0 < r92) ∨ (v = 0 ∧ r92 = 0) ∨ (v = -1 ∧ r92 < 0)) (f_lcmp_c _ _) (fun r96 er96 br96 => ?_)
            refine Tr.if_lt (pc := 97) (tgt := 119) d_X12_tick_97 rfl (fun c97 => ?_) (fun c97 => ?_)
            · refine Tr.pick [0, 1, 2] (ls2 := [(0, (2, 120)), (1, (0, a1)), (2, (1, p43_2))]) rfl ?_
              exact J119 _ _ hS (by omega) k43_120_59 k43_120_61 k43_120_62 k43_120_68 k43_122_1 k43_126_1 (by first | assumption | omega) (by first | assumption | omega)
            · refine Tr.lload_n (pc := 100) (i := 2) d_X12_tick_100 rfl rfl ?_
              refine Tr.aload_n (pc := 101) (i := 0) d_X12_tick_101 rfl rfl ?_
              refine Tr.getf (pc := 102) d_X12_tick_102 f_12_207 (by decide) (by decide) (ty_120 hS.1.1) ?_
              refine Tr.tp r92 er92 ?_
              refine Tr.aload_n (pc := 105) (i := 0) d_X12_tick_105 rfl rfl ?_
              refine Tr.getf (pc := 106) d_X12_tick_106 f_12_204 (by decide) (by decide) (ty_120 hS.1.1) ?_
              refine Tr.gen (P := fun v => (-9223372036854775808) ≤ v ∧ v ≤ 9223372036854775807) (ir_120_63 hS.1.2.1) (fun r106 er106 br106 => ?_)
              refine Tr.lsub (pc := 109) d_X12_tick_109 ?_
              refine Tr.gen (P := fun v => (-9223372036854775808) ≤ v ∧ v ≤ 9223372036854775807) (w64_b _) (fun r109 er109 br109 => ?_)
              refine Tr.lcmp (pc := 110) d_X12_tick_110 ?_
              refine Tr.gen (P := fun v => (v = 1 ∧ r109 < p43_2) ∨ (v = 0 ∧ p43_2 = r109) ∨ (v = -1 ∧ p43_2 < r109)) (f_lcmp_c _ _) (fun r110 er110 br110 => ?_)
              refine Tr.if_le (pc := 111) (tgt := 119) d_X12_tick_111 rfl (fun c111 => ?_) (fun c111 => ?_)
              · refine Tr.pick [0, 1, 2] (ls2 := [(0, (2, 120)), (1, (0, a1)), (2, (1, p43_2))]) rfl ?_
                exact J119 _ _ hS (by omega) k43_120_59 k43_120_61 k43_120_62 k43_120_68 k43_122_1 k43_126_1 (by first | assumption | omega) (by first | assumption | omega)
              · refine Tr.aload_n (pc := 114) (i := 0) d_X12_tick_114 rfl rfl ?_
                refine Tr.iconst (pc := 115) d_X12_tick_115 (by decide) ?_
                refine Tr.putfS (pc := 116) (P := St Tb1 ws_X12_tick_120_w2 as_X12_tick_120_w2 M0) d_X12_tick_116 f_12_219 (by decide) (by decide) (ty_120 hS.1.1) (st_120_68 hS (by decide) (by omega) (Tb1.of hS.1.2.2.2.2 (fun _ => rd_wb _ rfl) (rd_wb _ rfl))) (fun M116 hS w116 => ?_)
                refine Tr.pick [0, 1, 2] (ls2 := [(0, (2, 120)), (1, (0, a1)), (2, (1, p43_2))]) rfl ?_
                exact J119 _ _ hS (by omega) ((Wr.b w116 rfl).trans k43_120_59) ((Wr.b w116 rfl).trans k43_120_61) ((Wr.b w116 rfl).trans k43_120_62) w116.1 ((Wr.b w116 rfl).trans k43_122_1) ((Wr.b w116 rfl).trans k43_126_1) (by first | assumption | omega) (by first | assumption | omega)
        · refine Tr.lload_n (pc := 57) (i := 2) d_X12_tick_57 rfl rfl ?_
          refine Tr.aload_n (pc := 58) (i := 0) d_X12_tick_58 rfl rfl ?_
          refine Tr.iload (pc := 59) (i := 4) d_X12_tick_59 rfl ?_
          refine Tr.aload_n (pc := 61) (i := 0) d_X12_tick_61 rfl rfl ?_
          refine Tr.iload (pc := 62) (i := 4) d_X12_tick_62 rfl ?_
          refine Tr.callV (pc := 64) (as := [_]) d_X12_tick_64 s_12_571 ok_X12_stateOf rfl rfl (Nat.le_of_ble_eq_true rfl) (Nat.le_of_ble_eq_true rfl) (by decide) (ty_120 hS.1.1) ?_
          refine Tr.imp (Tr.deep (by decide) (sp_X12_stateOf_120 hS.1.wk p43_4 (by omega))) ?_
          rintro M64 _ ⟨h64, r64, rfl, lr64, ur64, z64_0⟩
          have h64 := St.rn h64 (Tb1.of hS.1.2.2.2.2 (fun _ => (St.ka h64 (by decide) (by decide) (by decide))) (St.kp h64 (by decide) (by decide) (by decide)))
          have hS := St.tr hS h64 (by decide) (by decide)
          have ka64_120_59 : rd M64 120 59 = g120_59 := ((St.kp h64 (by decide) (by decide) (by decide)).trans k43_120_59)
          have ka64_120_61 : rd M64 120 61 = g120_61 := ((St.kp h64 (by decide) (by decide) (by decide)).trans k43_120_61)
          refine Tr.sc [(0, r64), (0, p43_4), (2, 120), (1, p43_2)] rfl ?_
          refine Tr.callV (pc := 67) (as := [_, _]) d_X12_tick_67 s_12_574 ok_X12_sips rfl rfl (Nat.le_of_ble_eq_true rfl) (Nat.le_of_ble_eq_true rfl) (by decide) (ty_120 hS.1.1) ?_
          refine Tr.imp (Tr.deep (by decide) (sp_X12_sips_120_w1 hS.1.wk ((St.kp hS (by decide) (by decide) (by decide)).trans en_120_12) p43_4 (by omega) r64 (by omega) (Bk1.of hF_Bk1 (fun j => (St.ka hS (by decide) (by decide) (by decide))) (fun j => (St.ka hS (by decide) (by decide) (by decide))) (fun j => (St.ka hS (by decide) (by decide) (by decide))) (fun j => (St.ka hS (by decide) (by decide) (by decide))) (fun j => (St.ka hS (by decide) (by decide) (by decide))) (fun j => (St.ka hS (by decide) (by decide) (by decide))) (fun j => (St.ka hS (by decide) (by decide) (by decide))) (fun j => (St.ka hS (by decide) (by decide) (by decide))) (St.kp hS (by decide) (by decide) (by decide)) (St.kp hS (by decide) (by decide) (by decide)) (St.kp hS (by decide) (by decide) (by decide)) (St.kp hS (by decide) (by decide) (by decide))))) ?_
          rintro M67 _ ⟨h67, r67, rfl, lr67, ur67⟩
          have h67 := St.rn h67 (Tb1.of hS.1.2.2.2.2 (fun _ => (St.ka h67 (by decide) (by decide) (by decide))) (St.kp h67 (by decide) (by decide) (by decide)))
          have hS := St.tr hS h67 (by decide) (by decide)
          refine Tr.sc [(0, r67), (1, p43_2)] rfl ?_
          refine Tr.i2l (pc := 70) d_X12_tick_70 ?_
          refine Tr.ladd (pc := 71) d_X12_tick_71 ?_
          refine Tr.gen (P := fun v => (-9223372036854775808) ≤ v ∧ v ≤ 9223372036854775807) (w64_b _) (fun r71 er71 br71 => ?_)
          refine Tr.lstore_n (pc := 72) (i := 2) (ls2 := [(2, (1, r71)), (0, (2, 120)), (1, (0, a1)), (4, (0, p43_4))]) d_X12_tick_72 rfl (by decide) rfl ?_
          refine Tr.iincV (pc := 73) (n2 := (p43_4 + 1)) (ls2 := [(4, (0, (p43_4 + 1))), (2, (1, r71)), (0, (2, 120)), (1, (0, a1))]) d_X12_tick_73 rfl (by decide) ((w32_id (by omega)).trans (by omega)) rfl ?_
          refine Tr.goto (pc := 76) (tgt := 43) d_X12_tick_76 rfl ?_
          refine Tr.pick [2, 3, 1, 0] (ls2 := [(0, (2, 120)), (1, (0, a1)), (2, (1, r71)), (4, (0, (p43_4 + 1)))]) rfl ?_
          exact J43 _ _ _ hS (by omega) (by omega) ((St.kp h67 (by decide) (by decide) (by decide)).trans ((St.kp h64 (by decide) (by decide) (by decide)).trans k43_120_59)) ((St.kp h67 (by decide) (by decide) (by decide)).trans ((St.kp h64 (by decide) (by decide) (by decide)).trans k43_120_61)) ((St.kp h67 (by decide) (by decide) (by decide)).trans ((St.kp h64 (by decide) (by decide) (by decide)).trans k43_120_62)) ((St.kp h67 (by decide) (by decide) (by decide)).trans ((St.kp h64 (by decide) (by decide) (by decide)).trans k43_120_68)) ((St.kp h67 (by decide) (by decide) (by decide)).trans ((St.kp h64 (by decide) (by decide) (by decide)).trans k43_122_1)) ((St.kp h67 (by decide) (by decide) (by decide)).trans ((St.kp h64 (by decide) (by decide) (by decide)).trans k43_126_1)) (by omega)
    refine Tr.pick [2, 3, 1, 0] (ls2 := [(0, (2, 120)), (1, (0, a1)), (2, (1, r37)), (4, (0, 0))]) rfl ?_
    exact J43 _ _ _ _ hS (by omega) (by omega) k20_120_59 k20_120_61 k20_120_62 k20_120_68 er37 k20_126_1 (Nat.lt_succ_self _)
  refine Tr.icmp_eq (pc := 2) (tgt := 20) d_X12_tick_2 rfl (fun hc => absurd hc (by omega)) (fun _ => ?_)
  refine Tr.aload_n (pc := 5) (i := 0) d_X12_tick_5 rfl rfl ?_
  refine Tr.getf (pc := 6) d_X12_tick_6 f_12_201 (by decide) (by decide) (ty_120 hS.1.1) ?_
  refine Tr.tp g120_62 eg120_62 ?_
  refine Tr.sipush (pc := 9) d_X12_tick_9 rfl (by decide) ?_
  refine Tr.icmp_ne (pc := 12) (tgt := 20) d_X12_tick_12 rfl (fun c12 => ?_) (fun c12 => ?_)
  · refine Tr.pick [0, 1] (ls2 := [(0, (2, 120)), (1, (0, a1))]) rfl ?_
    exact J20 _ _ hS (by omega) eg120_59 eg120_61 eg120_62 eg120_68 eg126_1 (by first | assumption | omega) (by first | assumption | omega)
  · refine Tr.aload_n (pc := 15) (i := 0) d_X12_tick_15 rfl rfl ?_
    refine Tr.iconst (pc := 16) d_X12_tick_16 (by decide) ?_
    refine Tr.putfS (pc := 17) (P := St Tb1 ws_X12_tick_120_w2 as_X12_tick_120_w2 M0) d_X12_tick_17 f_12_219 (by decide) (by decide) (ty_120 hS.1.1) (st_120_68 hS (by decide) (by omega) (Tb1.of hS.1.2.2.2.2 (fun _ => rd_wb _ rfl) (rd_wb _ rfl))) (fun M17 hS w17 => ?_)
    refine Tr.pick [0, 1] (ls2 := [(0, (2, 120)), (1, (0, a1))]) rfl ?_
    exact J20 _ _ hS (by omega) ((Wr.b w17 rfl).trans eg120_59) ((Wr.b w17 rfl).trans eg120_61) ((Wr.b w17 rfl).trans eg120_62) w17.1 ((Wr.b w17 rfl).trans eg126_1) (by first | assumption | omega) (by first | assumption | omega)

def ws_X12_tick_120_w3 : List (Int × Int) := [(120, 62), (120, 63)]
def as_X12_tick_120_w3 : List Int := [158, 161, 162, 163, 164, 165]
def q_X12_tick_120_w3 (a1 : Int) (M0 M' : Mem) (r : Option PV) : Prop := St Tb1 ws_X12_tick_120_w3 as_X12_tick_120_w3 M0 M' ∧ ∃ v : Int, r = some (0, v) ∧ 0 ≤ v ∧ v ≤ 1 ∧ ((v = 1 ∧ rd M' 120 62 = rd M0 120 62 + 1 ∧ (a1 = -1 ∨ rd M' 120 62 ≤ 2000)) ∨ (v = 0 ∧ rd M' 120 62 = rd M0 120 62 ∧ 1 ≤ rd M' 120 68)) ∧ (a1 ≠ -1 ∨ rd M' 120 68 = rd M0 120 68) ∧ (rd M' 120 59 = rd M0 120 59) ∧ (v = 1 → ∀ B : Int, 1 ≤ B → (∀ p : Int, 0 ≤ p → p < rd M0 126 1 → rd M0 156 p = 0 → rd M0 158 p ≤ B) → ∀ p : Int, 0 ≤ p → p < rd M' 126 1 → rd M' 156 p = 0 → rd M' 158 p ≤ B - 1)
set_option maxRecDepth 100000 in
set_option maxHeartbeats 4000000 in
theorem sp_X12_tick_120_w3 {l : Launch} {K : EC} {M0 : Mem} (hI : In Tb1 M0) (en_120_12 : rd M0 120 12 = 1) (a1 : Int) (ha1 : (-1) ≤ a1 ∧ a1 ≤ (-1))  (hq0 : rd M0 120 61 ≠ 2 ∨ rd M0 120 59 = -1) (hq1 : rd M0 120 62 ≤ 2000 ∨ (a1 = -1 ∧ rd M0 120 62 ≤ 2049)) (hq2 : rd M0 120 59 = -1) (hF_Bk1 : Bk1 M0) : Tr l K 3 mX12_tick 0 [(0, (2, 120)), (1, (0, a1))] [] M0 (q_X12_tick_120_w3 a1 M0) := by
  have hS : St Tb1 ws_X12_tick_120_w3 as_X12_tick_120_w3 M0 M0 := St.rf hI
  obtain ⟨g120_62, eg120_62⟩ : ∃ v, rd M0 120 62 = v := ⟨_, rfl⟩
  have bg120_62 : 0 ≤ g120_62 ∧ g120_62 ≤ 2060 := by rw [← eg120_62]; exact ir_120_62 hI.2.1
  obtain ⟨g120_68, eg120_68⟩ : ∃ v, rd M0 120 68 = v := ⟨_, rfl⟩
  have bg120_68 : 0 ≤ g120_68 ∧ g120_68 ≤ 2 := by rw [← eg120_68]; exact ir_120_68 hI.2.1
  obtain ⟨g120_59, eg120_59⟩ : ∃ v, rd M0 120 59 = v := ⟨_, rfl⟩
  have bg120_59 : (-1) ≤ g120_59 ∧ g120_59 ≤ 5 := by rw [← eg120_59]; exact ir_120_59 hI.2.1
  obtain ⟨g126_1, eg126_1⟩ : ∃ v, rd M0 126 1 = v := ⟨_, rfl⟩
  have bg126_1 : 0 ≤ g126_1 ∧ g126_1 ≤ 6 := by rw [← eg126_1]; exact ir_126_1 hI.2.1
  obtain ⟨g120_61, eg120_61⟩ : ∃ v, rd M0 120 61 = v := ⟨_, rfl⟩
  have bg120_61 : 0 ≤ g120_61 ∧ g120_61 ≤ 3 := by rw [← eg120_61]; exact ir_120_61 hI.2.1
  refine Tr.iload_n (pc := 0) (i := 1) d_X12_tick_0 rfl rfl ?_
  refine Tr.tp (-1) (by omega) ?_
  refine Tr.iconst (pc := 1) d_X12_tick_1 (by decide) ?_
  refine Tr.icmp_eq (pc := 2) (tgt := 20) d_X12_tick_2 rfl (fun _ => ?_) (fun hc => absurd (by omega) hc)
  refine Tr.iload_n (pc := 20) (i := 1) d_X12_tick_20 rfl rfl ?_
  refine Tr.tp (-1) (by omega) ?_
  refine Tr.iconst (pc := 21) d_X12_tick_21 (by decide) ?_
  refine Tr.icmp_ne (pc := 22) (tgt := 29) d_X12_tick_22 rfl (fun hc => absurd (by omega) hc) (fun _ => ?_)
  refine Tr.lconst (pc := 25) (v := 0) d_X12_tick_25 rfl (by decide) ?_
  refine Tr.goto (pc := 26) (tgt := 39) d_X12_tick_26 rfl ?_
  refine Tr.lstore_n (pc := 39) (i := 2) (ls2 := [(2, (1, 0)), (0, (2, 120)), (1, (0, a1))]) d_X12_tick_39 rfl (by decide) rfl ?_
  refine Tr.iconst (pc := 40) d_X12_tick_40 (by decide) ?_
  refine Tr.istore (pc := 41) (i := 4) (ls2 := [(4, (0, 0)), (2, (1, 0)), (0, (2, 120)), (1, (0, a1))]) d_X12_tick_41 (by decide) rfl ?_
  have J43 : ∀ (n43 : Nat) (M : Mem) (p43_2 p43_4 : Int), St Tb1 ws_X12_tick_120_w3 as_X12_tick_120_w3 M0 M → ((-9223372036854775808) ≤ p43_2 ∧ p43_2 ≤ 9223372036854775807) → (0 ≤ p43_4 ∧ p43_4 ≤ 6) → rd M 120 59 = g120_59 → rd M 120 61 = g120_61 → rd M 120 62 = g120_62 → rd M 120 68 = g120_68 → rd M 126 1 = g126_1 → (∀ p : Int, rd M 158 p = rd M0 158 p) → (6 - p43_4).toNat < n43 → Tr l K 3 mX12_tick 43 [(0, (2, 120)), (1, (0, a1)), (2, (1, p43_2)), (4, (0, p43_4))] [] M (q_X12_tick_120_w3 a1 M0) := by
    intro n43
    induction n43 with
    | zero => intro M p43_2 p43_4 hS bp43_2 bp43_4 k43_120_59 k43_120_61 k43_120_62 k43_120_68 k43_126_1 tp43_0 hm43; exact absurd hm43 (Nat.not_lt_zero _)
    | succ n43 J43 =>
      intro M p43_2 p43_4 hS bp43_2 bp43_4 k43_120_59 k43_120_61 k43_120_62 k43_120_68 k43_126_1 tp43_0 hm43
      refine Tr.iload (pc := 43) (i := 4) d_X12_tick_43 rfl ?_
      refine Tr.aload_n (pc := 45) (i := 0) d_X12_tick_45 rfl rfl ?_
      refine Tr.getf (pc := 46) d_X12_tick_46 f_12_63 (by decide) (by decide) (ty_120 hS.1.1) ?_
      refine Tr.tp 126 (fx_120_17 hS.1.1) ?_
      refine Tr.aload_n (pc := 49) (i := 0) d_X12_tick_49 rfl rfl ?_
      refine Tr.getf (pc := 50) d_X12_tick_50 f_12_48 (by decide) (by decide) (ty_120 hS.1.1) ?_
      refine Tr.tp 1 ((St.kp hS (by decide) (by decide) (by decide)).trans en_120_12) ?_
      refine Tr.iald (pc := 53) d_X12_tick_53 (ty_126 hS.1.1) (by omega) (by omega) ?_
      refine Tr.tp g126_1 k43_126_1 ?_
      refine Tr.icmp_ge (pc := 54) (tgt := 79) d_X12_tick_54 rfl (fun c54 => ?_) (fun c54 => ?_)
      · refine Tr.aload_n (pc := 79) (i := 0) d_X12_tick_79 rfl rfl ?_
        refine Tr.getf (pc := 80) d_X12_tick_80 f_12_219 (by decide) (by decide) (ty_120 hS.1.1) ?_
        refine Tr.tp g120_68 k43_120_68 ?_
        have J119 : ∀ (M : Mem), St Tb1 ws_X12_tick_120_w3 as_X12_tick_120_w3 M0 M → rd M 120 59 = g120_59 → rd M 120 61 = g120_61 → rd M 120 62 = g120_62 → rd M 120 68 = g120_68 → rd M 126 1 = g126_1 → (a1 = -1 ∨ g120_62 ≠ 2000 ∨ 1 ≤ g120_68) → (a1 ≠ -1 ∨ g120_68 = g120_68) → (∀ p : Int, rd M 158 p = rd M0 158 p) → Tr l K 3 mX12_tick 119 [(0, (2, 120)), (1, (0, a1)), (2, (1, p43_2))] [] M (q_X12_tick_120_w3 a1 M0) := by
          intro M  hS  k119_120_59 k119_120_61 k119_120_62 k119_120_68 k119_126_1 t119_0 t119_1 tp119_0
          refine Tr.aload_n (pc := 119) (i := 0) d_X12_tick_119 rfl rfl ?_
          refine Tr.getf (pc := 120) d_X12_tick_120 f_12_219 (by decide) (by decide) (ty_120 hS.1.1) ?_
          refine Tr.tp g120_68 k119_120_68 ?_
          refine Tr.if_le (pc := 123) (tgt := 128) d_X12_tick_123 rfl (fun c123 => ?_) (fun c123 => ?_)
          · refine Tr.iconst (pc := 128) d_X12_tick_128 (by decide) ?_
            refine Tr.istore (pc := 129) (i := 4) (ls2 := [(4, (0, 0)), (0, (2, 120)), (1, (0, a1)), (2, (1, p43_2))]) d_X12_tick_129 (by decide) rfl ?_
            have J131 : ∀ (n131 : Nat) (M : Mem) (p131_4 : Int), St Tb1 ws_X12_tick_120_w3 as_X12_tick_120_w3 M0 M → (0 ≤ p131_4 ∧ p131_4 ≤ 6) → rd M 120 59 = g120_59 → rd M 120 61 = g120_61 → rd M 120 62 = g120_62 → rd M 120 68 = g120_68 → rd M 126 1 = g126_1 → (DT M0 M p131_4) → (6 - p131_4).toNat < n131 → Tr l K 3 mX12_tick 131 [(0, (2, 120)), (1, (0, a1)), (2, (1, p43_2)), (4, (0, p131_4))] [] M (q_X12_tick_120_w3 a1 M0) := by
              intro n131
              induction n131 with
              | zero => intro M p131_4 hS bp131_4 k131_120_59 k131_120_61 k131_120_62 k131_120_68 k131_126_1 tp131_0 hm131; exact absurd hm131 (Nat.not_lt_zero _)
              | succ n131 J131 =>
                intro M p131_4 hS bp131_4 k131_120_59 k131_120_61 k131_120_62 k131_120_68 k131_126_1 tp131_0 hm131
                refine Tr.iload (pc := 131) (i := 4) d_X12_tick_131 rfl ?_
                refine Tr.aload_n (pc := 133) (i := 0) d_X12_tick_133 rfl rfl ?_
                refine Tr.getf (pc := 134) d_X12_tick_134 f_12_63 (by decide) (by decide) (ty_120 hS.1.1) ?_
                refine Tr.tp 126 (fx_120_17 hS.1.1) ?_
                refine Tr.aload_n (pc := 137) (i := 0) d_X12_tick_137 rfl rfl ?_
                refine Tr.getf (pc := 138) d_X12_tick_138 f_12_48 (by decide) (by decide) (ty_120 hS.1.1) ?_
                refine Tr.tp 1 ((St.kp hS (by decide) (by decide) (by decide)).trans en_120_12) ?_
                refine Tr.iald (pc := 141) d_X12_tick_141 (ty_126 hS.1.1) (by omega) (by omega) ?_
                refine Tr.tp g126_1 k131_126_1 ?_
                refine Tr.icmp_ge (pc := 142) (tgt := 297) d_X12_tick_142 rfl (fun c142 => ?_) (fun c142 => ?_)
                · refine Tr.aload_n (pc := 297) (i := 0) d_X12_tick_297 rfl rfl ?_
                  refine Tr.getz (pc := 298) d_X12_tick_298 f_12_225 (by decide) (ty_120 hS.1.1) ?_
                  refine Tr.gen (P := fun v => 0 ≤ v ∧ v ≤ 1) (ir_120_70 hS.1.2.1) (fun r298 er298 br298 => ?_)
                  have J314 : ∀ (M : Mem), St Tb1 ws_X12_tick_120_w3 as_X12_tick_120_w3 M0 M → rd M 120 59 = g120_59 → rd M 120 61 = g120_61 → rd M 120 62 = g120_62 → rd M 120 68 = g120_68 → rd M 120 70 = r298 → rd M 126 1 = g126_1 → (DE 1 M0 M) → Tr l K 3 mX12_tick 314 [(0, (2, 120)), (2, (1, p43_2))] [] M (q_X12_tick_120_w3 a1 M0) := by
                    intro M  hS  k314_120_59 k314_120_61 k314_120_62 k314_120_68 k314_120_70 k314_126_1 tp314_0
                    refine Tr.aload_n (pc := 314) (i := 0) d_X12_tick_314 rfl rfl ?_
                    refine Tr.dup (pc := 315) d_X12_tick_315 ne21 ?_
                    refine Tr.getf (pc := 316) d_X12_tick_316 f_12_204 (by decide) (by decide) (ty_120 hS.1.1) ?_
                    refine Tr.gen (P := fun v => (-9223372036854775808) ≤ v ∧ v ≤ 9223372036854775807) (ir_120_63 hS.1.2.1) (fun r316 er316 br316 => ?_)
                    refine Tr.lload_n (pc := 319) (i := 2) d_X12_tick_319 rfl rfl ?_
                    refine Tr.ladd (pc := 320) d_X12_tick_320 ?_
                    refine Tr.gen (P := fun v => (-9223372036854775808) ≤ v ∧ v ≤ 9223372036854775807) (w64_b _) (fun r320 er320 br320 => ?_)
                    refine Tr.putfS (pc := 321) (P := St Tb1 ws_X12_tick_120_w3 as_X12_tick_120_w3 M0) d_X12_tick_321 f_12_204 (by decide) (by decide) (ty_120 hS.1.1) (st_120_63 hS (by decide) (by omega) (Tb1.of hS.1.2.2.2.2 (fun _ => rd_wb _ rfl) (rd_wb _ rfl))) (fun M321 hS w321 => ?_)
                    refine Tr.aload_n (pc := 324) (i := 0) d_X12_tick_324 rfl rfl ?_
                    refine Tr.dup (pc := 325) d_X12_tick_325 ne21 ?_
                    refine Tr.getf (pc := 326) d_X12_tick_326 f_12_201 (by decide) (by decide) (ty_120 hS.1.1) ?_
                    refine Tr.tp g120_62 ((Wr.b w321 rfl).trans k314_120_62) ?_
                    refine Tr.iconst (pc := 329) d_X12_tick_329 (by decide) ?_
                    refine Tr.iadd (pc := 330) d_X12_tick_330 ?_
                    refine Tr.tp (g120_62 + 1) ((w32_id (by omega)).trans (by omega)) ?_
                    refine Tr.putfS (pc := 331) (P := St Tb1 ws_X12_tick_120_w3 as_X12_tick_120_w3 M0) d_X12_tick_331 f_12_201 (by decide) (by decide) (ty_120 hS.1.1) (st_120_62 hS (by decide) (by omega) (Tb1.of hS.1.2.2.2.2 (fun _ => rd_wb _ rfl) (rd_wb _ rfl))) (fun M331 hS w331 => ?_)
                    refine Tr.iconst (pc := 334) d_X12_tick_334 (by decide) ?_
                    have kr_120_59 : rd M331 120 59 = g120_59 := ((Wr.b w331 rfl).trans ((Wr.b w321 rfl).trans k314_120_59))
                    have kr_120_62 : rd M331 120 62 = (g120_62 + 1) := w331.1
                    have kr_120_68 : rd M331 120 68 = g120_68 := ((Wr.b w331 rfl).trans ((Wr.b w321 rfl).trans k314_120_68))
                    exact Tr.zret (pc := 335) d_X12_tick_335 rfl (by omega) ⟨hS, _, rfl, by omega, by omega, by omega, by omega, by omega, (fun _ B B1 hB => dt_end (DE.fr tp314_0 (fun p => ((Wr.b w331 rfl).trans ((Wr.b w321 rfl).trans rfl)))) (St.kp hS (by decide) (by decide) (by decide)) (fun p => St.ka hS (by decide) (by decide) (by decide)) B1 hB)⟩
                  refine Tr.if_eq (pc := 301) (tgt := 314) d_X12_tick_301 rfl (fun c301 => ?_) (fun c301 => ?_)
                  · refine Tr.pick [0, 2] (ls2 := [(0, (2, 120)), (2, (1, p43_2))]) rfl ?_
                    exact J314 _ hS k131_120_59 k131_120_61 k131_120_62 k131_120_68 er298 k131_126_1 ⟨p131_4, by omega, DT.fr tp131_0 (fun p => rfl)⟩
                  · refine Tr.aload_n (pc := 304) (i := 0) d_X12_tick_304 rfl rfl ?_
                    refine Tr.getf (pc := 305) d_X12_tick_305 f_12_228 (by decide) (by decide) (ty_120 hS.1.1) ?_
                    refine Tr.tp 162 (fx_120_71 hS.1.1) ?_
                    refine Tr.aload_n (pc := 308) (i := 0) d_X12_tick_308 rfl rfl ?_
                    refine Tr.getf (pc := 309) d_X12_tick_309 f_12_201 (by decide) (by decide) (ty_120 hS.1.1) ?_
                    refine Tr.tp g120_62 k131_120_62 ?_
                    refine Tr.iload_n (pc := 312) (i := 1) d_X12_tick_312 rfl rfl ?_
                    refine Tr.tp (-1) (by omega) ?_
                    refine Tr.iastS (pc := 313) (P := St Tb1 ws_X12_tick_120_w3 as_X12_tick_120_w3 M0) d_X12_tick_313 (ty_162 hS.1.1) (by omega) (by omega) (sa_162 hS (by decide) (by omega) (Tb1.of hS.1.2.2.2.2 (fun _ => rd_wb _ rfl) (rd_wb _ rfl))) (fun M313 hS w313 => ?_)
                    refine Tr.pick [0, 2] (ls2 := [(0, (2, 120)), (2, (1, p43_2))]) rfl ?_
                    exact J314 _ hS ((Wr.b w313 rfl).trans k131_120_59) ((Wr.b w313 rfl).trans k131_120_61) ((Wr.b w313 rfl).trans k131_120_62) ((Wr.b w313 rfl).trans k131_120_68) ((Wr.b w313 rfl).trans er298) ((Wr.b w313 rfl).trans k131_126_1) ⟨p131_4, by omega, DT.fr tp131_0 (fun p => ((Wr.b w313 rfl).trans rfl))⟩
                · refine Tr.aload_n (pc := 145) (i := 0) d_X12_tick_145 rfl rfl ?_
                  refine Tr.iload (pc := 146) (i := 4) d_X12_tick_146 rfl ?_
                  refine Tr.callV (pc := 148) (as := [_]) d_X12_tick_148 s_12_571 ok_X12_stateOf rfl rfl (Nat.le_of_ble_eq_true rfl) (Nat.le_of_ble_eq_true rfl) (by decide) (ty_120 hS.1.1) ?_
                  refine Tr.imp (Tr.deep (by decide) (sp_X12_stateOf_120 hS.1.wk p131_4 (by omega))) ?_
                  rintro M148 _ ⟨h148, r148, rfl, lr148, ur148, z148_0⟩
                  have h148 := St.rn h148 (Tb1.of hS.1.2.2.2.2 (fun _ => (St.ka h148 (by decide) (by decide) (by decide))) (St.kp h148 (by decide) (by decide) (by decide)))
                  have hS := St.tr hS h148 (by decide) (by decide)
                  have ka148_120_59 : rd M148 120 59 = g120_59 := ((St.kp h148 (by decide) (by decide) (by decide)).trans k131_120_59)
                  have ka148_120_61 : rd M148 120 61 = g120_61 := ((St.kp h148 (by decide) (by decide) (by decide)).trans k131_120_61)
                  refine Tr.sc [(0, r148)] rfl ?_
                  obtain ⟨th156, eth156⟩ : ∃ v, rd M 156 p131_4 = v := ⟨_, rfl⟩
                  have bth156 : 0 ≤ th156 ∧ th156 ≤ 1 := by rw [← eth156, ← show rd M148 156 p131_4 = rd M 156 p131_4 from St.ka h148 (by decide) (by decide) (by decide)]; exact ar_156 hS.1.2.1 _
                  obtain ⟨th158, eth158⟩ : ∃ v, rd M 158 p131_4 = v := ⟨_, rfl⟩
                  have bth158 : (-2147483648) ≤ th158 ∧ th158 ≤ 2147483647 := by rw [← eth158, ← show rd M148 158 p131_4 = rd M 158 p131_4 from St.ka h148 (by decide) (by decide) (by decide)]; exact ar_158 hS.1.2.1 _
                  have q156 : rd M 156 p131_4 = rd M0 156 p131_4 := (St.ka h148 (by decide) (by decide) (by decide)).symm.trans (St.ka hS (by decide) (by decide) (by decide))
                  have q158 : rd M 158 p131_4 = rd M0 158 p131_4 := (tp131_0 p131_4 (by omega)).2.1 (by omega)
                  refine Tr.istore (pc := 151) (i := 5) (ls2 := [(5, (0, r148)), (0, (2, 120)), (1, (0, a1)), (2, (1, p43_2)), (4, (0, p131_4))]) d_X12_tick_151 (by decide) rfl ?_
                  refine Tr.aload_n (pc := 153) (i := 0) d_X12_tick_153 rfl rfl ?_
                  refine Tr.getf (pc := 154) d_X12_tick_154 f_12_222 (by decide) (by decide) (ty_120 hS.1.1) ?_
                  refine Tr.tp 161 (fx_120_69 hS.1.1) ?_
                  refine Tr.iconst (pc := 157) d_X12_tick_157 (by decide) ?_
                  refine Tr.iload (pc := 158) (i := 4) d_X12_tick_158 rfl ?_
                  refine Tr.imul (pc := 160) d_X12_tick_160 ?_
                  refine Tr.tp (4 * p131_4) ((w32_id (by omega)).trans (by omega)) ?_
                  refine Tr.iload (pc := 161) (i := 5) d_X12_tick_161 rfl ?_
                  refine Tr.iadd (pc := 163) d_X12_tick_163 ?_
                  refine Tr.tp (4 * p131_4 + r148) ((w32_id (by omega)).trans (by omega)) ?_
                  refine Tr.dup2 (pc := 164) d_X12_tick_164 ne01 ne21 ?_
                  refine Tr.iald (pc := 165) d_X12_tick_165 (ty_161 hS.1.1) (by omega) (by omega) ?_
                  refine Tr.gen (P := fun v => (-2147483648) ≤ v ∧ v ≤ 2147483647) (ar_161 hS.1.2.1 _) (fun r165 er165 br165 => ?_)
                  refine Tr.iconst (pc := 166) d_X12_tick_166 (by decide) ?_
                  refine Tr.iadd (pc := 167) d_X12_tick_167 ?_
                  refine Tr.gen (P := fun v => (-2147483648) ≤ v ∧ v ≤ 2147483647) (w32_b _) (fun r167 er167 br167 => ?_)
                  refine Tr.iastS (pc := 168) (P := St Tb1 ws_X12_tick_120_w3 as_X12_tick_120_w3 M0) d_X12_tick_168 (ty_161 hS.1.1) (by omega) (by omega) (sa_161 hS (by decide) (by omega) (Tb1.of hS.1.2.2.2.2 (fun _ => rd_wb _ rfl) (rd_wb _ rfl))) (fun M168 hS w168 => ?_)
                  refine Tr.aload_n (pc := 169) (i := 0) d_X12_tick_169 rfl rfl ?_
                  refine Tr.getz (pc := 170) d_X12_tick_170 f_12_225 (by decide) (ty_120 hS.1.1) ?_
                  refine Tr.gen (P := fun v => 0 ≤ v ∧ v ≤ 1) (ir_120_70 hS.1.2.1) (fun r170 er170 br170 => ?_)
                  have J264 : ∀ (M : Mem), St Tb1 ws_X12_tick_120_w3 as_X12_tick_120_w3 M0 M → rd M 120 59 = g120_59 → rd M 120 61 = g120_61 → rd M 120 62 = g120_62 → rd M 120 68 = g120_68 → rd M 120 70 = r170 → rd M 126 1 = g126_1 → rd M 156 p131_4 = th156 → rd M 158 p131_4 = th158 → rd M 161 (4 * p131_4 + r148) = r167 → (DT M0 M p131_4) → Tr l K 3 mX12_tick 264 [(0, (2, 120)), (1, (0, a1)), (2, (1, p43_2)), (4, (0, p131_4)), (5, (0, r148))] [] M (q_X12_tick_120_w3 a1 M0) := by
                    intro M  hS  k264_120_59 k264_120_61 k264_120_62 k264_120_68 k264_120_70 k264_126_1 k264_156_p131_410 k264_158_p131_410 k264_161_p131_44r14810 tp264_0
                    refine Tr.iload (pc := 264) (i := 5) d_X12_tick_264 rfl ?_
                    refine Tr.iconst (pc := 266) d_X12_tick_266 (by decide) ?_
                    have J291 : ∀ (M : Mem), St Tb1 ws_X12_tick_120_w3 as_X12_tick_120_w3 M0 M → rd M 120 59 = g120_59 → rd M 120 61 = g120_61 → rd M 120 62 = g120_62 → rd M 120 68 = g120_68 → rd M 120 70 = r170 → rd M 126 1 = g126_1 → rd M 156 p131_4 = th156 → rd M 161 (4 * p131_4 + r148) = r167 → (DT M0 M (p131_4 + 1)) → Tr l K 3 mX12_tick 291 [(0, (2, 120)), (1, (0, a1)), (2, (1, p43_2)), (4, (0, p131_4))] [] M (q_X12_tick_120_w3 a1 M0) := by
                      intro M  hS  k291_120_59 k291_120_61 k291_120_62 k291_120_68 k291_120_70 k291_126_1 k291_156_p131_410 k291_161_p131_44r14810 tp291_0
                      refine Tr.iincV (pc := 291) (n2 := (p131_4 + 1)) (ls2 := [(4, (0, (p131_4 + 1))), (0, (2, 120)), (1, (0, a1)), (2, (1, p43_2))]) d_X12_tick_291 rfl (by decide) ((w32_id (by omega)).trans (by omega)) rfl ?_
                      refine Tr.goto (pc := 294) (tgt := 131) d_X12_tick_294 rfl ?_
                      refine Tr.pick [1, 2, 3, 0] (ls2 := [(0, (2, 120)), (1, (0, a1)), (2, (1, p43_2)), (4, (0, (p131_4 + 1)))]) rfl ?_
                      exact J131 _ _ hS (by omega) k291_120_59 k291_120_61 k291_120_62 k291_120_68 k291_126_1 tp291_0 (by omega)
                    refine Tr.icmp_ne (pc := 267) (tgt := 291) d_X12_tick_267 rfl (fun c267 => ?_) (fun c267 => ?_)
                    · refine Tr.pick [0, 1, 2, 3] (ls2 := [(0, (2, 120)), (1, (0, a1)), (2, (1, p43_2)), (4, (0, p131_4))]) rfl ?_
                      have q9 : rd M 156 p131_4 = rd M0 156 p131_4 := St.ka hS (by decide) (by decide) (by decide)
                      exact J291 _ hS k264_120_59 k264_120_61 k264_120_62 k264_120_68 k264_120_70 k264_126_1 k264_156_p131_410 k264_161_p131_44r14810 (dt_skip tp264_0 (by omega) (fun hh => by omega))
                    · refine Tr.aload_n (pc := 270) (i := 0) d_X12_tick_270 rfl rfl ?_
                      refine Tr.getf (pc := 271) d_X12_tick_271 f_12_177 (by decide) (by decide) (ty_120 hS.1.1) ?_
                      refine Tr.tp 156 (fx_120_54 hS.1.1) ?_
                      refine Tr.iload (pc := 274) (i := 4) d_X12_tick_274 rfl ?_
                      refine Tr.zald (pc := 276) d_X12_tick_276 (ty_156 hS.1.1) (by omega) (by omega) ?_
                      refine Tr.tp th156 k264_156_p131_410 ?_
                      refine Tr.if_ne (pc := 277) (tgt := 291) d_X12_tick_277 rfl (fun c277 => ?_) (fun c277 => ?_)
                      · refine Tr.pick [0, 1, 2, 3] (ls2 := [(0, (2, 120)), (1, (0, a1)), (2, (1, p43_2)), (4, (0, p131_4))]) rfl ?_
                        have q9 : rd M 156 p131_4 = rd M0 156 p131_4 := St.ka hS (by decide) (by decide) (by decide)
                        exact J291 _ hS k264_120_59 k264_120_61 k264_120_62 k264_120_68 k264_120_70 k264_126_1 k264_156_p131_410 k264_161_p131_44r14810 (dt_skip tp264_0 (by omega) (fun hh => by omega))
                      · refine Tr.aload_n (pc := 280) (i := 0) d_X12_tick_280 rfl rfl ?_
                        refine Tr.getf (pc := 281) d_X12_tick_281 f_12_183 (by decide) (by decide) (ty_120 hS.1.1) ?_
                        refine Tr.tp 158 (fx_120_56 hS.1.1) ?_
                        refine Tr.iload (pc := 284) (i := 4) d_X12_tick_284 rfl ?_
                        refine Tr.dup2 (pc := 286) d_X12_tick_286 ne01 ne21 ?_
                        refine Tr.iald (pc := 287) d_X12_tick_287 (ty_158 hS.1.1) (by omega) (by omega) ?_
                        refine Tr.tp th158 k264_158_p131_410 ?_
                        refine Tr.iconst (pc := 288) d_X12_tick_288 (by decide) ?_
                        refine Tr.isub (pc := 289) d_X12_tick_289 ?_
                        refine Tr.tp (th158 - 1) ((w32_id (by omega)).trans (by omega)) ?_
                        refine Tr.iastS (pc := 290) (P := St Tb1 ws_X12_tick_120_w3 as_X12_tick_120_w3 M0) d_X12_tick_290 (ty_158 hS.1.1) (by omega) (by omega) (sa_158 hS (by decide) (by omega) (Tb1_wr hS.1.2.2.2.2 (fun i0 i1 => by have h8 := hS.1.2.2.2.2 _ i0 i1; omega))) (fun M290 hS w290 => ?_)
                        refine Tr.pick [0, 1, 2, 3] (ls2 := [(0, (2, 120)), (1, (0, a1)), (2, (1, p43_2)), (4, (0, p131_4))]) rfl ?_
                        have q9 : rd M290 156 p131_4 = rd M0 156 p131_4 := St.ka hS (by decide) (by decide) (by decide)
                        exact J291 _ hS ((Wr.b w290 rfl).trans k264_120_59) ((Wr.b w290 rfl).trans k264_120_61) ((Wr.b w290 rfl).trans k264_120_62) ((Wr.b w290 rfl).trans k264_120_68) ((Wr.b w290 rfl).trans k264_120_70) ((Wr.b w290 rfl).trans k264_126_1) ((Wr.b w290 rfl).trans k264_156_p131_410) ((Wr.b w290 rfl).trans k264_161_p131_44r14810) (dt_dec tp264_0 (by rw [k264_158_p131_410]; exact w290))
                  refine Tr.if_eq (pc := 173) (tgt := 264) d_X12_tick_173 rfl (fun c173 => ?_) (fun c173 => ?_)
                  · refine Tr.pick [1, 2, 3, 4, 0] (ls2 := [(0, (2, 120)), (1, (0, a1)), (2, (1, p43_2)), (4, (0, p131_4)), (5, (0, r148))]) rfl ?_
                    exact J264 _ hS ((Wr.b w168 rfl).trans ((St.kp h148 (by decide) (by decide) (by decide)).trans k131_120_59)) ((Wr.b w168 rfl).trans ((St.kp h148 (by decide) (by decide) (by decide)).trans k131_120_61)) ((Wr.b w168 rfl).trans ((St.kp h148 (by decide) (by decide) (by decide)).trans k131_120_62)) ((Wr.b w168 rfl).trans ((St.kp h148 (by decide) (by decide) (by decide)).trans k131_120_68)) er170 ((Wr.b w168 rfl).trans ((St.kp h148 (by decide) (by decide) (by decide)).trans k131_126_1)) ((Wr.b w168 rfl).trans ((St.ka h148 (by decide) (by decide) (by decide)).trans eth156)) ((Wr.b w168 rfl).trans ((St.ka h148 (by decide) (by decide) (by decide)).trans eth158)) w168.1 (DT.fr tp131_0 (fun p => ((Wr.b w168 rfl).trans ((St.ka h148 (by decide) (by decide) (by decide)).trans rfl))))
                  · refine Tr.aload_n (pc := 176) (i := 0) d_X12_tick_176 rfl rfl ?_
                    refine Tr.getf (pc := 177) d_X12_tick_177 f_12_231 (by decide) (by decide) (ty_120 hS.1.1) ?_
                    refine Tr.tp 163 (fx_120_72 hS.1.1) ?_
                    refine Tr.sipush (pc := 180) d_X12_tick_180 rfl (by decide) ?_
                    refine Tr.iload (pc := 183) (i := 4) d_X12_tick_183 rfl ?_
                    refine Tr.imul (pc := 185) d_X12_tick_185 ?_
                    refine Tr.tp (2100 * p131_4) ((w32_id (by omega)).trans (by omega)) ?_
                    refine Tr.aload_n (pc := 186) (i := 0) d_X12_tick_186 rfl rfl ?_
                    refine Tr.getf (pc := 187) d_X12_tick_187 f_12_201 (by decide) (by decide) (ty_120 hS.1.1) ?_
                    refine Tr.tp g120_62 ((Wr.b w168 rfl).trans ((St.kp h148 (by decide) (by decide) (by decide)).trans k131_120_62)) ?_
                    refine Tr.iadd (pc := 190) d_X12_tick_190 ?_
                    refine Tr.tp (g120_62 + 2100 * p131_4) ((w32_id (by omega)).trans (by omega)) ?_
                    refine Tr.iload (pc := 191) (i := 5) d_X12_tick_191 rfl ?_
                    refine Tr.iastS (pc := 193) (P := St Tb1 ws_X12_tick_120_w3 as_X12_tick_120_w3 M0) d_X12_tick_193 (ty_163 hS.1.1) (by omega) (by omega) (sa_163 hS (by decide) (by omega) (Tb1.of hS.1.2.2.2.2 (fun _ => rd_wb _ rfl) (rd_wb _ rfl))) (fun M193 hS w193 => ?_)
                    refine Tr.aload_n (pc := 194) (i := 0) d_X12_tick_194 rfl rfl ?_
                    refine Tr.getf (pc := 195) d_X12_tick_195 f_12_234 (by decide) (by decide) (ty_120 hS.1.1) ?_
                    refine Tr.tp 164 (fx_120_73 hS.1.1) ?_
                    refine Tr.sipush (pc := 198) d_X12_tick_198 rfl (by decide) ?_
                    refine Tr.iload (pc := 201) (i := 4) d_X12_tick_201 rfl ?_
                    refine Tr.imul (pc := 203) d_X12_tick_203 ?_
                    refine Tr.tp (2100 * p131_4) ((w32_id (by omega)).trans (by omega)) ?_
                    refine Tr.aload_n (pc := 204) (i := 0) d_X12_tick_204 rfl rfl ?_
                    refine Tr.getf (pc := 205) d_X12_tick_205 f_12_201 (by decide) (by decide) (ty_120 hS.1.1) ?_
                    refine Tr.tp g120_62 ((Wr.b w193 rfl).trans ((Wr.b w168 rfl).trans ((St.kp h148 (by decide) (by decide) (by decide)).trans k131_120_62))) ?_
                    refine Tr.iadd (pc := 208) d_X12_tick_208 ?_
                    refine Tr.tp (g120_62 + 2100 * p131_4) ((w32_id (by omega)).trans (by omega)) ?_
                    refine Tr.iload (pc := 209) (i := 5) d_X12_tick_209 rfl ?_
                    refine Tr.iconst (pc := 211) d_X12_tick_211 (by decide) ?_
                    have J226 : ∀ (M : Mem) (q226_2 : Int), St Tb1 ws_X12_tick_120_w3 as_X12_tick_120_w3 M0 M → ((-1) ≤ q226_2 ∧ q226_2 ≤ 59) → rd M 120 59 = g120_59 → rd M 120 61 = g120_61 → rd M 120 62 = g120_62 → rd M 120 68 = g120_68 → rd M 120 70 = r170 → rd M 126 1 = g126_1 → rd M 156 p131_4 = th156 → rd M 158 p131_4 = th158 → rd M 161 (4 * p131_4 + r148) = r167 → rd M 163 (g120_62 + 2100 * p131_4) = r148 → (DT M0 M p131_4) → Tr l K 3 mX12_tick 226 [(0, (2, 120)), (1, (0, a1)), (2, (1, p43_2)), (4, (0, p131_4)), (5, (0, r148))] [(0, q226_2), (0, (g120_62 + 2100 * p131_4)), (2, 164)] M (q_X12_tick_120_w3 a1 M0) := by
                      intro M q226_2 hS bq226_2 k226_120_59 k226_120_61 k226_120_62 k226_120_68 k226_120_70 k226_126_1 k226_156_p131_410 k226_158_p131_410 k226_161_p131_44r14810 k226_163_g120_621p131_421000 tp226_0
                      refine Tr.iastS (pc := 226) (P := St Tb1 ws_X12_tick_120_w3 as_X12_tick_120_w3 M0) d_X12_tick_226 (ty_164 hS.1.1) (by omega) (by omega) (sa_164 hS (by decide) (by omega) (Tb1.of hS.1.2.2.2.2 (fun _ => rd_wb _ rfl) (rd_wb _ rfl))) (fun M226 hS w226 => ?_)
                      refine Tr.aload_n (pc := 227) (i := 0) d_X12_tick_227 rfl rfl ?_
                      refine Tr.getf (pc := 228) d_X12_tick_228 f_12_237 (by decide) (by decide) (ty_120 hS.1.1) ?_
                      refine Tr.tp 165 (fx_120_74 hS.1.1) ?_
                      refine Tr.sipush (pc := 231) d_X12_tick_231 rfl (by decide) ?_
                      refine Tr.iload (pc := 234) (i := 4) d_X12_tick_234 rfl ?_
                      refine Tr.imul (pc := 236) d_X12_tick_236 ?_
                      refine Tr.tp (2100 * p131_4) ((w32_id (by omega)).trans (by omega)) ?_
                      refine Tr.aload_n (pc := 237) (i := 0) d_X12_tick_237 rfl rfl ?_
                      refine Tr.getf (pc := 238) d_X12_tick_238 f_12_201 (by decide) (by decide) (ty_120 hS.1.1) ?_
                      refine Tr.tp g120_62 ((Wr.b w226 rfl).trans k226_120_62) ?_
                      refine Tr.iadd (pc := 241) d_X12_tick_241 ?_
                      refine Tr.tp (g120_62 + 2100 * p131_4) ((w32_id (by omega)).trans (by omega)) ?_
                      refine Tr.aload_n (pc := 242) (i := 0) d_X12_tick_242 rfl rfl ?_
                      refine Tr.getf (pc := 243) d_X12_tick_243 f_12_177 (by decide) (by decide) (ty_120 hS.1.1) ?_
                      refine Tr.tp 156 (fx_120_54 hS.1.1) ?_
                      refine Tr.iload (pc := 246) (i := 4) d_X12_tick_246 rfl ?_
                      refine Tr.zald (pc := 248) d_X12_tick_248 (ty_156 hS.1.1) (by omega) (by omega) ?_
                      refine Tr.tp th156 ((Wr.b w226 rfl).trans k226_156_p131_410) ?_
                      have J263 : ∀ (M : Mem) (q263_2 : Int), St Tb1 ws_X12_tick_120_w3 as_X12_tick_120_w3 M0 M → ((-1) ≤ q263_2 ∧ q263_2 ≤ 59) → rd M 120 59 = g120_59 → rd M 120 61 = g120_61 → rd M 120 62 = g120_62 → rd M 120 68 = g120_68 → rd M 120 70 = r170 → rd M 126 1 = g126_1 → rd M 156 p131_4 = th156 → rd M 158 p131_4 = th158 → rd M 161 (4 * p131_4 + r148) = r167 → rd M 163 (g120_62 + 2100 * p131_4) = r148 → rd M 164 (g120_62 + 2100 * p131_4) = q226_2 → (DT M0 M p131_4) → Tr l K 3 mX12_tick 263 [(0, (2, 120)), (1, (0, a1)), (2, (1, p43_2)), (4, (0, p131_4)), (5, (0, r148))] [(0, q263_2), (0, (g120_62 + 2100 * p131_4)), (2, 165)] M (q_X12_tick_120_w3 a1 M0) := by
                        intro M q263_2 hS bq263_2 k263_120_59 k263_120_61 k263_120_62 k263_120_68 k263_120_70 k263_126_1 k263_156_p131_410 k263_158_p131_410 k263_161_p131_44r14810 k263_163_g120_621p131_421000 k263_164_g120_621p131_421000 tp263_0
                        refine Tr.iastS (pc := 263) (P := St Tb1 ws_X12_tick_120_w3 as_X12_tick_120_w3 M0) d_X12_tick_263 (ty_165 hS.1.1) (by omega) (by omega) (sa_165 hS (by decide) (by omega) (Tb1.of hS.1.2.2.2.2 (fun _ => rd_wb _ rfl) (rd_wb _ rfl))) (fun M263 hS w263 => ?_)
                        refine Tr.pick [0, 1, 2, 3, 4] (ls2 := [(0, (2, 120)), (1, (0, a1)), (2, (1, p43_2)), (4, (0, p131_4)), (5, (0, r148))]) rfl ?_
                        exact J264 _ hS ((Wr.b w263 rfl).trans k263_120_59) ((Wr.b w263 rfl).trans k263_120_61) ((Wr.b w263 rfl).trans k263_120_62) ((Wr.b w263 rfl).trans k263_120_68) ((Wr.b w263 rfl).trans k263_120_70) ((Wr.b w263 rfl).trans k263_126_1) ((Wr.b w263 rfl).trans k263_156_p131_410) ((Wr.b w263 rfl).trans k263_158_p131_410) ((Wr.b w263 rfl).trans k263_161_p131_44r14810) (DT.fr tp263_0 (fun p => ((Wr.b w263 rfl).trans rfl)))
                      refine Tr.if_eq (pc := 249) (tgt := 262) d_X12_tick_249 rfl (fun c249 => ?_) (fun c249 => ?_)
                      · refine Tr.iconst (pc := 262) d_X12_tick_262 (by decide) ?_
                        refine Tr.pick [0, 1, 2, 3, 4] (ls2 := [(0, (2, 120)), (1, (0, a1)), (2, (1, p43_2)), (4, (0, p131_4)), (5, (0, r148))]) rfl ?_
                        exact J263 _ _ hS (by omega) ((Wr.b w226 rfl).trans k226_120_59) ((Wr.b w226 rfl).trans k226_120_61) ((Wr.b w226 rfl).trans k226_120_62) ((Wr.b w226 rfl).trans k226_120_68) ((Wr.b w226 rfl).trans k226_120_70) ((Wr.b w226 rfl).trans k226_126_1) ((Wr.b w226 rfl).trans k226_156_p131_410) ((Wr.b w226 rfl).trans k226_158_p131_410) ((Wr.b w226 rfl).trans k226_161_p131_44r14810) ((Wr.b w226 rfl).trans k226_163_g120_621p131_421000) w226.1 (DT.fr tp226_0 (fun p => ((Wr.b w226 rfl).trans rfl)))
                      · refine Tr.aload_n (pc := 252) (i := 0) d_X12_tick_252 rfl rfl ?_
                        refine Tr.getf (pc := 253) d_X12_tick_253 f_12_180 (by decide) (by decide) (ty_120 hS.1.1) ?_
                        refine Tr.tp 157 (fx_120_55 hS.1.1) ?_
                        refine Tr.iload (pc := 256) (i := 4) d_X12_tick_256 rfl ?_
                        refine Tr.iald (pc := 258) d_X12_tick_258 (ty_157 hS.1.1) (by omega) (by omega) ?_
                        refine Tr.gen (P := fun v => (-1) ≤ v ∧ v ≤ 59) (ar_157 hS.1.2.1 _) (fun r258 er258 br258 => ?_)
                        refine Tr.goto (pc := 259) (tgt := 263) d_X12_tick_259 rfl ?_
                        refine Tr.pick [0, 1, 2, 3, 4] (ls2 := [(0, (2, 120)), (1, (0, a1)), (2, (1, p43_2)), (4, (0, p131_4)), (5, (0, r148))]) rfl ?_
                        exact J263 _ _ hS (by omega) ((Wr.b w226 rfl).trans k226_120_59) ((Wr.b w226 rfl).trans k226_120_61) ((Wr.b w226 rfl).trans k226_120_62) ((Wr.b w226 rfl).trans k226_120_68) ((Wr.b w226 rfl).trans k226_120_70) ((Wr.b w226 rfl).trans k226_126_1) ((Wr.b w226 rfl).trans k226_156_p131_410) ((Wr.b w226 rfl).trans k226_158_p131_410) ((Wr.b w226 rfl).trans k226_161_p131_44r14810) ((Wr.b w226 rfl).trans k226_163_g120_621p131_421000) w226.1 (DT.fr tp226_0 (fun p => ((Wr.b w226 rfl).trans rfl)))
                    refine Tr.icmp_ne (pc := 212) (tgt := 225) d_X12_tick_212 rfl (fun c212 => ?_) (fun c212 => ?_)
                    · refine Tr.iload_n (pc := 225) (i := 1) d_X12_tick_225 rfl rfl ?_
                      refine Tr.tp (-1) (by omega) ?_
                      refine Tr.pick [1, 2, 3, 4, 0] (ls2 := [(0, (2, 120)), (1, (0, a1)), (2, (1, p43_2)), (4, (0, p131_4)), (5, (0, r148))]) rfl ?_
                      exact J226 _ _ hS (by omega) ((Wr.b w193 rfl).trans ((Wr.b w168 rfl).trans ((St.kp h148 (by decide) (by decide) (by decide)).trans k131_120_59))) ((Wr.b w193 rfl).trans ((Wr.b w168 rfl).trans ((St.kp h148 (by decide) (by decide) (by decide)).trans k131_120_61))) ((Wr.b w193 rfl).trans ((Wr.b w168 rfl).trans ((St.kp h148 (by decide) (by decide) (by decide)).trans k131_120_62))) ((Wr.b w193 rfl).trans ((Wr.b w168 rfl).trans ((St.kp h148 (by decide) (by decide) (by decide)).trans k131_120_68))) ((Wr.b w193 rfl).trans er170) ((Wr.b w193 rfl).trans ((Wr.b w168 rfl).trans ((St.kp h148 (by decide) (by decide) (by decide)).trans k131_126_1))) ((Wr.b w193 rfl).trans ((Wr.b w168 rfl).trans ((St.ka h148 (by decide) (by decide) (by decide)).trans eth156))) ((Wr.b w193 rfl).trans ((Wr.b w168 rfl).trans ((St.ka h148 (by decide) (by decide) (by decide)).trans eth158))) ((Wr.b w193 rfl).trans w168.1) w193.1 (DT.fr tp131_0 (fun p => ((Wr.b w193 rfl).trans ((Wr.b w168 rfl).trans ((St.ka h148 (by decide) (by decide) (by decide)).trans rfl)))))
                    · refine Tr.aload_n (pc := 215) (i := 0) d_X12_tick_215 rfl rfl ?_
                      refine Tr.getf (pc := 216) d_X12_tick_216 f_12_186 (by decide) (by decide) (ty_120 hS.1.1) ?_
                      refine Tr.tp 159 (fx_120_57 hS.1.1) ?_
                      refine Tr.iload (pc := 219) (i := 4) d_X12_tick_219 rfl ?_
                      refine Tr.iald (pc := 221) d_X12_tick_221 (ty_159 hS.1.1) (by omega) (by omega) ?_
                      refine Tr.gen (P := fun v => (-1) ≤ v ∧ v ≤ 59) (ar_159 hS.1.2.1 _) (fun r221 er221 br221 => ?_)
                      refine Tr.goto (pc := 222) (tgt := 226) d_X12_tick_222 rfl ?_
                      refine Tr.pick [1, 2, 3, 4, 0] (ls2 := [(0, (2, 120)), (1, (0, a1)), (2, (1, p43_2)), (4, (0, p131_4)), (5, (0, r148))]) rfl ?_
                      exact J226 _ _ hS (by omega) ((Wr.b w193 rfl).trans ((Wr.b w168 rfl).trans ((St.kp h148 (by decide) (by decide) (by decide)).trans k131_120_59))) ((Wr.b w193 rfl).trans ((Wr.b w168 rfl).trans ((St.kp h148 (by decide) (by decide) (by decide)).trans k131_120_61))) ((Wr.b w193 rfl).trans ((Wr.b w168 rfl).trans ((St.kp h148 (by decide) (by decide) (by decide)).trans k131_120_62))) ((Wr.b w193 rfl).trans ((Wr.b w168 rfl).trans ((St.kp h148 (by decide) (by decide) (by decide)).trans k131_120_68))) ((Wr.b w193 rfl).trans er170) ((Wr.b w193 rfl).trans ((Wr.b w168 rfl).trans ((St.kp h148 (by decide) (by decide) (by decide)).trans k131_126_1))) ((Wr.b w193 rfl).trans ((Wr.b w168 rfl).trans ((St.ka h148 (by decide) (by decide) (by decide)).trans eth156))) ((Wr.b w193 rfl).trans ((Wr.b w168 rfl).trans ((St.ka h148 (by decide) (by decide) (by decide)).trans eth158))) ((Wr.b w193 rfl).trans w168.1) w193.1 (DT.fr tp131_0 (fun p => ((Wr.b w193 rfl).trans ((Wr.b w168 rfl).trans ((St.ka h148 (by decide) (by decide) (by decide)).trans rfl)))))
            refine Tr.pick [1, 2, 3, 0] (ls2 := [(0, (2, 120)), (1, (0, a1)), (2, (1, p43_2)), (4, (0, 0))]) rfl ?_
            exact J131 _ _ _ hS (by omega) k119_120_59 k119_120_61 k119_120_62 k119_120_68 k119_126_1 (fun p p0 => ⟨Int.le_of_eq ((tp119_0 p)), fun _ => (tp119_0 p), fun c => absurd c (by omega)⟩) (Nat.lt_succ_self _)
          · refine Tr.iconst (pc := 126) d_X12_tick_126 (by decide) ?_
            have kr_120_59 : rd M 120 59 = g120_59 := k119_120_59
            have kr_120_62 : rd M 120 62 = g120_62 := k119_120_62
            have kr_120_68 : rd M 120 68 = g120_68 := k119_120_68
            exact Tr.zret (pc := 127) d_X12_tick_127 rfl (by omega) ⟨hS, _, rfl, by omega, by omega, by omega, by omega, by omega, (fun c => absurd c (by omega))⟩
        refine Tr.if_ne (pc := 83) (tgt := 119) d_X12_tick_83 rfl (fun c83 => ?_) (fun c83 => ?_)
        · refine Tr.pick [0, 1, 2] (ls2 := [(0, (2, 120)), (1, (0, a1)), (2, (1, p43_2))]) rfl ?_
          exact J119 _ hS k43_120_59 k43_120_61 k43_120_62 k43_120_68 k43_126_1 (by first | assumption | omega) (by first | assumption | omega) (fun p => (tp43_0 p))
        · refine Tr.iload_n (pc := 86) (i := 1) d_X12_tick_86 rfl rfl ?_
          refine Tr.tp (-1) (by omega) ?_
          refine Tr.iconst (pc := 87) d_X12_tick_87 (by decide) ?_
          refine Tr.icmp_eq (pc := 88) (tgt := 119) d_X12_tick_88 rfl (fun _ => ?_) (fun hc => absurd (by omega) hc)
          refine Tr.pick [0, 1, 2] (ls2 := [(0, (2, 120)), (1, (0, a1)), (2, (1, p43_2))]) rfl ?_
          exact J119 _ hS k43_120_59 k43_120_61 k43_120_62 k43_120_68 k43_126_1 (by first | assumption | omega) (by first | assumption | omega) (fun p => (tp43_0 p))
      · refine Tr.lload_n (pc := 57) (i := 2) d_X12_tick_57 rfl rfl ?_
        refine Tr.aload_n (pc := 58) (i := 0) d_X12_tick_58 rfl rfl ?_
        refine Tr.iload (pc := 59) (i := 4) d_X12_tick_59 rfl ?_
        refine Tr.aload_n (pc := 61) (i := 0) d_X12_tick_61 rfl rfl ?_
        refine Tr.iload (pc := 62) (i := 4) d_X12_tick_62 rfl ?_
        refine Tr.callV (pc := 64) (as := [_]) d_X12_tick_64 s_12_571 ok_X12_stateOf rfl rfl (Nat.le_of_ble_eq_true rfl) (Nat.le_of_ble_eq_true rfl) (by decide) (ty_120 hS.1.1) ?_
        refine Tr.imp (Tr.deep (by decide) (sp_X12_stateOf_120 hS.1.wk p43_4 (by omega))) ?_
        rintro M64 _ ⟨h64, r64, rfl, lr64, ur64, z64_0⟩
        have h64 := St.rn h64 (Tb1.of hS.1.2.2.2.2 (fun _ => (St.ka h64 (by decide) (by decide) (by decide))) (St.kp h64 (by decide) (by decide) (by decide)))
        have hS := St.tr hS h64 (by decide) (by decide)
        have ka64_120_59 : rd M64 120 59 = g120_59 := ((St.kp h64 (by decide) (by decide) (by decide)).trans k43_120_59)
        have ka64_120_61 : rd M64 120 61 = g120_61 := ((St.kp h64 (by decide) (by decide) (by decide)).trans k43_120_61)
        refine Tr.sc [(0, r64), (0, p43_4), (2, 120), (1, p43_2)] rfl ?_
        refine Tr.callV (pc := 67) (as := [_, _]) d_X12_tick_67 s_12_574 ok_X12_sips rfl rfl (Nat.le_of_ble_eq_true rfl) (Nat.le_of_ble_eq_true rfl) (by decide) (ty_120 hS.1.1) ?_
        refine Tr.imp (Tr.deep (by decide) (sp_X12_sips_120_w1 hS.1.wk ((St.kp hS (by decide) (by decide) (by decide)).trans en_120_12) p43_4 (by omega) r64 (by omega) (Bk1.of hF_Bk1 (fun j => (St.ka hS (by decide) (by decide) (by decide))) (fun j => (St.ka hS (by decide) (by decide) (by decide))) (fun j => (St.ka hS (by decide) (by decide) (by decide))) (fun j => (St.ka hS (by decide) (by decide) (by decide))) (fun j => (St.ka hS (by decide) (by decide) (by decide))) (fun j => (St.ka hS (by decide) (by decide) (by decide))) (fun j => (St.ka hS (by decide) (by decide) (by decide))) (fun j => (St.ka hS (by decide) (by decide) (by decide))) (St.kp hS (by decide) (by decide) (by decide)) (St.kp hS (by decide) (by decide) (by decide)) (St.kp hS (by decide) (by decide) (by decide)) (St.kp hS (by decide) (by decide) (by decide))))) ?_
        rintro M67 _ ⟨h67, r67, rfl, lr67, ur67⟩
        have h67 := St.rn h67 (Tb1.of hS.1.2.2.2.2 (fun _ => (St.ka h67 (by decide) (by decide) (by decide))) (St.kp h67 (by decide) (by decide) (by decide)))
        have hS := St.tr hS h67 (by decide) (by decide)
        refine Tr.sc [(0, r67), (1, p43_2)] rfl ?_
        refine Tr.i2l (pc := 70) d_X12_tick_70 ?_
        refine Tr.ladd (pc := 71) d_X12_tick_71 ?_
        refine Tr.gen (P := fun v => (-9223372036854775808) ≤ v ∧ v ≤ 9223372036854775807) (w64_b _) (fun r71 er71 br71 => ?_)
        refine Tr.lstore_n (pc := 72) (i := 2) (ls2 := [(2, (1, r71)), (0, (2, 120)), (1, (0, a1)), (4, (0, p43_4))]) d_X12_tick_72 rfl (by decide) rfl ?_
        refine Tr.iincV (pc := 73) (n2 := (p43_4 + 1)) (ls2 := [(4, (0, (p43_4 + 1))), (2, (1, r71)), (0, (2, 120)), (1, (0, a1))]) d_X12_tick_73 rfl (by decide) ((w32_id (by omega)).trans (by omega)) rfl ?_
        refine Tr.goto (pc := 76) (tgt := 43) d_X12_tick_76 rfl ?_
        refine Tr.pick [2, 3, 1, 0] (ls2 := [(0, (2, 120)), (1, (0, a1)), (2, (1, r71)), (4, (0, (p43_4 + 1)))]) rfl ?_
        exact J43 _ _ _ hS (by omega) (by omega) ((St.kp h67 (by decide) (by decide) (by decide)).trans ((St.kp h64 (by decide) (by decide) (by decide)).trans k43_120_59)) ((St.kp h67 (by decide) (by decide) (by decide)).trans ((St.kp h64 (by decide) (by decide) (by decide)).trans k43_120_61)) ((St.kp h67 (by decide) (by decide) (by decide)).trans ((St.kp h64 (by decide) (by decide) (by decide)).trans k43_120_62)) ((St.kp h67 (by decide) (by decide) (by decide)).trans ((St.kp h64 (by decide) (by decide) (by decide)).trans k43_120_68)) ((St.kp h67 (by decide) (by decide) (by decide)).trans ((St.kp h64 (by decide) (by decide) (by decide)).trans k43_126_1)) (fun p => ((St.ka h67 (by decide) (by decide) (by decide)).trans ((St.ka h64 (by decide) (by decide) (by decide)).trans (tp43_0 p)))) (by omega)
  refine Tr.pick [2, 3, 1, 0] (ls2 := [(0, (2, 120)), (1, (0, a1)), (2, (1, 0)), (4, (0, 0))]) rfl ?_
  exact J43 _ _ _ _ hS (by omega) (by omega) eg120_59 eg120_61 eg120_62 eg120_68 eg126_1 (fun p => rfl) (Nat.lt_succ_self _)
