def ws_X12_tick_120_w1 : List (Int × Int) := [(120, 62), (120, 63)]
def as_X12_tick_120_w1 : List Int := [158, 161, 162, 163, 164, 165]
def q_X12_tick_120_w1 (a1 : Int) (M0 M' : Mem) (r : Option PV) : Prop := St Tb0 ws_X12_tick_120_w1 as_X12_tick_120_w1 M0 M' ∧ ∃ v : Int, r = some (0, v) ∧ 0 ≤ v ∧ v ≤ 1 ∧ ((v = 1 ∧ rd M' 120 62 = rd M0 120 62 + 1 ∧ (a1 = -1 ∨ rd M' 120 62 ≤ 2000)) ∨ (v = 0 ∧ rd M' 120 62 = rd M0 120 62 ∧ 1 ≤ rd M' 120 68)) ∧ (a1 ≠ -1 ∨ rd M' 120 68 = rd M0 120 68) ∧ (rd M' 120 59 = rd M0 120 59) ∧ (v = 1 → ∀ B : Int, 1 ≤ B → (∀ p : Int, 0 ≤ p → p < rd M0 126 0 → rd M0 156 p = 0 → rd M0 158 p ≤ B) → ∀ p : Int, 0 ≤ p → p < rd M' 126 0 → rd M' 156 p = 0 → rd M' 158 p ≤ B - 1)
set_option maxRecDepth 100000 in
set_option maxHeartbeats 4000000 in
theorem sp_X12_tick_120_w1 {l : Launch} {K : EC} {M0 : Mem} (hI : In Tb0 M0) (en_120_12 : rd M0 120 12 = 0) (a1 : Int) (ha1 : (-1) ≤ a1 ∧ a1 ≤ (-1))  (hq0 : rd M0 120 61 ≠ 2 ∨ rd M0 120 59 = -1) (hq1 : rd M0 120 62 ≤ 2000 ∨ (a1 = -1 ∧ rd M0 120 62 ≤ 2049)) (hq2 : rd M0 120 59 = -1) (hF_Bk0 : Bk0 M0) : Tr l K 3 mX12_tick 0 [(0, (2, 120)), (1, (0, a1))] [] M0 (q_X12_tick_120_w1 a1 M0) := by
  have hS : St Tb0 ws_X12_tick_120_w1 as_X12_tick_120_w1 M0 M0 := St.rf hI
  obtain ⟨g120_62, eg120_62⟩ : ∃ v, rd M0 120 62 = v := ⟨_, rfl⟩
  have bg120_62 : 0 ≤ g120_62 ∧ g120_62 ≤ 2060 := by rw [← eg120_62]; exact ir_120_62 hI.2.1
  obtain ⟨g120_68, eg120_68⟩ : ∃ v, rd M0 120 68 = v := ⟨_, rfl⟩
  have bg120_68 : 0 ≤ g120_68 ∧ g120_68 ≤ 2 := by rw [← eg120_68]; exact ir_120_68 hI.2.1
  obtain ⟨g120_59, eg120_59⟩ : ∃ v, rd M0 120 59 = v := ⟨_, rfl⟩
  have bg120_59 : (-1) ≤ g120_59 ∧ g120_59 ≤ 5 := by rw [← eg120_59]; exact ir_120_59 hI.2.1
  obtain ⟨g126_0, eg126_0⟩ : ∃ v, rd M0 126 0 = v := ⟨_, rfl⟩
  have bg126_0 : 0 ≤ g126_0 ∧ g126_0 ≤ 6 := by rw [← eg126_0]; exact ir_126_0 hI.2.1
  obtain ⟨g120_61, eg120_61⟩ : ∃ v, rd M0 120 61 = v := ⟨_, rfl⟩
  have bg120_61 : 0 ≤ g120_61 ∧ g120_61 ≤ 3 := by rw [← eg120_61]; exact ir_120_61 hI.2.1
  refine Tr.iload_n (pc := 0) (i := 1) d_X12_tick_0 rfl rfl ?_
  refine Tr.tp (-1) (by omega) ?_
  refine Tr.iconst (pc := 1) d_X12_tick_1 (by decide) ?_
  refine Tr.icmp_eq (pc := 2) (tgt := 20) d_X12_tick_2 rfl (fun _ => ?_) (fun hc => absurd (by omega) hc)
  refine Tr.iload_n (pc := 20) (i := 1) d_X12_tick_20 rfl rfl ?_
  refine Tr.tp (-1) (by omega) ?_
  refine Tr.iconst (pc := 21) d_X12_tick_21 (by decide) ?_
  refine Tr.icmp_ne (pc := 22) (tgt := 29) d_X12_tick_22 rfl (fun hc => absurd (by omega) hc) (fun _ => ?_)
  refine Tr.lconst (pc := 25) (v := 0) d_X12_tick_25 rfl (by decide) ?_
  refine Tr.goto (pc := 26) (tgt := 39) d_X12_tick_26 rfl ?_
  refine Tr.lstore_n (pc := 39) (i := 2) (ls2 := [(2, (1, 0)), (0, (2, 120)), (1, (0, a1))]) d_X12_tick_39 rfl (by decide) rfl ?_
  refine Tr.iconst (pc := 40) d_X12_tick_40 (by decide) ?_
  refine Tr.istore (pc := 41) (i := 4) (ls2 := [(4, (0, 0)), (2, (1, 0)), (0, (2, 120)), (1, (0, a1))]) d_X12_tick_41 (by decide) rfl ?_
  have J43 : ∀ (n43 : Nat) (M : Mem) (p43_2 p43_4 : Int), St Tb0 ws_X12_tick_120_w1 as_X12_tick_120_w1 M0 M → ((-9223372036854775808) ≤ p43_2 ∧ p43_2 ≤ 9223372036854775807) → (0 ≤ p43_4 ∧ p43_4 ≤ 6) → rd M 120 59 = g120_59 → rd M 120 61 = g120_61 → rd M 120 62 = g120_62 → rd M 120 68 = g120_68 → rd M 126 0 = g126_0 → (∀ p : Int, rd M 158 p = rd M0 158 p) → (6 - p43_4).toNat < n43 → Tr l K 3 mX12_tick 43 [(0, (2, 120)), (1, (0, a1)), (2, (1, p43_2)), (4, (0, p43_4))] [] M (q_X12_tick_120_w1 a1 M0) := by
    intro n43
    induction n43 with
    | zero => intro M p43_2 p43_4 hS bp43_2 bp43_4 k43_120_59 k43_120_61 k43_120_62 k43_120_68 k43_126_0 tp43_0 hm43; exact absurd hm43 (Nat.not_lt_zero _)
    | succ n43 J43 =>
      intro M p43_2 p43_4 hS bp43_2 bp43_4 k43_120_59 k43_120_61 k43_120_62 k43_120_68 k43_126_0 tp43_0 hm43
      refine Tr.iload (pc := 43) (i := 4) d_X12_tick_43 rfl ?_
      refine Tr.aload_n (pc := 45) (i := 0) d_X12_tick_45 rfl rfl ?_
      refine Tr.getf (pc := 46) d_X12_tick_46 f_12_63 (by decide) (by decide) (ty_120 hS.1.1) ?_
      refine Tr.tp 126 (fx_120_17 hS.1.1) ?_
      refine Tr.aload_n (pc := 49) (i := 0) d_X12_tick_49 rfl rfl ?_
      refine Tr.getf (pc := 50) d_X12_tick_50 f_12_48 (by decide) (by decide) (ty_120 hS.1.1) ?_
      refine Tr.tp 0 ((St.kp hS (by decide) (by decide) (by decide)).trans en_120_12) ?_
      refine Tr.iald (pc := 53) d_X12_tick_53 (ty_126 hS.1.1) (by omega) (by omega) ?_
      refine Tr.tp g126_0 k43_126_0 ?_
      refine Tr.icmp_ge (pc := 54) (tgt := 79) d_X12_tick_54 rfl (fun c54 => ?_) (fun c54 => ?_)
      · refine Tr.aload_n (pc := 79) (i := 0) d_X12_tick_79 rfl rfl ?_
        refine Tr.getf (pc := 80) d_X12_tick_80 f_12_219 (by decide) (by decide) (ty_120 hS.1.1) ?_
        refine Tr.tp g120_68 k43_120_68 ?_
        have J119 : ∀ (M : Mem), St Tb0 ws_X12_tick_120_w1 as_X12_tick_120_w1 M0 M → rd M 120 59 = g120_59 → rd M 120 61 = g120_61 → rd M 120 62 = g120_62 → rd M 120 68 = g120_68 → rd M 126 0 = g126_0 → (a1 = -1 ∨ g120_62 ≠ 2000 ∨ 1 ≤ g120_68) → (a1 ≠ -1 ∨ g120_68 = g120_68) → (∀ p : Int, rd M 158 p = rd M0 158 p) → Tr l K 3 mX12_tick 119 [(0, (2, 120)), (1, (0, a1)), (2, (1, p43_2))] [] M (q_X12_tick_120_w1 a1 M0) := by
          intro M  hS  k119_120_59 k119_120_61 k119_120_62 k119_120_68 k119_126_0 t119_0 t119_1 tp119_0
          refine Tr.aload_n (pc := 119) (i := 0) d_X12_tick_119 rfl rfl ?_
          refine Tr.getf (pc := 120) d_X12_tick_120 f_12_219 (by decide) (by decide) (ty_120 hS.1.1) ?_
          refine Tr.tp g120_68 k119_120_68 ?_
          refine Tr.if_le (pc := 123) (tgt := 128) d_X12_tick_123 rfl (fun c123 => ?_) (fun c123 => ?_)
          · refine Tr.iconst (pc := 128) d_X12_tick_128 (by decide) ?_
            refine Tr.istore (pc := 129) (i := 4) (ls2 := [(4, (0, 0)), (0, (2, 120)), (1, (0, a1)), (2, (1, p43_2))]) d_X12_tick_129 (by decide) rfl ?_
            have J131 : ∀ (n131 : Nat) (M : Mem) (p131_4 : Int), St Tb0 ws_X12_tick_120_w1 as_X12_tick_120_w1 M0 M → (0 ≤ p131_4 ∧ p131_4 ≤ 6) → rd M 120 59 = g120_59 → rd M 120 61 = g120_61 → rd M 120 62 = g120_62 → rd M 120 68 = g120_68 → rd M 126 0 = g126_0 → (DT M0 M p131_4) → (6 - p131_4).toNat < n131 → Tr l K 3 mX12_tick 131 [(0, (2, 120)), (1, (0, a1)), (2, (1, p43_2)), (4, (0, p131_4))] [] M (q_X12_tick_120_w1 a1 M0) := by
              intro n131
              induction n131 with
              | zero => intro M p131_4 hS bp131_4 k131_120_59 k131_120_61 k131_120_62 k131_120_68 k131_126_0 tp131_0 hm131; exact absurd hm131 (Nat.not_lt_zero _)
              | succ n131 J131 =>
                intro M p131_4 hS bp131_4 k131_120_59 k131_120_61 k131_120_62 k131_120_68 k131_126_0 tp131_0 hm131
                refine Tr.iload (pc := 131) (i := 4) d_X12_tick_131 rfl ?_
                refine Tr.aload_n (pc := 133) (i := 0) d_X12_tick_133 rfl rfl ?_
                refine Tr.getf (pc := 134) d_X12_tick_134 f_12_63 (by decide) (by decide) (ty_120 hS.1.1) ?_
                refine Tr.tp 126 (fx_120_17 hS.1.1) ?_
                refine Tr.aload_n (pc := 137) (i := 0) d_X12_tick_137 rfl rfl ?_
                refine Tr.getf (pc := 138) d_X12_tick_138 f_12_48 (by decide) (by decide) (ty_120 hS.1.1) ?_
                refine Tr.tp 0 ((St.kp hS (by decide) (by decide) (by decide)).trans en_120_12) ?_
                refine Tr.iald (pc := 141) d_X12_tick_141 (ty_126 hS.1.1) (by omega) (by omega) ?_
                refine Tr.tp g126_0 k131_126_0 ?_
                refine Tr.icmp_ge (pc := 142) (tgt := 297) d_X12_tick_142 rfl (fun c142 => ?_) (fun c142 => ?_)
                · refine Tr.aload_n (pc := 297) (i := 0) d_X12_tick_297 rfl rfl ?_
                  refine Tr.getz (pc := 298) d_X12_tick_298 f_12_225 (by decide) (ty_120 hS.1.1) ?_
                  refine Tr.gen (P := fun v => 0 ≤ v ∧ v ≤ 1) (ir_120_70 hS.1.2.1) (fun r298 er298 br298 => ?_)
                  have J314 : ∀ (M : Mem), St Tb0 ws_X12_tick_120_w1 as_X12_tick_120_w1 M0 M → rd M 120 59 = g120_59 → rd M 120 61 = g120_61 → rd M 120 62 = g120_62 → rd M 120 68 = g120_68 → rd M 120 70 = r298 → rd M 126 0 = g126_0 → (DE 0 M0 M) → Tr l K 3 mX12_tick 314 [(0, (2, 120)), (2, (1, p43_2))] [] M (q_X12_tick_120_w1 a1 M0) := by
                    intro M  hS  k314_120_59 k314_120_61 k314_120_62 k314_120_68 k314_120_70 k314_126_0 tp314_0
                    refine Tr.aload_n (pc := 314) (i := 0) d_X12_tick_314 rfl rfl ?_
                    refine Tr.dup (pc := 315) d_X12_tick_315 ne21 ?_
                    refine Tr.getf (pc := 316) d_X12_tick_316 f_12_204 (by decide) (by decide) (ty_120 hS.1.1) ?_
                    refine Tr.gen (P := fun v => (-9223372036854775808) ≤ v ∧ v ≤ 9223372036854775807) (ir_120_63 hS.1.2.1) (fun r316 er316 br316 => ?_)
                    refine Tr.lload_n (pc := 319) (i := 2) d_X12_tick_319 rfl rfl ?_
                    refine Tr.ladd (pc := 320) d_X12_tick_320 ?_
                    refine Tr.gen (P := fun v => (-9223372036854775808) ≤ v ∧ v ≤ 9223372036854775807) (w64_b _) (fun r320 er320 br320 => ?_)
                    refine Tr.putfS (pc := 321) (P := St Tb0 ws_X12_tick_120_w1 as_X12_tick_120_w1 M0) d_X12_tick_321 f_12_204 (by decide) (by decide) (ty_120 hS.1.1) (st_120_63 hS (by decide) (by omega) (Tb0.of hS.1.2.2.2.2 (fun _ => rd_wb _ rfl) (rd_wb _ rfl))) (fun M321 hS w321 => ?_)
                    refine Tr.aload_n (pc := 324) (i := 0) d_X12_tick_324 rfl rfl ?_
                    refine Tr.dup (pc := 325) d_X12_tick_325 ne21 ?_
                    refine Tr.getf (pc := 326) d_X12_tick_326 f_12_201 (by decide) (by decide) (ty_120 hS.1.1) ?_
                    refine Tr.tp g120_62 ((Wr.b w321 rfl).trans k314_120_62) ?_
                    refine Tr.iconst (pc := 329) d_X12_tick_329 (by decide) ?_
                    refine Tr.iadd (pc := 330) d_X12_tick_330 ?_
                    refine Tr.tp (g120_62 + 1) ((w32_id (by omega)).trans (by omega)) ?_
                    refine Tr.putfS (pc := 331) (P := St Tb0 ws_X12_tick_120_w1 as_X12_tick_120_w1 M0) d_X12_tick_331 f_12_201 (by decide) (by decide) (ty_120 hS.1.1) (st_120_62 hS (by decide) (by omega) (Tb0.of hS.1.2.2.2.2 (fun _ => rd_wb _ rfl) (rd_wb _ rfl))) (fun M331 hS w331 => ?_)
                    refine Tr.iconst (pc := 334) d_X12_tick_334 (by decide) ?_
                    have kr_120_59 : rd M331 120 59 = g120_59 := ((Wr.b w331 rfl).trans ((Wr.b w321 rfl).trans k314_120_59))
                    have kr_120_62 : rd M331 120 62 = (g120_62 + 1) := w331.1
                    have kr_120_68 : rd M331 120 68 = g120_68 := ((Wr.b w331 rfl).trans ((Wr.b w321 rfl).trans k314_120_68))
                    exact Tr.zret (pc := 335) d_X12_tick_335 rfl (by omega) ⟨hS, _, rfl, by omega, by omega, by omega, by omega, by omega, (fun _ B B1 hB => dt_end (DE.fr tp314_0 (fun p => ((Wr.b w331 rfl).trans ((Wr.b w321 rfl).trans rfl)))) (St.kp hS (by decide) (by decide) (by decide)) (fun p => St.ka hS (by decide) (by decide) (by decide)) B1 hB)⟩
                  refine Tr.if_eq (pc := 301) (tgt := 314) d_X12_tick_301 rfl (fun c301 => ?_) (fun c301 => ?_)
                  · refine Tr.pick [0, 2] (ls2 := [(0, (2, 120)), (2, (1, p43_2))]) rfl ?_
                    exact J314 _ hS k131_120_59 k131_120_61 k131_120_62 k131_120_68 er298 k131_126_0 ⟨p131_4, by omega, DT.fr tp131_0 (fun p => rfl)⟩
                  · refine Tr.aload_n (pc := 304) (i := 0) d_X12_tick_304 rfl rfl ?_
                    refine Tr.getf (pc := 305) d_X12_tick_305 f_12_228 (by decide) (by decide) (ty_120 hS.1.1) ?_
                    refine Tr.tp 162 (fx_120_71 hS.1.1) ?_
                    refine Tr.aload_n (pc := 308) (i := 0) d_X12_tick_308 rfl rfl ?_
                    refine Tr.getf (pc := 309) d_X12_tick_309 f_12_201 (by decide) (by decide) (ty_120 hS.1.1) ?_
                    refine Tr.tp g120_62 k131_120_62 ?_
                    refine Tr.iload_n (pc := 312) (i := 1) d_X12_tick_312 rfl rfl ?_
                    refine Tr.tp (-1) (by omega) ?_
                    refine Tr.iastS (pc := 313) (P := St Tb0 ws_X12_tick_120_w1 as_X12_tick_120_w1 M0) d_X12_tick_313 (ty_162 hS.1.1) (by omega) (by omega) (sa_162 hS (by decide) (by omega) (Tb0.of hS.1.2.2.2.2 (fun _ => rd_wb _ rfl) (rd_wb _ rfl))) (fun M313 hS w313 => ?_)
                    refine Tr.pick [0, 2] (ls2 := [(0, (2, 120)), (2, (1, p43_2))]) rfl ?_
                    exact J314 _ hS ((Wr.b w313 rfl).trans k131_120_59) ((Wr.b w313 rfl).trans k131_120_61) ((Wr.b w313 rfl).trans k131_120_62) ((Wr.b w313 rfl).trans k131_120_68) ((Wr.b w313 rfl).trans er298) ((Wr.b w313 rfl).trans k131_126_0) ⟨p131_4, by omega, DT.fr tp131_0 (fun p => ((Wr.b w313 rfl).trans rfl))⟩
                · refine Tr.aload_n (pc := 145) (i := 0) d_X12_tick_145 rfl rfl ?_
                  refine Tr.iload (pc := 146) (i := 4) d_X12_tick_146 rfl ?_
                  refine Tr.callV (pc := 148) (as := [_]) d_X12_tick_148 s_12_571 ok_X12_stateOf rfl rfl (Nat.le_of_ble_eq_true rfl) (Nat.le_of_ble_eq_true rfl) (by decide) (ty_120 hS.1.1) ?_
                  refine Tr.imp (Tr.deep (by decide) (sp_X12_stateOf_120 hS.1.wk p131_4 (by omega))) ?_
                  rintro M148 _ ⟨h148, r148, rfl, lr148, ur148, z148_0⟩
                  have h148 := St.rn h148 (Tb0.of hS.1.2.2.2.2 (fun _ => (St.ka h148 (by decide) (by decide) (by decide))) (St.kp h148 (by decide) (by decide) (by decide)))
                  have hS := St.tr hS h148 (by decide) (by decide)
                  have ka148_120_59 : rd M148 120 59 = g120_59 := ((St.kp h148 (by decide) (by decide) (by decide)).trans k131_120_59)
                  have ka148_120_61 : rd M148 120 61 = g120_61 := ((St.kp h148 (by decide) (by decide) (by decide)).trans k131_120_61)
                  refine Tr.sc [(0, r148)] rfl ?_
                  obtain ⟨th156, eth156⟩ : ∃ v, rd M 156 p131_4 = v := ⟨_, rfl⟩
                  have bth156 : 0 ≤ th156 ∧ th156 ≤ 1 := by rw [← eth156, ← show rd M148 156 p131_4 = rd M 156 p131_4 from St.ka h148 (by decide) (by decide) (by decide)]; exact ar_156 hS.1.2.1 _
                  obtain ⟨th158, eth158⟩ : ∃ v, rd M 158 p131_4 = v := ⟨_, rfl⟩
                  have bth158 : (-2147483648) ≤ th158 ∧ th158 ≤ 2147483647 := by rw [← eth158, ← show rd M148 158 p131_4 = rd M 158 p131_4 from St.ka h148 (by decide) (by decide) (by decide)]; exact ar_158 hS.1.2.1 _
                  have q156 : rd M 156 p131_4 = rd M0 156 p131_4 := (St.ka h148 (by decide) (by decide) (by decide)).symm.trans (St.ka hS (by decide) (by decide) (by decide))
                  have q158 : rd M 158 p131_4 = rd M0 158 p131_4 := (tp131_0 p131_4 (by omega)).2.1 (by omega)
                  refine Tr.istore (pc := 151) (i := 5) (ls2 := [(5, (0, r148)), (0, (2, 120)), (1, (0, a1)), (2, (1, p43_2)), (4, (0, p131_4))]) d_X12_tick_151 (by decide) rfl ?_
                  refine Tr.aload_n (pc := 153) (i := 0) d_X12_tick_153 rfl rfl ?_
                  refine Tr.getf (pc := 154) d_X12_tick_154 f_12_222 (by decide) (by decide) (ty_120 hS.1.1) ?_
                  refine Tr.tp 161 (fx_120_69 hS.1.1) ?_
                  refine Tr.iconst (pc := 157) d_X12_tick_157 (by decide) ?_
                  refine Tr.iload (pc := 158) (i := 4) d_X12_tick_158 rfl ?_
                  refine Tr.imul (pc := 160) d_X12_tick_160 ?_
                  refine Tr.tp (4 * p131_4) ((w32_id (by omega)).trans (by omega)) ?_
                  refine Tr.iload (pc := 161) (i := 5) d_X12_tick_161 rfl ?_
                  refine Tr.iadd (pc := 163) d_X12_tick_163 ?_
                  refine Tr.tp (4 * p131_4 + r148) ((w32_id (by omega)).trans (by omega)) ?_
                  refine Tr.dup2 (pc := 164) d_X12_tick_164 ne01 ne21 ?_
                  refine Tr.iald (pc := 165) d_X12_tick_165 (ty_161 hS.1.1) (by omega) (by omega) ?_
                  refine Tr.gen (P := fun v => (-2147483648) ≤ v ∧ v ≤ 2147483647) (ar_161 hS.1.2.1 _) (fun r165 er165 br165 => ?_)
                  refine Tr.iconst (pc := 166) d_X12_tick_166 (by decide) ?_
                  refine Tr.iadd (pc := 167) d_X12_tick_167 ?_
                  refine Tr.gen (P := fun v => (-2147483648) ≤ v ∧ v ≤ 2147483647) (w32_b _) (fun r167 er167 br167 => ?_)
                  refine Tr.iastS (pc := 168) (P := St Tb0 ws_X12_tick_120_w1 as_X12_tick_120_w1 M0) d_X12_tick_168 (ty_161 hS.1.1) (by omega) (by omega) (sa_161 hS (by decide) (by omega) (Tb0.of hS.1.2.2.2.2 (fun _ => rd_wb _ rfl) (rd_wb _ rfl))) (fun M168 hS w168 => ?_)
                  refine Tr.aload_n (pc := 169) (i := 0) d_X12_tick_169 rfl rfl ?_
                  refine Tr.getz (pc := 170) d_X12_tick_170 f_12_225 (by decide) (ty_120 hS.1.1) ?_
                  refine Tr.gen (P := fun v => 0 ≤ v ∧ v ≤ 1) (ir_120_70 hS.1.2.1) (fun r170 er170 br170 => ?_)
                  have J264 : ∀ (M : Mem), St Tb0 ws_X12_tick_120_w1 as_X12_tick_120_w1 M0 M → rd M 120 59 = g120_59 → rd M 120 61 = g120_61 → rd M 120 62 = g120_62 → rd M 120 68 = g120_68 → rd M 120 70 = r170 → rd M 126 0 = g126_0 → rd M 156 p131_4 = th156 → rd M 158 p131_4 = th158 → rd M 161 (4 * p131_4 + r148) = r167 → (DT M0 M p131_4) → Tr l K 3 mX12_tick 264 [(0, (2, 120)), (1, (0, a1)), (2, (1, p43_2)), (4, (0, p131_4)), (5, (0, r148))] [] M (q_X12_tick_120_w1 a1 M0) := by
                    intro M  hS  k264_120_59 k264_120_61 k264_120_62 k264_120_68 k264_120_70 k264_126_0 k264_156_p131_410 k264_158_p131_410 k264_161_p131_44r14810 tp264_0
                    refine Tr.iload (pc := 264) (i := 5) d_X12_tick_264 rfl ?_
                    refine Tr.iconst (pc := 266) d_X12_tick_266 (by decide) ?_
                    have J291 : ∀ (M : Mem), St Tb0 ws_X12_tick_120_w1 as_X12_tick_120_w1 M0 M → rd M 120 59 = g120_59 → rd M 120 61 = g120_61 → rd M 120 62 = g120_62 → rd M 120 68 = g120_68 → rd M 120 70 = r170 → rd M 126 0 = g126_0 → rd M 156 p131_4 = th156 → rd M 161 (4 * p131_4 + r148) = r167 → (DT M0 M (p131_4 + 1)) → Tr l K 3 mX12_tick 291 [(0, (2, 120)), (1, (0, a1)), (2, (1, p43_2)), (4, (0, p131_4))] [] M (q_X12_tick_120_w1 a1 M0) := by
                      intro M  hS  k291_120_59 k291_120_61 k291_120_62 k291_120_68 k291_120_70 k291_126_0 k291_156_p131_410 k291_161_p131_44r14810 tp291_0
                      refine Tr.iincV (pc := 291) (n2 := (p131_4 + 1)) (ls2 := [(4, (0, (p131_4 + 1))), (0, (2, 120)), (1, (0, a1)), (2, (1, p43_2))]) d_X12_tick_291 rfl (by decide) ((w32_id (by omega)).trans (by omega)) rfl ?_
                      refine Tr.goto (pc := 294) (tgt := 131) d_X12_tick_294 rfl ?_
                      refine Tr.pick [1, 2, 3, 0] (ls2 := [(0, (2, 120)), (1, (0, a1)), (2, (1, p43_2)), (4, (0, (p131_4 + 1)))]) rfl ?_
                      exact J131 _ _ hS (by omega) k291_120_59 k291_120_61 k291_120_62 k291_120_68 k291_126_0 tp291_0 (by omega)
                    refine Tr.icmp_ne (pc := 267) (tgt := 291) d_X12_tick_267 rfl (fun c267 => ?_) (fun c267 => ?_)
                    · refine Tr.pick [0, 1, 2, 3] (ls2 := [(0, (2, 120)), (1, (0, a1)), (2, (1, p43_2)), (4, (0, p131_4))]) rfl ?_
                      have q9 : rd M 156 p131_4 = rd M0 156 p131_4 := St.ka hS (by decide) (by decide) (by decide)
                      exact J291 _ hS k264_120_59 k264_120_61 k264_120_62 k264_120_68 k264_120_70 k264_126_0 k264_156_p131_410 k264_161_p131_44r14810 (dt_skip tp264_0 (by omega) (fun hh => by omega))
                    · refine Tr.aload_n (pc := 270) (i := 0) d_X12_tick_270 rfl rfl ?_
                      refine Tr.getf (pc := 271) d_X12_tick_271 f_12_177 (by decide) (by decide) (ty_120 hS.1.1) ?_
                      refine Tr.tp 156 (fx_120_54 hS.1.1) ?_
                      refine Tr.iload (pc := 274) (i := 4) d_X12_tick_274 rfl ?_
                      refine Tr.zald (pc := 276) d_X12_tick_276 (ty_156 hS.1.1) (by omega) (by omega) ?_
                      refine Tr.tp th156 k264_156_p131_410 ?_
                      refine Tr.if_ne (pc := 277) (tgt := 291) d_X12_tick_277 rfl (fun c277 => ?_) (fun c277 => ?_)
                      · refine Tr.pick [0, 1, 2, 3] (ls2 := [(0, (2, 120)), (1, (0, a1)), (2, (1, p43_2)), (4, (0, p131_4))]) rfl ?_
                        have q9 : rd M 156 p131_4 = rd M0 156 p131_4 := St.ka hS (by decide) (by decide) (by decide)
                        exact J291 _ hS k264_120_59 k264_120_61 k264_120_62 k264_120_68 k264_120_70 k264_126_0 k264_156_p131_410 k264_161_p131_44r14810 (dt_skip tp264_0 (by omega) (fun hh => by omega))
                      · refine Tr.aload_n (pc := 280) (i := 0) d_X12_tick_280 rfl rfl ?_
                        refine Tr.getf (pc := 281) d_X12_tick_281 f_12_183 (by decide) (by decide) (ty_120 hS.1.1) ?_
                        refine Tr.tp 158 (fx_120_56 hS.1.1) ?_
                        refine Tr.iload (pc := 284) (i := 4) d_X12_tick_284 rfl ?_
                        refine Tr.dup2 (pc := 286) d_X12_tick_286 ne01 ne21 ?_
                        refine Tr.iald (pc := 287) d_X12_tick_287 (ty_158 hS.1.1) (by omega) (by omega) ?_
                        refine Tr.tp th158 k264_158_p131_410 ?_
                        refine Tr.iconst (pc := 288) d_X12_tick_288 (by decide) ?_
                        refine Tr.isub (pc := 289) d_X12_tick_289 ?_
                        refine Tr.tp (th158 - 1) ((w32_id (by omega)).trans (by omega)) ?_
                        refine Tr.iastS (pc := 290) (P := St Tb0 ws_X12_tick_120_w1 as_X12_tick_120_w1 M0) d_X12_tick_290 (ty_158 hS.1.1) (by omega) (by omega) (sa_158 hS (by decide) (by omega) (Tb0_wr hS.1.2.2.2.2 (fun i0 i1 => by have h8 := hS.1.2.2.2.2 _ i0 i1; omega))) (fun M290 hS w290 => ?_)
                        refine Tr.pick [0, 1, 2, 3] (ls2 := [(0, (2, 120)), (1, (0, a1)), (2, (1, p43_2)), (4, (0, p131_4))]) rfl ?_
                        have q9 : rd M290 156 p131_4 = rd M0 156 p131_4 := St.ka hS (by decide) (by decide) (by decide)
                        exact J291 _ hS ((Wr.b w290 rfl).trans k264_120_59) ((Wr.b w290 rfl).trans k264_120_61) ((Wr.b w290 rfl).trans k264_120_62) ((Wr.b w290 rfl).trans k264_120_68) ((Wr.b w290 rfl).trans k264_120_70) ((Wr.b w290 rfl).trans k264_126_0) ((Wr.b w290 rfl).trans k264_156_p131_410) ((Wr.b w290 rfl).trans k264_161_p131_44r14810) (dt_dec tp264_0 (by rw [k264_158_p131_410]; exact w290))
                  refine Tr.if_eq (pc := 173) (tgt := 264) d_X12_tick_173 rfl (fun c173 => ?_) (fun c173 => ?_)
                  · refine Tr.pick [1, 2, 3, 4, 0] (ls2 := [(0, (2, 120)), (1, (0, a1)), (2, (1, p43_2)), (4, (0, p131_4)), (5, (0, r148))]) rfl ?_
                    exact J264 _ hS ((Wr.b w168 rfl).trans ((St.kp h148 (by decide) (by decide) (by decide)).trans k131_120_59)) ((Wr.b w168 rfl).trans ((St.kp h148 (by decide) (by decide) (by decide)).trans k131_120_61)) ((Wr.b w168 rfl).trans ((St.kp h148 (by decide) (by decide) (by decide)).trans k131_120_62)) ((Wr.b w168 rfl).trans ((St.kp h148 (by decide) (by decide) (by decide)).trans k131_120_68)) er170 ((Wr.b w168 rfl).trans ((St.kp h148 (by decide) (by decide) (by decide)).trans k131_126_0)) ((Wr.b w168 rfl).trans ((St.ka h148 (by decide) (by decide) (by decide)).trans eth156)) ((Wr.b w168 rfl).trans ((St.ka h148 (by decide) (by decide) (by decide)).trans eth158)) w168.1 (DT.fr tp131_0 (fun p => ((Wr.b w168 rfl).trans ((St.ka h148 (by decide) (by decide) (by decide)).trans rfl))))
                  · refine Tr.aload_n (pc := 176) (i := 0) d_X12_tick_176 rfl rfl ?_
                    refine Tr.getf (pc := 177) d_X12_tick_177 f_12_231 (by decide) (by decide) (ty_120 hS.1.1) ?_
                    refine Tr.tp 163 (fx_120_72 hS.1.1) ?_
                    refine Tr.sipush (pc := 180) d_X12_tick_180 rfl (by decide) ?_
                    refine Tr.iload (pc := 183) (i := 4) d_X12_tick_183 rfl ?_
                    refine Tr.imul (pc := 185) d_X12_tick_185 ?_
                    refine Tr.tp (2100 * p131_4) ((w32_id (by omega)).trans (by omega)) ?_
                    refine Tr.aload_n (pc := 186) (i := 0) d_X12_tick_186 rfl rfl ?_
                    refine Tr.getf (pc := 187) d_X12_tick_187 f_12_201 (by decide) (by decide) (ty_120 hS.1.1) ?_
                    refine Tr.tp g120_62 ((Wr.b w168 rfl).trans ((St.kp h148 (by decide) (by decide) (by decide)).trans k131_120_62)) ?_
                    refine Tr.iadd (pc := 190) d_X12_tick_190 ?_
                    refine Tr.tp (g120_62 + 2100 * p131_4) ((w32_id (by omega)).trans (by omega)) ?_
                    refine Tr.iload (pc := 191) (i := 5) d_X12_tick_191 rfl ?_
                    refine Tr.iastS (pc := 193) (P := St Tb0 ws_X12_tick_120_w1 as_X12_tick_120_w1 M0) d_X12_tick_193 (ty_163 hS.1.1) (by omega) (by omega) (sa_163 hS (by decide) (by omega) (Tb0.of hS.1.2.2.2.2 (fun _ => rd_wb _ rfl) (rd_wb _ rfl))) (fun M193 hS w193 => ?_)
                    refine Tr.aload_n (pc := 194) (i := 0) d_X12_tick_194 rfl rfl ?_
                    refine Tr.getf (pc := 195) d_X12_tick_195 f_12_234 (by decide) (by decide) (ty_120 hS.1.1) ?_
                    refine Tr.tp 164 (fx_120_73 hS.1.1) ?_
                    refine Tr.sipush (pc := 198) d_X12_tick_198 rfl (by decide) ?_
                    refine Tr.iload (pc := 201) (i := 4) d_X12_tick_201 rfl ?_
                    refine Tr.imul (pc := 203) d_X12_tick_203 ?_
                    refine Tr.tp (2100 * p131_4) ((w32_id (by omega)).trans (by omega)) ?_
                    refine Tr.aload_n (pc := 204) (i := 0) d_X12_tick_204 rfl rfl ?_
                    refine Tr.getf (pc := 205) d_X12_tick_205 f_12_201 (by decide) (by decide) (ty_120 hS.1.1) ?_
                    refine Tr.tp g120_62 ((Wr.b w193 rfl).trans ((Wr.b w168 rfl).trans ((St.kp h148 (by decide) (by decide) (by decide)).trans k131_120_62))) ?_
                    refine Tr.iadd (pc := 208) d_X12_tick_208 ?_
                    refine Tr.tp (g120_62 + 2100 * p131_4) ((w32_id (by omega)).trans (by omega)) ?_
                    refine Tr.iload (pc := 209) (i := 5) d_X12_tick_209 rfl ?_
                    refine Tr.iconst (pc := 211) d_X12_tick_211 (by decide) ?_
                    have J226 : ∀ (M : Mem) (q226_2 : Int), St Tb0 ws_X12_tick_120_w1 as_X12_tick_120_w1 M0 M → ((-1) ≤ q226_2 ∧ q226_2 ≤ 59) → rd M 120 59 = g120_59 → rd M 120 61 = g120_61 → rd M 120 62 = g120_62 → rd M 120 68 = g120_68 → rd M 120 70 = r170 → rd M 126 0 = g126_0 → rd M 156 p131_4 = th156 → rd M 158 p131_4 = th158 → rd M 161 (4 * p131_4 + r148) = r167 → rd M 163 (g120_62 + 2100 * p131_4) = r148 → (DT M0 M p131_4) → Tr l K 3 mX12_tick 226 [(0, (2, 120)), (1, (0, a1)), (2, (1, p43_2)), (4, (0, p131_4)), (5, (0, r148))] [(0, q226_2), (0, (g120_62 + 2100 * p131_4)), (2, 164)] M (q_X12_tick_120_w1 a1 M0) := by
                      intro M q226_2 hS bq226_2 k226_120_59 k226_120_61 k226_120_62 k226_120_68 k226_120_70 k226_126_0 k226_156_p131_410 k226_158_p131_410 k226_161_p131_44r14810 k226_163_g120_621p131_421000 tp226_0
                      refine Tr.iastS (pc := 226) (P := St Tb0 ws_X12_tick_120_w1 as_X12_tick_120_w1 M0) d_X12_tick_226 (ty_164 hS.1.1) (by omega) (by omega) (sa_164 hS (by decide) (by omega) (Tb0.of hS.1.2.2.2.2 (fun _ => rd_wb _ rfl) (rd_wb _ rfl))) (fun M226 hS w226 => ?_)
                      refine Tr.aload_n (pc := 227) (i := 0) d_X12_tick_227 rfl rfl ?_
                      refine Tr.getf (pc := 228) d_X12_tick_228 f_12_237 (by decide) (by decide) (ty_120 hS.1.1) ?_
                      refine Tr.tp 165 (fx_120_74 hS.1.1) ?_
                      refine Tr.sipush (pc := 231) d_X12_tick_231 rfl (by decide) ?_
                      refine Tr.iload (pc := 234) (i := 4) d_X12_tick_234 rfl ?_
                      refine Tr.imul (pc := 236) d_X12_tick_236 ?_
                      refine Tr.tp (2100 * p131_4) ((w32_id (by omega)).trans (by omega)) ?_
                      refine Tr.aload_n (pc := 237) (i := 0) d_X12_tick_237 rfl rfl ?_
                      refine Tr.getf (pc := 238) d_X12_tick_238 f_12_201 (by decide) (by decide) (ty_120 hS.1.1) ?_
                      refine Tr.tp g120_62 ((Wr.b w226 rfl).trans k226_120_62) ?_
                      refine Tr.iadd (pc := 241) d_X12_tick_241 ?_
                      refine Tr.tp (g120_62 + 2100 * p131_4) ((w32_id (by omega)).trans (by omega)) ?_
                      refine Tr.aload_n (pc := 242) (i := 0) d_X12_tick_242 rfl rfl ?_
                      refine Tr.getf (pc := 243) d_X12_tick_243 f_12_177 (by decide) (by decide) (ty_120 hS.1.1) ?_
                      refine Tr.tp 156 (fx_120_54 hS.1.1) ?_
                      refine Tr.iload (pc := 246) (i := 4) d_X12_tick_246 rfl ?_
                      refine Tr.zald (pc := 248) d_X12_tick_248 (ty_156 hS.1.1) (by omega) (by omega) ?_
                      refine Tr.tp th156 ((Wr.b w226 rfl).trans k226_156_p131_410) ?_
                      have J263 : ∀ (M : Mem) (q263_2 : Int), St Tb0 ws_X12_tick_120_w1 as_X12_tick_120_w1 M0 M → ((-1) ≤ q263_2 ∧ q263_2 ≤ 59) → rd M 120 59 = g120_59 → rd M 120 61 = g120_61 → rd M 120 62 = g120_62 → rd M 120 68 = g120_68 → rd M 120 70 = r170 → rd M 126 0 = g126_0 → rd M 156 p131_4 = th156 → rd M 158 p131_4 = th158 → rd M 161 (4 * p131_4 + r148) = r167 → rd M 163 (g120_62 + 2100 * p131_4) = r148 → rd M 164 (g120_62 + 2100 * p131_4) = q226_2 → (DT M0 M p131_4) → Tr l K 3 mX12_tick 263 [(0, (2, 120)), (1, (0, a1)), (2, (1, p43_2)), (4, (0, p131_4)), (5, (0, r148))] [(0, q263_2), (0, (g120_62 + 2100 * p131_4)), (2, 165)] M (q_X12_tick_120_w1 a1 M0) := by
                        intro M q263_2 hS bq263_2 k263_120_59 k263_120_61 k263_120_62 k263_120_68 k263_120_70 k263_126_0 k263_156_p131_410 k263_158_p131_410 k263_161_p131_44r14810 k263_163_g120_621p131_421000 k263_164_g120_621p131_421000 tp263_0
                        refine Tr.iastS (pc := 263) (P := St Tb0 ws_X12_tick_120_w1 as_X12_tick_120_w1 M0) d_X12_tick_263 (ty_165 hS.1.1) (by omega) (by omega) (sa_165 hS (by decide) (by omega) (Tb0.of hS.1.2.2.2.2 (fun _ => rd_wb _ rfl) (rd_wb _ rfl))) (fun M263 hS w263 => ?_)
                        refine Tr.pick [0, 1, 2, 3, 4] (ls2 := [(0, (2, 120)), (1, (0, a1)), (2, (1, p43_2)), (4, (0, p131_4)), (5, (0, r148))]) rfl ?_
                        exact J264 _ hS ((Wr.b w263 rfl).trans k263_120_59) ((Wr.b w263 rfl).trans k263_120_61) ((Wr.b w263 rfl).trans k263_120_62) ((Wr.b w263 rfl).trans k263_120_68) ((Wr.b w263 rfl).trans k263_120_70) ((Wr.b w263 rfl).trans k263_126_0) ((Wr.b w263 rfl).trans k263_156_p131_410) ((Wr.b w263 rfl).trans k263_158_p131_410) ((Wr.b w263 rfl).trans k263_161_p131_44r14810) (DT.fr tp263_0 (fun p => ((Wr.b w263 rfl).trans rfl)))
                      refine Tr.if_eq (pc := 249) (tgt := 262) d_X12_tick_249 rfl (fun c249 => ?_) (fun c249 => ?_)
                      · refine Tr.iconst (pc := 262) d_X12_tick_262 (by decide) ?_
                        refine Tr.pick [0, 1, 2, 3, 4] (ls2 := [(0, (2, 120)), (1, (0, a1)), (2, (1, p43_2)), (4, (0, p131_4)), (5, (0, r148))]) rfl ?_
                        exact J263 _ _ hS (by omega) ((Wr.b w226 rfl).trans k226_120_59) ((Wr.b w226 rfl).trans k226_120_61) ((Wr.b w226 rfl).trans k226_120_62) ((Wr.b w226 rfl).trans k226_120_68) ((Wr.b w226 rfl).trans k226_120_70) ((Wr.b w226 rfl).trans k226_126_0) ((Wr.b w226 rfl).trans k226_156_p131_410) ((Wr.b w226 rfl).trans k226_158_p131_410) ((Wr.b w226 rfl).trans k226_161_p131_44r14810) ((Wr.b w226 rfl).trans k226_163_g120_621p131_421000) w226.1 (DT.fr tp226_0 (fun p => ((Wr.b w226 rfl).trans rfl)))
                      · refine Tr.aload_n (pc := 252) (i := 0) d_X12_tick_252 rfl rfl ?_
                        refine Tr.getf (pc := 253) d_X12_tick_253 f_12_180 (by decide) (by decide) (ty_120 hS.1.1) ?_
                        refine Tr.tp 157 (fx_120_55 hS.1.1) ?_
                        refine Tr.iload (pc := 256) (i := 4) d_X12_tick_256 rfl ?_
                        refine Tr.iald (pc := 258) d_X12_tick_258 (ty_157 hS.1.1) (by omega) (by omega) ?_
                        refine Tr.gen (P := fun v => (-1) ≤ v ∧ v ≤ 59) (ar_157 hS.1.2.1 _) (fun r258 er258 br258 => ?_)
                        refine Tr.goto (pc := 259) (tgt := 263) d_X12_tick_259 rfl ?_
                        refine Tr.pick [0, 1, 2, 3, 4] (ls2 := [(0, (2, 120)), (1, (0, a1)), (2, (1, p43_2)), (4, (0, p131_4)), (5, (0, r148))]) rfl ?_
                        exact J263 _ _ hS (by omega) ((Wr.b w226 rfl).trans k226_120_59) ((Wr.b w226 rfl).trans k226_120_61) ((Wr.b w226 rfl).trans k226_120_62) ((Wr.b w226 rfl).trans k226_120_68) ((Wr.b w226 rfl).trans k226_120_70) ((Wr.b w226 rfl).trans k226_126_0) ((Wr.b w226 rfl).trans k226_156_p131_410) ((Wr.b w226 rfl).trans k226_158_p131_410) ((Wr.b w226 rfl).trans k226_161_p131_44r14810) ((Wr.b w226 rfl).trans k226_163_g120_621p131_421000) w226.1 (DT.fr tp226_0 (fun p => ((Wr.b w226 rfl).trans rfl)))
                    refine Tr.icmp_ne (pc := 212) (tgt := 225) d_X12_tick_212 rfl (fun c212 => ?_) (fun c212 => ?_)
                    · refine Tr.iload_n (pc := 225) (i := 1) d_X12_tick_225 rfl rfl ?_
                      refine Tr.tp (-1) (by omega) ?_
                      refine Tr.pick [1, 2, 3, 4, 0] (ls2 := [(0, (2, 120)), (1, (0, a1)), (2, (1, p43_2)), (4, (0, p131_4)), (5, (0, r148))]) rfl ?_
                      exact J226 _ _ hS (by omega) ((Wr.b w193 rfl).trans ((Wr.b w168 rfl).trans ((St.kp h148 (by decide) (by decide) (by decide)).trans k131_120_59))) ((Wr.b w193 rfl).trans ((Wr.b w168 rfl).trans ((St.kp h148 (by decide) (by decide) (by decide)).trans k131_120_61))) ((Wr.b w193 rfl).trans ((Wr.b w168 rfl).trans ((St.kp h148 (by decide) (by decide) (by decide)).trans k131_120_62))) ((Wr.b w193 rfl).trans ((Wr.b w168 rfl).trans ((St.kp h148 (by decide) (by decide) (by decide)).trans k131_120_68))) ((Wr.b w193 rfl).trans er170) ((Wr.b w193 rfl).trans ((Wr.b w168 rfl).trans ((St.kp h148 (by decide) (by decide) (by decide)).trans k131_126_0))) ((Wr.b w193 rfl).trans ((Wr.b w168 rfl).trans ((St.ka h148 (by decide) (by decide) (by decide)).trans eth156))) ((Wr.b w193 rfl).trans ((Wr.b w168 rfl).trans ((St.ka h148 (by decide) (by decide) (by decide)).trans eth158))) ((Wr.b w193 rfl).trans w168.1) w193.1 (DT.fr tp131_0 (fun p => ((Wr.b w193 rfl).trans ((Wr.b w168 rfl).trans ((St.ka h148 (by decide) (by decide) (by decide)).trans rfl)))))
                    · refine Tr.aload_n (pc := 215) (i := 0) d_X12_tick_215 rfl rfl ?_
                      refine Tr.getf (pc := 216) d_X12_tick_216 f_12_186 (by decide) (by decide) (ty_120 hS.1.1) ?_
                      refine Tr.tp 159 (fx_120_57 hS.1.1) ?_
                      refine Tr.iload (pc := 219) (i := 4) d_X12_tick_219 rfl ?_
                      refine Tr.iald (pc := 221) d_X12_tick_221 (ty_159 hS.1.1) (by omega) (by omega) ?_
                      refine Tr.gen (P := fun v => (-1) ≤ v ∧ v ≤ 59) (ar_159 hS.1.2.1 _) (fun r221 er221 br221 => ?_)
                      refine Tr.goto (pc := 222) (tgt := 226) d_X12_tick_222 rfl ?_
                      refine Tr.pick [1, 2, 3, 4, 0] (ls2 := [(0, (2, 120)), (1, (0, a1)), (2, (1, p43_2)), (4, (0, p131_4)), (5, (0, r148))]) rfl ?_
                      exact J226 _ _ hS (by omega) ((Wr.b w193 rfl).trans ((Wr.b w168 rfl).trans ((St.kp h148 (by decide) (by decide) (by decide)).trans k131_120_59))) ((Wr.b w193 rfl).trans ((Wr.b w168 rfl).trans ((St.kp h148 (by decide) (by decide) (by decide)).trans k131_120_61))) ((Wr.b w193 rfl).trans ((Wr.b w168 rfl).trans ((St.kp h148 (by decide) (by decide) (by decide)).trans k131_120_62))) ((Wr.b w193 rfl).trans ((Wr.b w168 rfl).trans ((St.kp h148 (by decide) (by decide) (by decide)).trans k131_120_68))) ((Wr.b w193 rfl).trans er170) ((Wr.b w193 rfl).trans ((Wr.b w168 rfl).trans ((St.kp h148 (by decide) (by decide) (by decide)).trans k131_126_0))) ((Wr.b w193 rfl).trans ((Wr.b w168 rfl).trans ((St.ka h148 (by decide) (by decide) (by decide)).trans eth156))) ((Wr.b w193 rfl).trans ((Wr.b w168 rfl).trans ((St.ka h148 (by decide) (by decide) (by decide)).trans eth158))) ((Wr.b w193 rfl).trans w168.1) w193.1 (DT.fr tp131_0 (fun p => ((Wr.b w193 rfl).trans ((Wr.b w168 rfl).trans ((St.ka h148 (by decide) (by decide) (by decide)).trans rfl)))))
            refine Tr.pick [1, 2, 3, 0] (ls2 := [(0, (2, 120)), (1, (0, a1)), (2, (1, p43_2)), (4, (0, 0))]) rfl ?_
            exact J131 _ _ _ hS (by omega) k119_120_59 k119_120_61 k119_120_62 k119_120_68 k119_126_0 (fun p p0 => ⟨Int.le_of_eq ((tp119_0 p)), fun _ => (tp119_0 p), fun c => absurd c (by omega)⟩) (Nat.lt_succ_self _)
          · refine Tr.iconst (pc := 126) d_X12_tick_126 (by decide) ?_
            have kr_120_59 : rd M 120 59 = g120_59 := k119_120_59
            have kr_120_62 : rd M 120 62 = g120_62 := k119_120_62
            have kr_120_68 : rd M 120 68 = g120_68 := k119_120_68
            exact Tr.zret (pc := 127) d_X12_tick_127 rfl (by omega) ⟨hS, _, rfl, by omega, by omega, by omega, by omega, by omega, (fun c => absurd c (by omega))⟩
        refine Tr.if_ne (pc := 83) (tgt := 119) d_X12_tick_83 rfl (fun c83 => ?_) (fun c83 => ?_)
        · refine Tr.pick [0, 1, 2] (ls2 := [(0, (2, 120)), (1, (0, a1)), (2, (1, p43_2))]) rfl ?_
          exact J119 _ hS k43_120_59 k43_120_61 k43_120_62 k43_120_68 k43_126_0 (by first | assumption | omega) (by first | assumption | omega) (fun p => (tp43_0 p))
        · refine Tr.iload_n (pc := 86) (i := 1) d_X12_tick_86 rfl rfl ?_
          refine Tr.tp (-1) (by omega) ?_
          refine Tr.iconst (pc := 87) d_X12_tick_87 (by decide) ?_
          refine Tr.icmp_eq (pc := 88) (tgt := 119) d_X12_tick_88 rfl (fun _ => ?_) (fun hc => absurd (by omega) hc)
          refine Tr.pick [0, 1, 2] (ls2 := [(0, (2, 120)), (1, (0, a1)), (2, (1, p43_2))]) rfl ?_
          exact J119 _ hS k43_120_59 k43_120_61 k43_120_62 k43_120_68 k43_126_0 (by first | assumption | omega) (by first | assumption | omega) (fun p => (tp43_0 p))
      · refine Tr.lload_n (pc := 57) (i := 2) d_X12_tick_57 rfl rfl ?_
        refine Tr.aload_n (pc := 58) (i := 0) d_X12_tick_58 rfl rfl ?_
        refine Tr.iload (pc := 59) (i := 4) d_X12_tick_59 rfl ?_
        refine Tr.aload_n (pc := 61) (i := 0) d_X12_tick_61 rfl rfl ?_
        refine Tr.iload (pc := 62) (i := 4) d_X12_tick_62 rfl ?_
        refine Tr.callV (pc := 64) (as := [_]) d_X12_tick_64 s_12_571 ok_X12_stateOf rfl rfl (Nat.le_of_ble_eq_true rfl) (Nat.le_of_ble_eq_true rfl) (by decide) (ty_120 hS.1.1) ?_
        refine Tr.imp (Tr.deep (by decide) (sp_X12_stateOf_120 hS.1.wk p43_4 (by omega))) ?_
        rintro M64 _ ⟨h64, r64, rfl, lr64, ur64, z64_0⟩
        have h64 := St.rn h64 (Tb0.of hS.1.2.2.2.2 (fun _ => (St.ka h64 (by decide) (by decide) (by decide))) (St.kp h64 (by decide) (by decide) (by decide)))
        have hS := St.tr hS h64 (by decide) (by decide)
        have ka64_120_59 : rd M64 120 59 = g120_59 := ((St.kp h64 (by decide) (by decide) (by decide)).trans k43_120_59)
        have ka64_120_61 : rd M64 120 61 = g120_61 := ((St.kp h64 (by decide) (by decide) (by decide)).trans k43_120_61)
        refine Tr.sc [(0, r64), (0, p43_4), (2, 120), (1, p43_2)] rfl ?_
        refine Tr.callV (pc := 67) (as := [_, _]) d_X12_tick_67 s_12_574 ok_X12_sips rfl rfl (Nat.le_of_ble_eq_true rfl) (Nat.le_of_ble_eq_true rfl) (by decide) (ty_120 hS.1.1) ?_
        refine Tr.imp (Tr.deep (by decide) (sp_X12_sips_120 hS.1.wk ((St.kp hS (by decide) (by decide) (by decide)).trans en_120_12) p43_4 (by omega) r64 (by omega) (Bk0.of hF_Bk0 (fun j => (St.ka hS (by decide) (by decide) (by decide))) (fun j => (St.ka hS (by decide) (by decide) (by decide))) (fun j => (St.ka hS (by decide) (by decide) (by decide))) (fun j => (St.ka hS (by decide) (by decide) (by decide))) (fun j => (St.ka hS (by decide) (by decide) (by decide))) (fun j => (St.ka hS (by decide) (by decide) (by decide))) (fun j => (St.ka hS (by decide) (by decide) (by decide))) (fun j => (St.ka hS (by decide) (by decide) (by decide))) (St.kp hS (by decide) (by decide) (by decide)) (St.kp hS (by decide) (by decide) (by decide)) (St.kp hS (by decide) (by decide) (by decide)) (St.kp hS (by decide) (by decide) (by decide))))) ?_
        rintro M67 _ ⟨h67, r67, rfl, lr67, ur67⟩
        have h67 := St.rn h67 (Tb0.of hS.1.2.2.2.2 (fun _ => (St.ka h67 (by decide) (by decide) (by decide))) (St.kp h67 (by decide) (by decide) (by decide)))
        have hS := St.tr hS h67 (by decide) (by decide)
        refine Tr.sc [(0, r67), (1, p43_2)] rfl ?_
        refine Tr.i2l (pc := 70) d_X12_tick_70 ?_
        refine Tr.ladd (pc := 71) d_X12_tick_71 ?_
        refine Tr.gen (P := fun v => (-9223372036854775808) ≤ v ∧ v ≤ 9223372036854775807) (w64_b _) (fun r71 er71 br71 => ?_)
        refine Tr.lstore_n (pc := 72) (i := 2) (ls2 := [(2, (1, r71)), (0, (2, 120)), (1, (0, a1)), (4, (0, p43_4))]) d_X12_tick_72 rfl (by decide) rfl ?_
        refine Tr.iincV (pc := 73) (n2 := (p43_4 + 1)) (ls2 := [(4, (0, (p43_4 + 1))), (2, (1, r71)), (0, (2, 120)), (1, (0, a1))]) d_X12_tick_73 rfl (by decide) ((w32_id (by omega)).trans (by omega)) rfl ?_
        refine Tr.goto (pc := 76) (tgt := 43) d_X12_tick_76 rfl ?_
        refine Tr.pick [2, 3, 1, 0] (ls2 := [(0, (2, 120)), (1, (0, a1)), (2, (1, r71)), (4, (0, (p43_4 + 1)))]) rfl ?_
        exact J43 _ _ _ hS (by omega) (by omega) ((St.kp h67 (by decide) (by decide) (by decide)).trans ((St.kp h64 (by decide) (by decide) (by decide)).trans k43_120_59)) ((St.kp h67 (by decide) (by decide) (by decide)).trans ((St.kp h64 (by decide) (by decide) (by decide)).trans k43_120_61)) ((St.kp h67 (by decide) (by decide) (by decide)).trans ((St.kp h64 (by decide) (by decide) (by decide)).trans k43_120_62)) ((St.kp h67 (by decide) (by decide) (by decide)).trans ((St.kp h64 (by decide) (by decide) (by decide)).trans k43_120_68)) ((St.kp h67 (by decide) (by decide) (by decide)).trans ((St.kp h64 (by decide) (by decide) (by decide)).trans k43_126_0)) (fun p => ((St.ka h67 (by decide) (by decide) (by decide)).trans ((St.ka h64 (by decide) (by decide) (by decide)).trans (tp43_0 p)))) (by omega)
  refine Tr.pick [2, 3, 1, 0] (ls2 := [(0, (2, 120)), (1, (0, a1)), (2, (1, 0)), (4, (0, 0))]) rfl ?_
  exact J43 _ _ _ _ hS (by omega) (by omega) eg120_59 eg120_61 eg120_62 eg120_68 eg126_0 (fun p => rfl) (Nat.lt_succ_self _)

def ws_X12_floor : List (Int × Int) := []
def as_X12_floor : List Int := []
def q_X12_floor (a0 : Int) (a2 : Int) (M0 M' : Mem) (r : Option PV) : Prop := St Tru ws_X12_floor as_X12_floor M0 M' ∧ ∃ v : Int, r = some (1, v) ∧ (-9223372036854775808) ≤ v ∧ v ≤ 9223372036854775807 ∧ (a2 ≠ 1000 ∨ (1000 * v ≤ a0 ∧ a0 < 1000 * v + 1000))
set_option maxRecDepth 100000 in
set_option maxHeartbeats 4000000 in
theorem sp_X12_floor {l : Launch} {K : EC} {M0 : Mem} (hI : In Tru M0)  (a0 : Int) (ha0 : (-9223372036854775808) ≤ a0 ∧ a0 ≤ 9223372036854775807) (a2 : Int) (ha2 : (-9223372036854775808) ≤ a2 ∧ a2 ≤ 9223372036854775807)  : Tr l K 0 mX12_floor 0 [(0, (1, a0)), (2, (1, a2))] [] M0 (q_X12_floor a0 a2 M0) := by
  have hS : St Tru ws_X12_floor as_X12_floor M0 M0 := St.rf hI
  refine Tr.lload_n (pc := 0) (i := 2) d_X12_floor_0 rfl rfl ?_
  refine Tr.lconst (pc := 1) (v := 0) d_X12_floor_1 rfl (by decide) ?_
  refine Tr.lcmp (pc := 2) d_X12_floor_2 ?_
  refine Tr.gen (P := fun v => (v = 1 ∧ 0 < a2) ∨ (v = 0 ∧ a2 = 0) ∨ (v = -1 ∧ a2 < 0)) (f_lcmp_c _ _) (fun r2 er2 br2 => ?_)
  refine Tr.if_ne (pc := 3) (tgt := 8) d_X12_floor_3 rfl (fun c3 => ?_) (fun c3 => ?_)
  · refine Tr.lload_n (pc := 8) (i := 0) d_X12_floor_8 rfl rfl ?_
    refine Tr.lload_n (pc := 9) (i := 2) d_X12_floor_9 rfl rfl ?_
    refine Tr.ldiv (pc := 10) d_X12_floor_10 (by omega) ?_
    refine Tr.gen (P := fun v => ((-9223372036854775808) ≤ v ∧ v ≤ 9223372036854775807) ∧ (a2 ≠ 1000 ∨ ((0 ≤ a0 ∧ v = a0 / 1000) ∨ (a0 < 0 ∧ v = -(-a0 / 1000))))) (floor_q2 (by omega)) (fun r10 er10 br10 => ?_)
    refine Tr.lstore (pc := 11) (i := 4) (ls2 := [(4, (1, r10)), (0, (1, a0)), (2, (1, a2))]) d_X12_floor_11 (by decide) rfl ?_
    refine Tr.lload_n (pc := 13) (i := 0) d_X12_floor_13 rfl rfl ?_
    refine Tr.lload_n (pc := 14) (i := 2) d_X12_floor_14 rfl rfl ?_
    refine Tr.lrem (pc := 15) d_X12_floor_15 (by omega) ?_
    refine Tr.gen (P := fun v => ((-9223372036854775808) ≤ v ∧ v ≤ 9223372036854775807) ∧ (a2 ≠ 1000 ∨ (v = 0 ↔ a0 % 1000 = 0))) (floor_r _ _ (by omega)) (fun r15 er15 br15 => ?_)
    refine Tr.lconst (pc := 16) (v := 0) d_X12_floor_16 rfl (by decide) ?_
    refine Tr.lcmp (pc := 17) d_X12_floor_17 ?_
    refine Tr.gen (P := fun v => (v = 1 ∧ 0 < r15) ∨ (v = 0 ∧ r15 = 0) ∨ (v = -1 ∧ r15 < 0)) (f_lcmp_c _ _) (fun r17 er17 br17 => ?_)
    refine Tr.if_eq (pc := 18) (tgt := 53) d_X12_floor_18 rfl (fun c18 => ?_) (fun c18 => ?_)
    · refine Tr.lload (pc := 53) (i := 4) d_X12_floor_53 rfl ?_
      exact Tr.lret (pc := 55) d_X12_floor_55 rfl ⟨hS, _, rfl, by omega, by omega, by omega⟩
    · refine Tr.lload_n (pc := 21) (i := 0) d_X12_floor_21 rfl rfl ?_
      refine Tr.lconst (pc := 22) (v := 0) d_X12_floor_22 rfl (by decide) ?_
      refine Tr.lcmp (pc := 23) d_X12_floor_23 ?_
      refine Tr.gen (P := fun v => (v = 1 ∧ 0 < a0) ∨ (v = 0 ∧ a0 = 0) ∨ (v = -1 ∧ a0 < 0)) (f_lcmp_c _ _) (fun r23 er23 br23 => ?_)
      have J32 : ∀ (M : Mem) (q32_0 : Int), St Tru ws_X12_floor as_X12_floor M0 M → (0 ≤ q32_0 ∧ q32_0 ≤ 1) → ((q32_0 = 1 ∧ a0 < 0) ∨ (q32_0 = 0 ∧ 0 ≤ a0)) → Tr l K 0 mX12_floor 32 [(2, (1, a2)), (4, (1, r10))] [(0, q32_0)] M (q_X12_floor a0 a2 M0) := by
        intro M q32_0 hS bq32_0  t32_0
        refine Tr.lload_n (pc := 32) (i := 2) d_X12_floor_32 rfl rfl ?_
        refine Tr.lconst (pc := 33) (v := 0) d_X12_floor_33 rfl (by decide) ?_
        refine Tr.lcmp (pc := 34) d_X12_floor_34 ?_
        refine Tr.gen (P := fun v => (v = 1 ∧ 0 < a2) ∨ (v = 0 ∧ a2 = 0) ∨ (v = -1 ∧ a2 < 0)) (f_lcmp_c _ _) (fun r34 er34 br34 => ?_)
        have J43 : ∀ (M : Mem) (q43_1 : Int), St Tru ws_X12_floor as_X12_floor M0 M → (0 ≤ q43_1 ∧ q43_1 ≤ 1) → ((q43_1 = 1 ∧ a2 < 0) ∨ (q43_1 = 0 ∧ 0 ≤ a2)) → Tr l K 0 mX12_floor 43 [(4, (1, r10))] [(0, q43_1), (0, q32_0)] M (q_X12_floor a0 a2 M0) := by
          intro M q43_1 hS bq43_1  t43_0
          refine Tr.icmp_eq (pc := 43) (tgt := 53) d_X12_floor_43 rfl (fun c43 => ?_) (fun c43 => ?_)
          · refine Tr.lload (pc := 53) (i := 4) d_X12_floor_53 rfl ?_
            exact Tr.lret (pc := 55) d_X12_floor_55 rfl ⟨hS, _, rfl, by omega, by omega, by omega⟩
          · refine Tr.lload (pc := 46) (i := 4) d_X12_floor_46 rfl ?_
            refine Tr.lconst (pc := 48) (v := 1) d_X12_floor_48 rfl (by decide) ?_
            refine Tr.lsub (pc := 49) d_X12_floor_49 ?_
            refine Tr.gen (P := fun v => ((-9223372036854775808) ≤ v ∧ v ≤ 9223372036854775807) ∧ (a2 ≠ 1000 ∨ v = r10 - 1)) (sub1_p (by omega)) (fun r49 er49 br49 => ?_)
            refine Tr.goto (pc := 50) (tgt := 55) d_X12_floor_50 rfl ?_
            exact Tr.lret (pc := 55) d_X12_floor_55 rfl ⟨hS, _, rfl, by omega, by omega, by omega⟩
        refine Tr.if_ge (pc := 35) (tgt := 42) d_X12_floor_35 rfl (fun c35 => ?_) (fun c35 => ?_)
        · refine Tr.iconst (pc := 42) d_X12_floor_42 (by decide) ?_
          refine Tr.pick [1] (ls2 := [(4, (1, r10))]) rfl ?_
          exact J43 _ _ hS (by omega) (by first | assumption | omega)
        · refine Tr.iconst (pc := 38) d_X12_floor_38 (by decide) ?_
          refine Tr.goto (pc := 39) (tgt := 43) d_X12_floor_39 rfl ?_
          refine Tr.pick [1] (ls2 := [(4, (1, r10))]) rfl ?_
          exact J43 _ _ hS (by omega) (by first | assumption | omega)
      refine Tr.if_ge (pc := 24) (tgt := 31) d_X12_floor_24 rfl (fun c24 => ?_) (fun c24 => ?_)
      · refine Tr.iconst (pc := 31) d_X12_floor_31 (by decide) ?_
        refine Tr.pick [2, 0] (ls2 := [(2, (1, a2)), (4, (1, r10))]) rfl ?_
        exact J32 _ _ hS (by omega) (by first | assumption | omega)
      · refine Tr.iconst (pc := 27) d_X12_floor_27 (by decide) ?_
        refine Tr.goto (pc := 28) (tgt := 32) d_X12_floor_28 rfl ?_
        refine Tr.pick [2, 0] (ls2 := [(2, (1, a2)), (4, (1, r10))]) rfl ?_
        exact J32 _ _ hS (by omega) (by first | assumption | omega)
  · refine Tr.lconst (pc := 6) (v := 0) d_X12_floor_6 rfl (by decide) ?_
    exact Tr.lret (pc := 7) d_X12_floor_7 rfl ⟨hS, _, rfl, by omega, by omega, by omega⟩

def ws_X12_held : List (Int × Int) := []
def as_X12_held : List Int := []
def q_X12_held (M0 M' : Mem) (r : Option PV) : Prop := St Tru ws_X12_held as_X12_held M0 M' ∧ ∃ v : Int, r = some (1, v) ∧ (-9223372036854775808) ≤ v ∧ v ≤ 9223372036854775807
set_option maxRecDepth 100000 in
set_option maxHeartbeats 4000000 in
theorem sp_X12_held {l : Launch} {K : EC} {M0 : Mem} (hI : In Tru M0)  (a0 : Int) (ha0 : (-9223372036854775808) ≤ a0 ∧ a0 ≤ 9223372036854775807)  : Tr l K 0 mX12_held 0 [(0, (1, a0))] [] M0 (q_X12_held M0) := by
  have hS : St Tru ws_X12_held as_X12_held M0 M0 := St.rf hI
  refine Tr.lload_n (pc := 0) (i := 0) d_X12_held_0 rfl rfl ?_
  refine Tr.ldc2 (pc := 1) d_X12_held_1 kl_12_594 (by decide) ?_
  refine Tr.lcmp (pc := 4) d_X12_held_4 ?_
  refine Tr.gen (P := fun v => (v = 1 ∧ 1000000 < a0) ∨ (v = 0 ∧ a0 = 1000000) ∨ (v = -1 ∧ a0 < 1000000)) (f_lcmp_c _ _) (fun r4 er4 br4 => ?_)
  refine Tr.if_le (pc := 5) (tgt := 14) d_X12_held_5 rfl (fun c5 => ?_) (fun c5 => ?_)
  · refine Tr.lload_n (pc := 14) (i := 0) d_X12_held_14 rfl rfl ?_
    refine Tr.ldc2 (pc := 15) d_X12_held_15 kl_12_596 (by decide) ?_
    refine Tr.lcmp (pc := 18) d_X12_held_18 ?_
    refine Tr.gen (P := fun v => (v = 1 ∧ (-1000000) < a0) ∨ (v = 0 ∧ a0 = (-1000000)) ∨ (v = -1 ∧ a0 < (-1000000))) (f_lcmp_c _ _) (fun r18 er18 br18 => ?_)
    refine Tr.if_ge (pc := 19) (tgt := 28) d_X12_held_19 rfl (fun c19 => ?_) (fun c19 => ?_)
    · refine Tr.lload_n (pc := 28) (i := 0) d_X12_held_28 rfl rfl ?_
      exact Tr.lret (pc := 29) d_X12_held_29 rfl ⟨hS, _, rfl, by omega, by omega⟩
    · refine Tr.ldc2 (pc := 22) d_X12_held_22 kl_12_596 (by decide) ?_
      refine Tr.goto (pc := 25) (tgt := 29) d_X12_held_25 rfl ?_
      exact Tr.lret (pc := 29) d_X12_held_29 rfl ⟨hS, _, rfl, by omega, by omega⟩
  · refine Tr.ldc2 (pc := 8) d_X12_held_8 kl_12_594 (by decide) ?_
    refine Tr.goto (pc := 11) (tgt := 29) d_X12_held_11 rfl ?_
    exact Tr.lret (pc := 29) d_X12_held_29 rfl ⟨hS, _, rfl, by omega, by omega⟩

def ws_X12_joined : List (Int × Int) := []
def as_X12_joined : List Int := []
def q_X12_joined (M0 M' : Mem) (r : Option PV) : Prop := St Tru ws_X12_joined as_X12_joined M0 M' ∧ ∃ v : Int, r = some (1, v) ∧ (-9223372036854775808) ≤ v ∧ v ≤ 9223372036854775807
set_option maxRecDepth 100000 in
set_option maxHeartbeats 4000000 in
theorem sp_X12_joined {l : Launch} {K : EC} {M0 : Mem} (hI : In Tru M0)  (a0 : Int) (ha0 : (-2147483648) ≤ a0 ∧ a0 ≤ 2147483647) (a1 : Int) (ha1 : (-9223372036854775808) ≤ a1 ∧ a1 ≤ 9223372036854775807) (a3 : Int) (ha3 : (-9223372036854775808) ≤ a3 ∧ a3 ≤ 9223372036854775807)  : Tr l K 1 mX12_joined 0 [(0, (0, a0)), (1, (1, a1)), (3, (1, a3))] [] M0 (q_X12_joined M0) := by
  have hS : St Tru ws_X12_joined as_X12_joined M0 M0 := St.rf hI
  refine Tr.iload_n (pc := 0) (i := 0) d_X12_joined_0 rfl rfl ?_
  rcases (show (a0 < 6 ∨ 16 < a0) ∨ a0 = 6 ∨ a0 = 7 ∨ a0 = 8 ∨ a0 = 9 ∨ a0 = 10 ∨ a0 = 11 ∨ a0 = 12 ∨ a0 = 13 ∨ a0 = 14 ∨ a0 = 15 ∨ a0 = 16 by omega) with c1 | c1 | c1 | c1 | c1 | c1 | c1 | c1 | c1 | c1 | c1 | c1
  · refine Tr.tswOut (pc := 1) (tgt := 171) d_X12_joined_1 c1 rfl ?_
    refine Tr.lload_n (pc := 171) (i := 1) d_X12_joined_171 rfl rfl ?_
    refine Tr.lload_n (pc := 172) (i := 3) d_X12_joined_172 rfl rfl ?_
    refine Tr.ladd (pc := 173) d_X12_joined_173 ?_
    refine Tr.gen (P := fun v => (-9223372036854775808) ≤ v ∧ v ≤ 9223372036854775807) (w64_b _) (fun r173 er173 br173 => ?_)
    refine Tr.lconst (pc := 174) (v := 0) d_X12_joined_174 rfl (by decide) ?_
    refine Tr.lcmp (pc := 175) d_X12_joined_175 ?_
    refine Tr.gen (P := fun v => (v = 1 ∧ 0 < r173) ∨ (v = 0 ∧ r173 = 0) ∨ (v = -1 ∧ r173 < 0)) (f_lcmp_c _ _) (fun r175 er175 br175 => ?_)
    refine Tr.if_le (pc := 176) (tgt := 183) d_X12_joined_176 rfl (fun c176 => ?_) (fun c176 => ?_)
    · refine Tr.lconst (pc := 183) (v := 0) d_X12_joined_183 rfl (by decide) ?_
      exact Tr.lret (pc := 184) d_X12_joined_184 rfl ⟨hS, _, rfl, by omega, by omega⟩
    · refine Tr.lconst (pc := 179) (v := 1) d_X12_joined_179 rfl (by decide) ?_
      refine Tr.goto (pc := 180) (tgt := 184) d_X12_joined_180 rfl ?_
      exact Tr.lret (pc := 184) d_X12_joined_184 rfl ⟨hS, _, rfl, by omega, by omega⟩
  · refine Tr.tp 6 c1 ?_
    refine Tr.tswIn (pc := 1) (off := 59) (tgt := 60) d_X12_joined_1 (by decide) (by decide) rfl rfl ?_
    refine Tr.lload_n (pc := 60) (i := 1) d_X12_joined_60 rfl rfl ?_
    refine Tr.lload_n (pc := 61) (i := 3) d_X12_joined_61 rfl rfl ?_
    refine Tr.ladd (pc := 62) d_X12_joined_62 ?_
    refine Tr.gen (P := fun v => (-9223372036854775808) ≤ v ∧ v ≤ 9223372036854775807) (w64_b _) (fun r62 er62 br62 => ?_)
    refine Tr.callS (pc := 63) (as := [_]) d_X12_joined_63 s_12_598 ok_X12_held rfl rfl (Nat.le_of_ble_eq_true rfl) (Nat.le_of_ble_eq_true rfl) ?_
    refine Tr.imp (Tr.deep (by decide) (sp_X12_held hS.1 r62 (by omega))) ?_
    rintro M63 _ ⟨h63, r63, rfl, lr63, ur63⟩
    have hS := St.tr hS h63 (by decide) (by decide)
    refine Tr.sc [(1, r63)] rfl ?_
    exact Tr.lret (pc := 66) d_X12_joined_66 rfl ⟨hS, _, rfl, by omega, by omega⟩
  · refine Tr.tp 7 c1 ?_
    refine Tr.tswIn (pc := 1) (off := 66) (tgt := 67) d_X12_joined_1 (by decide) (by decide) rfl rfl ?_
    refine Tr.lload_n (pc := 67) (i := 1) d_X12_joined_67 rfl rfl ?_
    refine Tr.lload_n (pc := 68) (i := 3) d_X12_joined_68 rfl rfl ?_
    refine Tr.lsub (pc := 69) d_X12_joined_69 ?_
    refine Tr.gen (P := fun v => (-9223372036854775808) ≤ v ∧ v ≤ 9223372036854775807) (w64_b _) (fun r69 er69 br69 => ?_)
    refine Tr.callS (pc := 70) (as := [_]) d_X12_joined_70 s_12_598 ok_X12_held rfl rfl (Nat.le_of_ble_eq_true rfl) (Nat.le_of_ble_eq_true rfl) ?_
    refine Tr.imp (Tr.deep (by decide) (sp_X12_held hS.1 r69 (by omega))) ?_
    rintro M70 _ ⟨h70, r70, rfl, lr70, ur70⟩
    have hS := St.tr hS h70 (by decide) (by decide)
    refine Tr.sc [(1, r70)] rfl ?_
    exact Tr.lret (pc := 73) d_X12_joined_73 rfl ⟨hS, _, rfl, by omega, by omega⟩
  · refine Tr.tp 8 c1 ?_
    refine Tr.tswIn (pc := 1) (off := 73) (tgt := 74) d_X12_joined_1 (by decide) (by decide) rfl rfl ?_
    refine Tr.lload_n (pc := 74) (i := 1) d_X12_joined_74 rfl rfl ?_
    refine Tr.lload_n (pc := 75) (i := 3) d_X12_joined_75 rfl rfl ?_
    refine Tr.lmul (pc := 76) d_X12_joined_76 ?_
    refine Tr.gen (P := fun v => (-9223372036854775808) ≤ v ∧ v ≤ 9223372036854775807) (w64_b _) (fun r76 er76 br76 => ?_)
    refine Tr.callS (pc := 77) (as := [_]) d_X12_joined_77 s_12_598 ok_X12_held rfl rfl (Nat.le_of_ble_eq_true rfl) (Nat.le_of_ble_eq_true rfl) ?_
    refine Tr.imp (Tr.deep (by decide) (sp_X12_held hS.1 r76 (by omega))) ?_
    rintro M77 _ ⟨h77, r77, rfl, lr77, ur77⟩
    have hS := St.tr hS h77 (by decide) (by decide)
    refine Tr.sc [(1, r77)] rfl ?_
    exact Tr.lret (pc := 80) d_X12_joined_80 rfl ⟨hS, _, rfl, by omega, by omega⟩
  · refine Tr.tp 9 c1 ?_
    refine Tr.tswIn (pc := 1) (off := 80) (tgt := 81) d_X12_joined_1 (by decide) (by decide) rfl rfl ?_
    refine Tr.lload_n (pc := 81) (i := 1) d_X12_joined_81 rfl rfl ?_
    refine Tr.lload_n (pc := 82) (i := 3) d_X12_joined_82 rfl rfl ?_
    refine Tr.callS (pc := 83) (as := [_, _]) d_X12_joined_83 s_12_602 ok_X12_floor rfl rfl (Nat.le_of_ble_eq_true rfl) (Nat.le_of_ble_eq_true rfl) ?_
    refine Tr.imp (Tr.deep (by decide) (sp_X12_floor hS.1 a1 (by omega) a3 (by omega))) ?_
    rintro M83 _ ⟨h83, r83, rfl, lr83, ur83, wr83⟩
    have hS := St.tr hS h83 (by decide) (by decide)
    refine Tr.sc [(1, r83)] rfl ?_
    exact Tr.lret (pc := 86) d_X12_joined_86 rfl ⟨hS, _, rfl, by omega, by omega⟩
  · refine Tr.tp 10 c1 ?_
    refine Tr.tswIn (pc := 1) (off := 86) (tgt := 87) d_X12_joined_1 (by decide) (by decide) rfl rfl ?_
    refine Tr.lload_n (pc := 87) (i := 3) d_X12_joined_87 rfl rfl ?_
    refine Tr.lconst (pc := 88) (v := 0) d_X12_joined_88 rfl (by decide) ?_
    refine Tr.lcmp (pc := 89) d_X12_joined_89 ?_
    refine Tr.gen (P := fun v => (v = 1 ∧ 0 < a3) ∨ (v = 0 ∧ a3 = 0) ∨ (v = -1 ∧ a3 < 0)) (f_lcmp_c _ _) (fun r89 er89 br89 => ?_)
    refine Tr.if_ne (pc := 90) (tgt := 97) d_X12_joined_90 rfl (fun c90 => ?_) (fun c90 => ?_)
    · refine Tr.lload_n (pc := 97) (i := 1) d_X12_joined_97 rfl rfl ?_
      refine Tr.lload_n (pc := 98) (i := 3) d_X12_joined_98 rfl rfl ?_
      refine Tr.lload_n (pc := 99) (i := 1) d_X12_joined_99 rfl rfl ?_
      refine Tr.lload_n (pc := 100) (i := 3) d_X12_joined_100 rfl rfl ?_
      refine Tr.callS (pc := 101) (as := [_, _]) d_X12_joined_101 s_12_602 ok_X12_floor rfl rfl (Nat.le_of_ble_eq_true rfl) (Nat.le_of_ble_eq_true rfl) ?_
      refine Tr.imp (Tr.deep (by decide) (sp_X12_floor hS.1 a1 (by omega) a3 (by omega))) ?_
      rintro M101 _ ⟨h101, r101, rfl, lr101, ur101, wr101⟩
      have hS := St.tr hS h101 (by decide) (by decide)
      refine Tr.sc [(1, r101), (1, a3), (1, a1)] rfl ?_
      refine Tr.lmul (pc := 104) d_X12_joined_104 ?_
      refine Tr.gen (P := fun v => (-9223372036854775808) ≤ v ∧ v ≤ 9223372036854775807) (w64_b _) (fun r104 er104 br104 => ?_)
      refine Tr.lsub (pc := 105) d_X12_joined_105 ?_
      refine Tr.gen (P := fun v => (-9223372036854775808) ≤ v ∧ v ≤ 9223372036854775807) (w64_b _) (fun r105 er105 br105 => ?_)
      exact Tr.lret (pc := 106) d_X12_joined_106 rfl ⟨hS, _, rfl, by omega, by omega⟩
    · refine Tr.lconst (pc := 93) (v := 0) d_X12_joined_93 rfl (by decide) ?_
      refine Tr.goto (pc := 94) (tgt := 106) d_X12_joined_94 rfl ?_
      exact Tr.lret (pc := 106) d_X12_joined_106 rfl ⟨hS, _, rfl, by omega, by omega⟩
  · refine Tr.tp 11 c1 ?_
    refine Tr.tswIn (pc := 1) (off := 106) (tgt := 107) d_X12_joined_1 (by decide) (by decide) rfl rfl ?_
    refine Tr.lload_n (pc := 107) (i := 1) d_X12_joined_107 rfl rfl ?_
    refine Tr.lload_n (pc := 108) (i := 3) d_X12_joined_108 rfl rfl ?_
    refine Tr.lcmp (pc := 109) d_X12_joined_109 ?_
    refine Tr.gen (P := fun v => (v = 1 ∧ a3 < a1) ∨ (v = 0 ∧ a1 = a3) ∨ (v = -1 ∧ a1 < a3)) (f_lcmp_c _ _) (fun r109 er109 br109 => ?_)
    refine Tr.if_ge (pc := 110) (tgt := 117) d_X12_joined_110 rfl (fun c110 => ?_) (fun c110 => ?_)
    · refine Tr.lload_n (pc := 117) (i := 3) d_X12_joined_117 rfl rfl ?_
      exact Tr.lret (pc := 118) d_X12_joined_118 rfl ⟨hS, _, rfl, by omega, by omega⟩
    · refine Tr.lload_n (pc := 113) (i := 1) d_X12_joined_113 rfl rfl ?_
      refine Tr.goto (pc := 114) (tgt := 118) d_X12_joined_114 rfl ?_
      exact Tr.lret (pc := 118) d_X12_joined_118 rfl ⟨hS, _, rfl, by omega, by omega⟩
  · refine Tr.tp 12 c1 ?_
    refine Tr.tswIn (pc := 1) (off := 118) (tgt := 119) d_X12_joined_1 (by decide) (by decide) rfl rfl ?_
    refine Tr.lload_n (pc := 119) (i := 1) d_X12_joined_119 rfl rfl ?_
    refine Tr.lload_n (pc := 120) (i := 3) d_X12_joined_120 rfl rfl ?_
    refine Tr.lcmp (pc := 121) d_X12_joined_121 ?_
    refine Tr.gen (P := fun v => (v = 1 ∧ a3 < a1) ∨ (v = 0 ∧ a1 = a3) ∨ (v = -1 ∧ a1 < a3)) (f_lcmp_c _ _) (fun r121 er121 br121 => ?_)
    refine Tr.if_le (pc := 122) (tgt := 129) d_X12_joined_122 rfl (fun c122 => ?_) (fun c122 => ?_)
    · refine Tr.lload_n (pc := 129) (i := 3) d_X12_joined_129 rfl rfl ?_
      exact Tr.lret (pc := 130) d_X12_joined_130 rfl ⟨hS, _, rfl, by omega, by omega⟩
    · refine Tr.lload_n (pc := 125) (i := 1) d_X12_joined_125 rfl rfl ?_
      refine Tr.goto (pc := 126) (tgt := 130) d_X12_joined_126 rfl ?_
      exact Tr.lret (pc := 130) d_X12_joined_130 rfl ⟨hS, _, rfl, by omega, by omega⟩
  · refine Tr.tp 13 c1 ?_
    refine Tr.tswIn (pc := 1) (off := 130) (tgt := 131) d_X12_joined_1 (by decide) (by decide) rfl rfl ?_
    refine Tr.lload_n (pc := 131) (i := 1) d_X12_joined_131 rfl rfl ?_
    refine Tr.lload_n (pc := 132) (i := 3) d_X12_joined_132 rfl rfl ?_
    refine Tr.lcmp (pc := 133) d_X12_joined_133 ?_
    refine Tr.gen (P := fun v => (v = 1 ∧ a3 < a1) ∨ (v = 0 ∧ a1 = a3) ∨ (v = -1 ∧ a1 < a3)) (f_lcmp_c _ _) (fun r133 er133 br133 => ?_)
    refine Tr.if_ge (pc := 134) (tgt := 141) d_X12_joined_134 rfl (fun c134 => ?_) (fun c134 => ?_)
    · refine Tr.lconst (pc := 141) (v := 0) d_X12_joined_141 rfl (by decide) ?_
      exact Tr.lret (pc := 142) d_X12_joined_142 rfl ⟨hS, _, rfl, by omega, by omega⟩
    · refine Tr.lconst (pc := 137) (v := 1) d_X12_joined_137 rfl (by decide) ?_
      refine Tr.goto (pc := 138) (tgt := 142) d_X12_joined_138 rfl ?_
      exact Tr.lret (pc := 142) d_X12_joined_142 rfl ⟨hS, _, rfl, by omega, by omega⟩
  · refine Tr.tp 14 c1 ?_
    refine Tr.tswIn (pc := 1) (off := 142) (tgt := 143) d_X12_joined_1 (by decide) (by decide) rfl rfl ?_
    refine Tr.lload_n (pc := 143) (i := 1) d_X12_joined_143 rfl rfl ?_
    refine Tr.lload_n (pc := 144) (i := 3) d_X12_joined_144 rfl rfl ?_
    refine Tr.lcmp (pc := 145) d_X12_joined_145 ?_
    refine Tr.gen (P := fun v => (v = 1 ∧ a3 < a1) ∨ (v = 0 ∧ a1 = a3) ∨ (v = -1 ∧ a1 < a3)) (f_lcmp_c _ _) (fun r145 er145 br145 => ?_)
    refine Tr.if_le (pc := 146) (tgt := 153) d_X12_joined_146 rfl (fun c146 => ?_) (fun c146 => ?_)
    · refine Tr.lconst (pc := 153) (v := 0) d_X12_joined_153 rfl (by decide) ?_
      exact Tr.lret (pc := 154) d_X12_joined_154 rfl ⟨hS, _, rfl, by omega, by omega⟩
    · refine Tr.lconst (pc := 149) (v := 1) d_X12_joined_149 rfl (by decide) ?_
      refine Tr.goto (pc := 150) (tgt := 154) d_X12_joined_150 rfl ?_
      exact Tr.lret (pc := 154) d_X12_joined_154 rfl ⟨hS, _, rfl, by omega, by omega⟩
  · refine Tr.tp 15 c1 ?_
    refine Tr.tswIn (pc := 1) (off := 154) (tgt := 155) d_X12_joined_1 (by decide) (by decide) rfl rfl ?_
    refine Tr.lload_n (pc := 155) (i := 1) d_X12_joined_155 rfl rfl ?_
    refine Tr.lload_n (pc := 156) (i := 3) d_X12_joined_156 rfl rfl ?_
    refine Tr.lcmp (pc := 157) d_X12_joined_157 ?_
    refine Tr.gen (P := fun v => (v = 1 ∧ a3 < a1) ∨ (v = 0 ∧ a1 = a3) ∨ (v = -1 ∧ a1 < a3)) (f_lcmp_c _ _) (fun r157 er157 br157 => ?_)
    refine Tr.if_ne (pc := 158) (tgt := 165) d_X12_joined_158 rfl (fun c158 => ?_) (fun c158 => ?_)
    · refine Tr.lconst (pc := 165) (v := 0) d_X12_joined_165 rfl (by decide) ?_
      exact Tr.lret (pc := 166) d_X12_joined_166 rfl ⟨hS, _, rfl, by omega, by omega⟩
    · refine Tr.lconst (pc := 161) (v := 1) d_X12_joined_161 rfl (by decide) ?_
      refine Tr.goto (pc := 162) (tgt := 166) d_X12_joined_162 rfl ?_
      exact Tr.lret (pc := 166) d_X12_joined_166 rfl ⟨hS, _, rfl, by omega, by omega⟩
  · refine Tr.tp 16 c1 ?_
    refine Tr.tswIn (pc := 1) (off := 166) (tgt := 167) d_X12_joined_1 (by decide) (by decide) rfl rfl ?_
    refine Tr.lload_n (pc := 167) (i := 1) d_X12_joined_167 rfl rfl ?_
    refine Tr.lload_n (pc := 168) (i := 3) d_X12_joined_168 rfl rfl ?_
    refine Tr.lmul (pc := 169) d_X12_joined_169 ?_
    refine Tr.gen (P := fun v => (-9223372036854775808) ≤ v ∧ v ≤ 9223372036854775807) (w64_b _) (fun r169 er169 br169 => ?_)
    exact Tr.lret (pc := 170) d_X12_joined_170 rfl ⟨hS, _, rfl, by omega, by omega⟩

def ws_X12_leaf_120 : List (Int × Int) := []
def as_X12_leaf_120 : List Int := []
def q_X12_leaf_120 (M0 M' : Mem) (r : Option PV) : Prop := St Tru ws_X12_leaf_120 as_X12_leaf_120 M0 M' ∧ ∃ v : Int, r = some (1, v) ∧ (-2147483648) ≤ v ∧ v ≤ 2147483647
set_option maxRecDepth 100000 in
set_option maxHeartbeats 4000000 in
theorem sp_X12_leaf_120 {l : Launch} {K : EC} {M0 : Mem} (hI : In Tru M0)  (a1 : Int) (ha1 : (-2147483648) ≤ a1 ∧ a1 ≤ 2147483647) (a2 : Int) (ha2 : (-2147483648) ≤ a2 ∧ a2 ≤ 2147483647) (hp0 : (a1 = 1 → 0 ≤ a2 ∧ a2 ≤ 2) ∧ (a1 = 2 ∨ a1 = 4 → 0 ≤ a2 ∧ a2 ≤ 5)) : Tr l K 0 mX12_leaf 0 [(0, (2, 120)), (1, (0, a1)), (2, (0, a2))] [] M0 (q_X12_leaf_120 M0) := by
  have hS : St Tru ws_X12_leaf_120 as_X12_leaf_120 M0 M0 := St.rf hI
  refine Tr.iload_n (pc := 0) (i := 1) d_X12_leaf_0 rfl rfl ?_
  rcases (show (a1 < 0 ∨ 4 < a1) ∨ a1 = 0 ∨ a1 = 1 ∨ a1 = 2 ∨ a1 = 3 ∨ a1 = 4 by omega) with c1 | c1 | c1 | c1 | c1 | c1
  · refine Tr.tswOut (pc := 1) (tgt := 76) d_X12_leaf_1 c1 rfl ?_
    refine Tr.lconst (pc := 76) (v := 1) d_X12_leaf_76 rfl (by decide) ?_
    exact Tr.lret (pc := 77) d_X12_leaf_77 rfl ⟨hS, _, rfl, by omega, by omega⟩
  · refine Tr.tp 0 c1 ?_
    refine Tr.tswIn (pc := 1) (off := 35) (tgt := 36) d_X12_leaf_1 (by decide) (by decide) rfl rfl ?_
    refine Tr.iload_n (pc := 36) (i := 2) d_X12_leaf_36 rfl rfl ?_
    refine Tr.i2l (pc := 37) d_X12_leaf_37 ?_
    exact Tr.lret (pc := 38) d_X12_leaf_38 rfl ⟨hS, _, rfl, by omega, by omega⟩
  · refine Tr.tp 1 c1 ?_
    refine Tr.tswIn (pc := 1) (off := 38) (tgt := 39) d_X12_leaf_1 (by decide) (by decide) rfl rfl ?_
    refine Tr.aload_n (pc := 39) (i := 0) d_X12_leaf_39 rfl rfl ?_
    refine Tr.getf (pc := 40) d_X12_leaf_40 f_12_171 (by decide) (by decide) (ty_120 hS.1.1) ?_
    refine Tr.tp 154 (fx_120_52 hS.1.1) ?_
    refine Tr.iload_n (pc := 43) (i := 2) d_X12_leaf_43 rfl rfl ?_
    refine Tr.iald (pc := 44) d_X12_leaf_44 (ty_154 hS.1.1) (by omega) (by omega) ?_
    refine Tr.gen (P := fun v => (-2147483648) ≤ v ∧ v ≤ 2147483647) (ar_154 hS.1.2.1 _) (fun r44 er44 br44 => ?_)
    refine Tr.i2l (pc := 45) d_X12_leaf_45 ?_
    exact Tr.lret (pc := 46) d_X12_leaf_46 rfl ⟨hS, _, rfl, by omega, by omega⟩
  · refine Tr.tp 2 c1 ?_
    refine Tr.tswIn (pc := 1) (off := 46) (tgt := 47) d_X12_leaf_1 (by decide) (by decide) rfl rfl ?_
    refine Tr.aload_n (pc := 47) (i := 0) d_X12_leaf_47 rfl rfl ?_
    refine Tr.getf (pc := 48) d_X12_leaf_48 f_12_174 (by decide) (by decide) (ty_120 hS.1.1) ?_
    refine Tr.tp 155 (fx_120_53 hS.1.1) ?_
    refine Tr.iload_n (pc := 51) (i := 2) d_X12_leaf_51 rfl rfl ?_
    refine Tr.iald (pc := 52) d_X12_leaf_52 (ty_155 hS.1.1) (by omega) (by omega) ?_
    refine Tr.gen (P := fun v => (-2147483648) ≤ v ∧ v ≤ 2147483647) (ar_155 hS.1.2.1 _) (fun r52 er52 br52 => ?_)
    refine Tr.i2l (pc := 53) d_X12_leaf_53 ?_
    exact Tr.lret (pc := 54) d_X12_leaf_54 rfl ⟨hS, _, rfl, by omega, by omega⟩
  · refine Tr.tp 3 c1 ?_
    refine Tr.tswIn (pc := 1) (off := 54) (tgt := 55) d_X12_leaf_1 (by decide) (by decide) rfl rfl ?_
    refine Tr.aload_n (pc := 55) (i := 0) d_X12_leaf_55 rfl rfl ?_
    refine Tr.getf (pc := 56) d_X12_leaf_56 f_12_201 (by decide) (by decide) (ty_120 hS.1.1) ?_
    refine Tr.gen (P := fun v => 0 ≤ v ∧ v ≤ 2060) (ir_120_62 hS.1.2.1) (fun r56 er56 br56 => ?_)
    refine Tr.i2l (pc := 59) d_X12_leaf_59 ?_
    exact Tr.lret (pc := 60) d_X12_leaf_60 rfl ⟨hS, _, rfl, by omega, by omega⟩
  · refine Tr.tp 4 c1 ?_
    refine Tr.tswIn (pc := 1) (off := 60) (tgt := 61) d_X12_leaf_1 (by decide) (by decide) rfl rfl ?_
    refine Tr.aload_n (pc := 61) (i := 0) d_X12_leaf_61 rfl rfl ?_
    refine Tr.getf (pc := 62) d_X12_leaf_62 f_12_177 (by decide) (by decide) (ty_120 hS.1.1) ?_
    refine Tr.tp 156 (fx_120_54 hS.1.1) ?_
    refine Tr.iload_n (pc := 65) (i := 2) d_X12_leaf_65 rfl rfl ?_
    refine Tr.zald (pc := 66) d_X12_leaf_66 (ty_156 hS.1.1) (by omega) (by omega) ?_
    refine Tr.gen (P := fun v => 0 ≤ v ∧ v ≤ 1) (ar_156 hS.1.2.1 _) (fun r66 er66 br66 => ?_)
    refine Tr.if_eq (pc := 67) (tgt := 74) d_X12_leaf_67 rfl (fun c67 => ?_) (fun c67 => ?_)
    · refine Tr.lconst (pc := 74) (v := 0) d_X12_leaf_74 rfl (by decide) ?_
      exact Tr.lret (pc := 75) d_X12_leaf_75 rfl ⟨hS, _, rfl, by omega, by omega⟩
    · refine Tr.lconst (pc := 70) (v := 1) d_X12_leaf_70 rfl (by decide) ?_
      refine Tr.goto (pc := 71) (tgt := 75) d_X12_leaf_71 rfl ?_
      exact Tr.lret (pc := 75) d_X12_leaf_75 rfl ⟨hS, _, rfl, by omega, by omega⟩

def ws_X12_works_120 : List (Int × Int) := []
def as_X12_works_120 : List Int := [172]
def q_X12_works_120 (M0 M' : Mem) (r : Option PV) : Prop := St Tru ws_X12_works_120 as_X12_works_120 M0 M' ∧ ∃ v : Int, r = some (1, v) ∧ (-9223372036854775808) ≤ v ∧ v ≤ 9223372036854775807
set_option maxRecDepth 100000 in
set_option maxHeartbeats 4000000 in
theorem sp_X12_works_120 {l : Launch} {K : EC} {M0 : Mem} (hI : In Tru M0) (en_120_12 : rd M0 120 12 = 0) (a1 : Int) (ha1 : 0 ≤ a1 ∧ a1 ≤ 399)  (hq0 : 0 ≤ a1 ∧ a1 < 0 + rd M0 136 0) (hF_Bk0 : Bk0 M0) : Tr l K 2 mX12_works 0 [(0, (2, 120)), (1, (0, a1))] [] M0 (q_X12_works_120 M0) := by
  have hS : St Tru ws_X12_works_120 as_X12_works_120 M0 M0 := St.rf hI
  obtain ⟨g136_0, eg136_0⟩ : ∃ v, rd M0 136 0 = v := ⟨_, rfl⟩
  have bg136_0 : 0 ≤ g136_0 ∧ g136_0 ≤ 200 := by rw [← eg136_0]; exact ir_136_0 hI.2.1
  refine Tr.iconst (pc := 0) d_X12_works_0 (by decide) ?_
  refine Tr.istore_n (pc := 1) (i := 2) (ls2 := [(2, (0, 0)), (0, (2, 120)), (1, (0, a1))]) d_X12_works_1 rfl (by decide) rfl ?_
  refine Tr.sipush (pc := 2) d_X12_works_2 rfl (by decide) ?_
  refine Tr.aload_n (pc := 5) (i := 0) d_X12_works_5 rfl rfl ?_
  refine Tr.getf (pc := 6) d_X12_works_6 f_12_48 (by decide) (by decide) (ty_120 hS.1.1) ?_
  refine Tr.tp 0 ((St.kp hS (by decide) (by decide) (by decide)).trans en_120_12) ?_
  refine Tr.imul (pc := 9) d_X12_works_9 ?_
  refine Tr.tp 0 (by decide) ?_
  refine Tr.aload_n (pc := 10) (i := 0) d_X12_works_10 rfl rfl ?_
  refine Tr.getf (pc := 11) d_X12_works_11 f_12_106 (by decide) (by decide) (ty_120 hS.1.1) ?_
  refine Tr.tp 140 (fx_120_31 hS.1.1) ?_
  refine Tr.iload_n (pc := 14) (i := 1) d_X12_works_14 rfl rfl ?_
  refine Tr.iald (pc := 15) d_X12_works_15 (ty_140 hS.1.1) (by omega) (by omega) ?_
  refine Tr.gen (P := fun v => 0 ≤ v ∧ v ≤ 900) (ar_140 hS.1.2.1 _) (fun r15 er15 br15 => ?_)
  refine Tr.iadd (pc := 16) d_X12_works_16 ?_
  refine Tr.tp r15 ((w32_id (by omega)).trans (by omega)) ?_
  refine Tr.istore_n (pc := 17) (i := 3) (ls2 := [(3, (0, r15)), (2, (0, 0)), (0, (2, 120)), (1, (0, a1))]) d_X12_works_17 rfl (by decide) rfl ?_
  have J18 : ∀ (n18 : Nat) (M : Mem) (p18_2 p18_3 : Int), St Tru ws_X12_works_120 as_X12_works_120 M0 M → (0 ≤ p18_2 ∧ p18_2 ≤ 950) → (0 ≤ p18_3 ∧ p18_3 ≤ 900) → rd M 136 0 = g136_0 → rd M 140 a1 = r15 → (p18_2 = dp M0 (0 + rd M0 140 a1) (p18_3 - (0 + rd M0 140 a1)).toNat ∧ (0 + rd M0 140 a1) ≤ p18_3) → (0 ≤ p18_2 ∧ p18_2 ≤ 900) → (900 - p18_3).toNat < n18 → Tr l K 2 mX12_works 18 [(0, (2, 120)), (1, (0, a1)), (2, (0, p18_2)), (3, (0, p18_3))] [] M (q_X12_works_120 M0) := by
    intro n18
    induction n18 with
    | zero => intro M p18_2 p18_3 hS bp18_2 bp18_3 k18_136_0 k18_140_a110 t18_0 t18_1 hm18; exact absurd hm18 (Nat.not_lt_zero _)
    | succ n18 J18 =>
      intro M p18_2 p18_3 hS bp18_2 bp18_3 k18_136_0 k18_140_a110 t18_0 t18_1 hm18
      refine Tr.iload_n (pc := 18) (i := 3) d_X12_works_18 rfl rfl ?_
      refine Tr.sipush (pc := 19) d_X12_works_19 rfl (by decide) ?_
      refine Tr.aload_n (pc := 22) (i := 0) d_X12_works_22 rfl rfl ?_
      refine Tr.getf (pc := 23) d_X12_works_23 f_12_48 (by decide) (by decide) (ty_120 hS.1.1) ?_
      refine Tr.tp 0 ((St.kp hS (by decide) (by decide) (by decide)).trans en_120_12) ?_
      refine Tr.imul (pc := 26) d_X12_works_26 ?_
      refine Tr.tp 0 (by decide) ?_
      refine Tr.aload_n (pc := 27) (i := 0) d_X12_works_27 rfl rfl ?_
      refine Tr.getf (pc := 28) d_X12_works_28 f_12_109 (by decide) (by decide) (ty_120 hS.1.1) ?_
      refine Tr.tp 141 (fx_120_32 hS.1.1) ?_
      refine Tr.iload_n (pc := 31) (i := 1) d_X12_works_31 rfl rfl ?_
      refine Tr.iald (pc := 32) d_X12_works_32 (ty_141 hS.1.1) (by omega) (by omega) ?_
      refine Tr.gen (P := fun v => 0 ≤ v ∧ v ≤ 900) (ar_141 hS.1.2.1 _) (fun r32 er32 br32 => ?_)
      refine Tr.iadd (pc := 33) d_X12_works_33 ?_
      refine Tr.tp r32 ((w32_id (by omega)).trans (by omega)) ?_
      refine Tr.icmp_ge (pc := 34) (tgt := 139) d_X12_works_34 rfl (fun c34 => ?_) (fun c34 => ?_)
      · refine Tr.aload_n (pc := 139) (i := 0) d_X12_works_139 rfl rfl ?_
        refine Tr.getf (pc := 140) d_X12_works_140 f_12_264 (by decide) (by decide) (ty_120 hS.1.1) ?_
        refine Tr.tp 172 (fx_120_83 hS.1.1) ?_
        refine Tr.iconst (pc := 143) d_X12_works_143 (by decide) ?_
        refine Tr.lald (pc := 144) d_X12_works_144 (ty_172 hS.1.1) (by omega) (by omega) ?_
        refine Tr.gen (P := fun v => (-9223372036854775808) ≤ v ∧ v ≤ 9223372036854775807) (ar_172 hS.1.2.1 _) (fun r144 er144 br144 => ?_)
        exact Tr.lret (pc := 145) d_X12_works_145 rfl ⟨hS, _, rfl, by omega, by omega⟩
      · refine Tr.aload_n (pc := 37) (i := 0) d_X12_works_37 rfl rfl ?_
        refine Tr.getf (pc := 38) d_X12_works_38 f_12_115 (by decide) (by decide) (ty_120 hS.1.1) ?_
        refine Tr.tp 143 (fx_120_34 hS.1.1) ?_
        refine Tr.iload_n (pc := 41) (i := 3) d_X12_works_41 rfl rfl ?_
        refine Tr.iald (pc := 42) d_X12_works_42 (ty_143 hS.1.1) (by omega) (by omega) ?_
        refine Tr.gen (P := fun v => (-2147483648) ≤ v ∧ v ≤ 2147483647) (ar_143 hS.1.2.1 _) (fun r42 er42 br42 => ?_)
        have hw0 : rd M0 143 p18_3 = r42 := (St.ka hS (by decide) (by decide) (by decide)).symm.trans er42
        have hw1 := Bk0_wf hF_Bk0 (i := a1) (j := p18_3) (by omega) (by omega) (by omega) (by have h9 : rd M 141 a1 = rd M0 141 a1 := St.ka hS (by decide) (by decide) (by decide); omega)
        rw [hw0, ← t18_0.1] at hw1
        refine Tr.istore (pc := 43) (i := 4) (ls2 := [(4, (0, r42)), (0, (2, 120)), (1, (0, a1)), (2, (0, p18_2)), (3, (0, p18_3))]) d_X12_works_43 (by decide) rfl ?_
        refine Tr.iload (pc := 45) (i := 4) d_X12_works_45 rfl ?_
        refine Tr.iconst (pc := 47) d_X12_works_47 (by decide) ?_
        have J133 : ∀ (M : Mem) (p133_2 : Int), St Tru ws_X12_works_120 as_X12_works_120 M0 M → (1 ≤ p133_2 ∧ p133_2 ≤ 950) → rd M 136 0 = g136_0 → rd M 140 a1 = r15 → rd M 141 a1 = r32 → rd M 143 p18_3 = r42 → (p133_2 = dp M0 (0 + rd M0 140 a1) (p18_3 + 1 - (0 + rd M0 140 a1)).toNat ∧ 0 ≤ p133_2 ∧ p133_2 ≤ 900) → Tr l K 2 mX12_works 133 [(0, (2, 120)), (1, (0, a1)), (2, (0, p133_2)), (3, (0, p18_3))] [] M (q_X12_works_120 M0) := by
          intro M p133_2 hS bp133_2 k133_136_0 k133_140_a110 k133_141_a110 k133_143_p18_310 tp133_0
          refine Tr.iincV (pc := 133) (n2 := (p18_3 + 1)) (ls2 := [(3, (0, (p18_3 + 1))), (0, (2, 120)), (1, (0, a1)), (2, (0, p133_2))]) d_X12_works_133 rfl (by decide) ((w32_id (by omega)).trans (by omega)) rfl ?_
          refine Tr.goto (pc := 136) (tgt := 18) d_X12_works_136 rfl ?_
          refine Tr.pick [1, 2, 3, 0] (ls2 := [(0, (2, 120)), (1, (0, a1)), (2, (0, p133_2)), (3, (0, (p18_3 + 1)))]) rfl ?_
          exact J18 _ _ _ hS (by omega) (by omega) k133_136_0 k133_140_a110 (by omega) (by omega) (by omega)
        refine Tr.icmp_gt (pc := 48) (tgt := 75) d_X12_works_48 rfl (fun c48 => ?_) (fun c48 => ?_)
        · refine Tr.iload (pc := 75) (i := 4) d_X12_works_75 rfl ?_
          refine Tr.bipush (pc := 77) d_X12_works_77 rfl (by decide) ?_
          refine Tr.icmp_ne (pc := 79) (tgt := 103) d_X12_works_79 rfl (fun c79 => ?_) (fun c79 => ?_)
          · refine Tr.iincV (pc := 103) (n2 := (p18_2 - 1)) (ls2 := [(2, (0, (p18_2 - 1))), (4, (0, r42)), (0, (2, 120)), (1, (0, a1)), (3, (0, p18_3))]) d_X12_works_103 rfl (by decide) ((w32_id (by omega)).trans (by omega)) rfl ?_
            refine Tr.aload_n (pc := 106) (i := 0) d_X12_works_106 rfl rfl ?_
            refine Tr.getf (pc := 107) d_X12_works_107 f_12_264 (by decide) (by decide) (ty_120 hS.1.1) ?_
            refine Tr.tp 172 (fx_120_83 hS.1.1) ?_
            refine Tr.iload_n (pc := 110) (i := 2) d_X12_works_110 rfl rfl ?_
            refine Tr.iconst (pc := 111) d_X12_works_111 (by decide) ?_
            refine Tr.isub (pc := 112) d_X12_works_112 ?_
            refine Tr.tp (p18_2 - 2) ((w32_id (by omega)).trans (by omega)) ?_
            refine Tr.iload (pc := 113) (i := 4) d_X12_works_113 rfl ?_
            refine Tr.aload_n (pc := 115) (i := 0) d_X12_works_115 rfl rfl ?_
            refine Tr.getf (pc := 116) d_X12_works_116 f_12_264 (by decide) (by decide) (ty_120 hS.1.1) ?_
            refine Tr.tp 172 (fx_120_83 hS.1.1) ?_
            refine Tr.iload_n (pc := 119) (i := 2) d_X12_works_119 rfl rfl ?_
            refine Tr.iconst (pc := 120) d_X12_works_120 (by decide) ?_
            refine Tr.isub (pc := 121) d_X12_works_121 ?_
            refine Tr.tp (p18_2 - 2) ((w32_id (by omega)).trans (by omega)) ?_
            refine Tr.lald (pc := 122) d_X12_works_122 (ty_172 hS.1.1) (by omega) (by omega) ?_
            refine Tr.gen (P := fun v => (-9223372036854775808) ≤ v ∧ v ≤ 9223372036854775807) (ar_172 hS.1.2.1 _) (fun r122 er122 br122 => ?_)
            refine Tr.aload_n (pc := 123) (i := 0) d_X12_works_123 rfl rfl ?_
            refine Tr.getf (pc := 124) d_X12_works_124 f_12_264 (by decide) (by decide) (ty_120 hS.1.1) ?_
            refine Tr.tp 172 (fx_120_83 hS.1.1) ?_
            refine Tr.iload_n (pc := 127) (i := 2) d_X12_works_127 rfl rfl ?_
            refine Tr.lald (pc := 128) d_X12_works_128 (ty_172 hS.1.1) (by omega) (by omega) ?_
            refine Tr.gen (P := fun v => (-9223372036854775808) ≤ v ∧ v ≤ 9223372036854775807) (ar_172 hS.1.2.1 _) (fun r128 er128 br128 => ?_)
            refine Tr.callS (pc := 129) (as := [_, _, _]) d_X12_works_129 s_12_610 ok_X12_joined rfl rfl (Nat.le_of_ble_eq_true rfl) (Nat.le_of_ble_eq_true rfl) ?_
            refine Tr.imp (Tr.deep (by decide) (sp_X12_joined hS.1 r42 (by omega) r122 (by omega) r128 (by omega))) ?_
            rintro M129 _ ⟨h129, r129, rfl, lr129, ur129⟩
            have hS := St.tr hS h129 (by decide) (by decide)
            refine Tr.sc [(1, r129), (0, (p18_2 - 2)), (2, 172)] rfl ?_
            refine Tr.lastS (pc := 132) (P := St Tru ws_X12_works_120 as_X12_works_120 M0) d_X12_works_132 (ty_172 hS.1.1) (by omega) (by omega) (sa_172 hS (by decide) (by omega) trivial) (fun M132 hS w132 => ?_)
            refine Tr.pick [2, 3, 0, 4] (ls2 := [(0, (2, 120)), (1, (0, a1)), (2, (0, (p18_2 - 1))), (3, (0, p18_3))]) rfl ?_
            exact J133 _ _ hS (by omega) ((Wr.b w132 rfl).trans ((St.kp h129 (by decide) (by decide) (by decide)).trans k18_136_0)) ((Wr.b w132 rfl).trans ((St.ka h129 (by decide) (by decide) (by decide)).trans k18_140_a110)) ((Wr.b w132 rfl).trans ((St.ka h129 (by decide) (by decide) (by decide)).trans er32)) ((Wr.b w132 rfl).trans ((St.ka h129 (by decide) (by decide) (by decide)).trans er42)) ((wk_b hw1 (by omega) (by omega) (by omega)).2.2 (by omega) (by omega))
          · refine Tr.aload_n (pc := 82) (i := 0) d_X12_works_82 rfl rfl ?_
            refine Tr.getf (pc := 83) d_X12_works_83 f_12_264 (by decide) (by decide) (ty_120 hS.1.1) ?_
            refine Tr.tp 172 (fx_120_83 hS.1.1) ?_
            refine Tr.iload_n (pc := 86) (i := 2) d_X12_works_86 rfl rfl ?_
            refine Tr.iconst (pc := 87) d_X12_works_87 (by decide) ?_
            refine Tr.isub (pc := 88) d_X12_works_88 ?_
            refine Tr.tp (p18_2 - 1) ((w32_id (by omega)).trans (by omega)) ?_
            refine Tr.lconst (pc := 89) (v := 1) d_X12_works_89 rfl (by decide) ?_
            refine Tr.aload_n (pc := 90) (i := 0) d_X12_works_90 rfl rfl ?_
            refine Tr.getf (pc := 91) d_X12_works_91 f_12_264 (by decide) (by decide) (ty_120 hS.1.1) ?_
            refine Tr.tp 172 (fx_120_83 hS.1.1) ?_
            refine Tr.iload_n (pc := 94) (i := 2) d_X12_works_94 rfl rfl ?_
            refine Tr.iconst (pc := 95) d_X12_works_95 (by decide) ?_
            refine Tr.isub (pc := 96) d_X12_works_96 ?_
            refine Tr.tp (p18_2 - 1) ((w32_id (by omega)).trans (by omega)) ?_
            refine Tr.lald (pc := 97) d_X12_works_97 (ty_172 hS.1.1) (by omega) (by omega) ?_
            refine Tr.gen (P := fun v => (-9223372036854775808) ≤ v ∧ v ≤ 9223372036854775807) (ar_172 hS.1.2.1 _) (fun r97 er97 br97 => ?_)
            refine Tr.lsub (pc := 98) d_X12_works_98 ?_
            refine Tr.gen (P := fun v => (-9223372036854775808) ≤ v ∧ v ≤ 9223372036854775807) (w64_b _) (fun r98 er98 br98 => ?_)
            refine Tr.lastS (pc := 99) (P := St Tru ws_X12_works_120 as_X12_works_120 M0) d_X12_works_99 (ty_172 hS.1.1) (by omega) (by omega) (sa_172 hS (by decide) (by omega) trivial) (fun M99 hS w99 => ?_)
            refine Tr.goto (pc := 100) (tgt := 133) d_X12_works_100 rfl ?_
            refine Tr.pick [1, 2, 3, 4] (ls2 := [(0, (2, 120)), (1, (0, a1)), (2, (0, p18_2)), (3, (0, p18_3))]) rfl ?_
            exact J133 _ _ hS (by omega) ((Wr.b w99 rfl).trans k18_136_0) ((Wr.b w99 rfl).trans k18_140_a110) ((Wr.b w99 rfl).trans er32) ((Wr.b w99 rfl).trans er42) ((wk_b hw1 (by omega) (by omega) (by omega)).2.1 (by omega))
        · refine Tr.aload_n (pc := 51) (i := 0) d_X12_works_51 rfl rfl ?_
          refine Tr.getf (pc := 52) d_X12_works_52 f_12_264 (by decide) (by decide) (ty_120 hS.1.1) ?_
          refine Tr.tp 172 (fx_120_83 hS.1.1) ?_
          refine Tr.iload_n (pc := 55) (i := 2) d_X12_works_55 rfl rfl ?_
          refine Tr.aload_n (pc := 56) (i := 0) d_X12_works_56 rfl rfl ?_
          refine Tr.iload (pc := 57) (i := 4) d_X12_works_57 rfl ?_
          refine Tr.aload_n (pc := 59) (i := 0) d_X12_works_59 rfl rfl ?_
          refine Tr.getf (pc := 60) d_X12_works_60 f_12_118 (by decide) (by decide) (ty_120 hS.1.1) ?_
          refine Tr.tp 144 (fx_120_35 hS.1.1) ?_
          refine Tr.iload_n (pc := 63) (i := 3) d_X12_works_63 rfl rfl ?_
          refine Tr.iald (pc := 64) d_X12_works_64 (ty_144 hS.1.1) (by omega) (by omega) ?_
          refine Tr.gen (P := fun v => ((-2147483648) ≤ v ∧ v ≤ 2147483647) ∧ ((r42 = 1 → 0 ≤ v ∧ v ≤ 2) ∧ (r42 = 2 ∨ r42 = 4 → 0 ≤ v ∧ v ≤ 5))) (by have h8 := gc_at hS.1.2.2 143 144 (by decide) er42; have h9 := (ar_144 hS.1.2.1 (p18_3)); exact ⟨h9, h8⟩) (fun r64 er64 br64 => ?_)
          refine Tr.callV (pc := 65) (as := [_, _]) d_X12_works_65 s_12_606 ok_X12_leaf rfl rfl (Nat.le_of_ble_eq_true rfl) (Nat.le_of_ble_eq_true rfl) (by decide) (ty_120 hS.1.1) ?_
          refine Tr.imp (Tr.deep (by decide) (sp_X12_leaf_120 hS.1 r42 (by omega) r64 (by omega) (by omega))) ?_
          rintro M65 _ ⟨h65, r65, rfl, lr65, ur65⟩
          have hS := St.tr hS h65 (by decide) (by decide)
          refine Tr.sc [(1, r65), (0, p18_2), (2, 172)] rfl ?_
          refine Tr.lastS (pc := 68) (P := St Tru ws_X12_works_120 as_X12_works_120 M0) d_X12_works_68 (ty_172 hS.1.1) (by omega) (by omega) (sa_172 hS (by decide) (by omega) trivial) (fun M68 hS w68 => ?_)
          refine Tr.iincV (pc := 69) (n2 := (p18_2 + 1)) (ls2 := [(2, (0, (p18_2 + 1))), (4, (0, r42)), (0, (2, 120)), (1, (0, a1)), (3, (0, p18_3))]) d_X12_works_69 rfl (by decide) ((w32_id (by omega)).trans (by omega)) rfl ?_
          refine Tr.goto (pc := 72) (tgt := 133) d_X12_works_72 rfl ?_
          refine Tr.pick [2, 3, 0, 4] (ls2 := [(0, (2, 120)), (1, (0, a1)), (2, (0, (p18_2 + 1))), (3, (0, p18_3))]) rfl ?_
          exact J133 _ _ hS (by omega) ((Wr.b w68 rfl).trans ((St.kp h65 (by decide) (by decide) (by decide)).trans k18_136_0)) ((Wr.b w68 rfl).trans ((St.ka h65 (by decide) (by decide) (by decide)).trans k18_140_a110)) ((Wr.b w68 rfl).trans ((St.ka h65 (by decide) (by decide) (by decide)).trans er32)) ((Wr.b w68 rfl).trans ((St.ka h65 (by decide) (by decide) (by decide)).trans er42)) ((wk_b hw1 (by omega) (by omega) (by omega)).1 (by omega))
  refine Tr.pick [2, 3, 1, 0] (ls2 := [(0, (2, 120)), (1, (0, a1)), (2, (0, 0)), (3, (0, r15))]) rfl ?_
  have hd0 : dp M0 (0 + rd M0 140 a1) (r15 - (0 + rd M0 140 a1)).toNat = 0 := by rw [show (r15 - (0 + rd M0 140 a1)).toNat = 0 by omega]; rfl
  exact J18 _ _ _ _ hS (by omega) (by omega) eg136_0 er15 (by omega) (by omega) (Nat.lt_succ_self _)
