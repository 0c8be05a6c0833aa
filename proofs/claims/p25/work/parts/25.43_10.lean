/-! 43.10 -/
section
def ws_X6_worked_48_w3 : List (Int × Int) := []
def as_X6_worked_48_w3 : List Int := [51]
def q_X6_worked_48_w3 (M0 M' : Mem) (r : Option PV) : Prop := St Tru ws_X6_worked_48_w3 as_X6_worked_48_w3 M0 M' ∧ ∃ v : Int, r = some (0, v) ∧ (-2147483648) ≤ v ∧ v ≤ 2147483647
set_option maxRecDepth 100000 in
set_option maxHeartbeats 4000000 in
theorem sp_X6_worked_48_w3 {l : Launch} {K : EC} {M0 : Mem} (hI : In Tru M0) (en_48_1 : rd M0 48 1 = 27) (a1 : Int) (ha1 : 0 ≤ a1 ∧ a1 ≤ 59)  : Tr l K 3 mX6_worked 0 [(0, (2, 48)), (1, (0, a1))] [] M0 (q_X6_worked_48_w3 M0) := by
  have hS : St Tru ws_X6_worked_48_w3 as_X6_worked_48_w3 M0 M0 := St.rf hI
  refine Tr.aload_n (pc := 0) (i := 0) d_X6_worked_0 rfl rfl ?_
  refine Tr.getf (pc := 1) d_X6_worked_1 f_6_46 (by decide) (by decide) (ty_48 hS.1.1) ?_
  refine Tr.tp 27 ((St.kp hS (by decide) (by decide) (by decide)).trans en_48_1) ?_
  refine Tr.getf (pc := 4) d_X6_worked_4 f_6_50 (by decide) (by decide) (ty_27 hS.1.1) ?_
  refine Tr.tp 35 (fx_27_11 hS.1.1) ?_
  refine Tr.astore_n (pc := 7) (i := 2) (ls2 := [(2, (2, 35)), (0, (2, 48)), (1, (0, a1))]) d_X6_worked_7 rfl (by decide) rfl ?_
  refine Tr.iconst (pc := 8) d_X6_worked_8 (by decide) ?_
  refine Tr.istore_n (pc := 9) (i := 3) (ls2 := [(3, (0, 0)), (2, (2, 35)), (0, (2, 48)), (1, (0, a1))]) d_X6_worked_9 rfl (by decide) rfl ?_
  refine Tr.aload_n (pc := 10) (i := 2) d_X6_worked_10 rfl rfl ?_
  refine Tr.getf (pc := 11) d_X6_worked_11 f_6_226 (by decide) (by decide) (ty_35 hS.1.1) ?_
  refine Tr.tp 38 (fx_35_3 hS.1.1) ?_
  refine Tr.iload_n (pc := 14) (i := 1) d_X6_worked_14 rfl rfl ?_
  refine Tr.iald (pc := 15) d_X6_worked_15 (ty_38 hS.1.1) (by omega) (by omega) ?_
  refine Tr.gen (P := fun v => 0 ≤ v ∧ v ≤ 900) (ar_38 hS.1.2.1 _) (fun r15 er15 br15 => ?_)
  refine Tr.istore (pc := 16) (i := 4) (ls2 := [(4, (0, r15)), (3, (0, 0)), (2, (2, 35)), (0, (2, 48)), (1, (0, a1))]) d_X6_worked_16 (by decide) rfl ?_
  have J18 : ∀ (n18 : Nat) (M : Mem) (p18_3 p18_4 : Int), St Tru ws_X6_worked_48_w3 as_X6_worked_48_w3 M0 M → (0 ≤ p18_3 ∧ p18_3 ≤ 64) → (0 ≤ p18_4 ∧ p18_4 ≤ 900) → rd M 38 a1 = r15 → (900 - p18_4).toNat < n18 → Tr l K 3 mX6_worked 18 [(0, (2, 48)), (1, (0, a1)), (2, (2, 35)), (3, (0, p18_3)), (4, (0, p18_4))] [] M (q_X6_worked_48_w3 M0) := by
    intro n18
    induction n18 with
    | zero => intro M p18_3 p18_4 hS bp18_3 bp18_4 k18_38_a110 hm18; exact absurd hm18 (Nat.not_lt_zero _)
    | succ n18 J18 =>
      intro M p18_3 p18_4 hS bp18_3 bp18_4 k18_38_a110 hm18
      refine Tr.iload (pc := 18) (i := 4) d_X6_worked_18 rfl ?_
      refine Tr.aload_n (pc := 20) (i := 2) d_X6_worked_20 rfl rfl ?_
      refine Tr.getf (pc := 21) d_X6_worked_21 f_6_226 (by decide) (by decide) (ty_35 hS.1.1) ?_
      refine Tr.tp 38 (fx_35_3 hS.1.1) ?_
      refine Tr.iload_n (pc := 24) (i := 1) d_X6_worked_24 rfl rfl ?_
      refine Tr.iconst (pc := 25) d_X6_worked_25 (by decide) ?_
      refine Tr.iadd (pc := 26) d_X6_worked_26 ?_
      refine Tr.tp (a1 + 1) ((w32_id (by omega)).trans (by omega)) ?_
      refine Tr.iald (pc := 27) d_X6_worked_27 (ty_38 hS.1.1) (by omega) (by omega) ?_
      refine Tr.gen (P := fun v => 0 ≤ v ∧ v ≤ 900) (ar_38 hS.1.2.1 _) (fun r27 er27 br27 => ?_)
      refine Tr.icmp_ge (pc := 28) (tgt := 156) d_X6_worked_28 rfl (fun c28 => ?_) (fun c28 => ?_)
      · refine Tr.iload_n (pc := 156) (i := 3) d_X6_worked_156 rfl rfl ?_
        refine Tr.iconst (pc := 157) d_X6_worked_157 (by decide) ?_
        refine Tr.icmp_ne (pc := 158) (tgt := 170) d_X6_worked_158 rfl (fun c158 => ?_) (fun c158 => ?_)
        · refine Tr.iconst (pc := 170) d_X6_worked_170 (by decide) ?_
          exact Tr.iret (pc := 171) d_X6_worked_171 rfl ⟨hS, _, rfl, by omega, by omega⟩
        · refine Tr.aload_n (pc := 161) (i := 0) d_X6_worked_161 rfl rfl ?_
          refine Tr.getf (pc := 162) d_X6_worked_162 f_6_18 (by decide) (by decide) (ty_48 hS.1.1) ?_
          refine Tr.tp 51 (fx_48_4 hS.1.1) ?_
          refine Tr.iconst (pc := 165) d_X6_worked_165 (by decide) ?_
          refine Tr.iald (pc := 166) d_X6_worked_166 (ty_51 hS.1.1) (by omega) (by omega) ?_
          refine Tr.gen (P := fun v => (-2147483648) ≤ v ∧ v ≤ 2147483647) (ar_51 hS.1.2.1 _) (fun r166 er166 br166 => ?_)
          refine Tr.goto (pc := 167) (tgt := 171) d_X6_worked_167 rfl ?_
          exact Tr.iret (pc := 171) d_X6_worked_171 rfl ⟨hS, _, rfl, by omega, by omega⟩
      · refine Tr.aload_n (pc := 31) (i := 2) d_X6_worked_31 rfl rfl ?_
        refine Tr.getf (pc := 32) d_X6_worked_32 f_6_229 (by decide) (by decide) (ty_35 hS.1.1) ?_
        refine Tr.tp 44 (fx_35_9 hS.1.1) ?_
        refine Tr.iload (pc := 35) (i := 4) d_X6_worked_35 rfl ?_
        refine Tr.iald (pc := 37) d_X6_worked_37 (ty_44 hS.1.1) (by omega) (by omega) ?_
        refine Tr.gen (P := fun v => (-2147483648) ≤ v ∧ v ≤ 2147483647) (ar_44 hS.1.2.1 _) (fun r37 er37 br37 => ?_)
        refine Tr.istore (pc := 38) (i := 5) (ls2 := [(5, (0, r37)), (0, (2, 48)), (1, (0, a1)), (2, (2, 35)), (3, (0, p18_3)), (4, (0, p18_4))]) d_X6_worked_38 (by decide) rfl ?_
        refine Tr.iload (pc := 40) (i := 5) d_X6_worked_40 rfl ?_
        refine Tr.iconst (pc := 42) d_X6_worked_42 (by decide) ?_
        have J150 : ∀ (M : Mem) (p150_3 : Int), St Tru ws_X6_worked_48_w3 as_X6_worked_48_w3 M0 M → (1 ≤ p150_3 ∧ p150_3 ≤ 64) → rd M 38 a1 = r15 → rd M 38 (a1 + 1) = r27 → rd M 44 p18_4 = r37 → Tr l K 3 mX6_worked 150 [(0, (2, 48)), (1, (0, a1)), (2, (2, 35)), (3, (0, p150_3)), (4, (0, p18_4))] [] M (q_X6_worked_48_w3 M0) := by
          intro M p150_3 hS bp150_3 k150_38_a110 k150_38_a111 k150_44_p18_410
          refine Tr.iincV (pc := 150) (n2 := (p18_4 + 1)) (ls2 := [(4, (0, (p18_4 + 1))), (0, (2, 48)), (1, (0, a1)), (2, (2, 35)), (3, (0, p150_3))]) d_X6_worked_150 rfl (by decide) ((w32_id (by omega)).trans (by omega)) rfl ?_
          refine Tr.goto (pc := 153) (tgt := 18) d_X6_worked_153 rfl ?_
          refine Tr.pick [1, 2, 3, 4, 0] (ls2 := [(0, (2, 48)), (1, (0, a1)), (2, (2, 35)), (3, (0, p150_3)), (4, (0, (p18_4 + 1)))]) rfl ?_
          exact J18 _ _ _ hS (by omega) (by omega) k150_38_a110 (by omega)
        refine Tr.icmp_ge (pc := 43) (tgt := 79) d_X6_worked_43 rfl (fun c43 => ?_) (fun c43 => ?_)
        · refine Tr.iload (pc := 79) (i := 5) d_X6_worked_79 rfl ?_
          refine Tr.iconst (pc := 81) d_X6_worked_81 (by decide) ?_
          refine Tr.icmp_ne (pc := 82) (tgt := 113) d_X6_worked_82 rfl (fun c82 => ?_) (fun c82 => ?_)
          · refine Tr.iload_n (pc := 113) (i := 3) d_X6_worked_113 rfl rfl ?_
            refine Tr.iconst (pc := 114) d_X6_worked_114 (by decide) ?_
            refine Tr.icmp_ge (pc := 115) (tgt := 120) d_X6_worked_115 rfl (fun c115 => ?_) (fun c115 => ?_)
            · refine Tr.iincV (pc := 120) (n2 := (p18_3 - 1)) (ls2 := [(3, (0, (p18_3 - 1))), (5, (0, r37)), (0, (2, 48)), (1, (0, a1)), (2, (2, 35)), (4, (0, p18_4))]) d_X6_worked_120 rfl (by decide) ((w32_id (by omega)).trans (by omega)) rfl ?_
              refine Tr.aload_n (pc := 123) (i := 0) d_X6_worked_123 rfl rfl ?_
              refine Tr.getf (pc := 124) d_X6_worked_124 f_6_18 (by decide) (by decide) (ty_48 hS.1.1) ?_
              refine Tr.tp 51 (fx_48_4 hS.1.1) ?_
              refine Tr.iload_n (pc := 127) (i := 3) d_X6_worked_127 rfl rfl ?_
              refine Tr.iconst (pc := 128) d_X6_worked_128 (by decide) ?_
              refine Tr.isub (pc := 129) d_X6_worked_129 ?_
              refine Tr.tp (p18_3 - 2) ((w32_id (by omega)).trans (by omega)) ?_
              refine Tr.iload (pc := 130) (i := 5) d_X6_worked_130 rfl ?_
              refine Tr.aload_n (pc := 132) (i := 0) d_X6_worked_132 rfl rfl ?_
              refine Tr.getf (pc := 133) d_X6_worked_133 f_6_18 (by decide) (by decide) (ty_48 hS.1.1) ?_
              refine Tr.tp 51 (fx_48_4 hS.1.1) ?_
              refine Tr.iload_n (pc := 136) (i := 3) d_X6_worked_136 rfl rfl ?_
              refine Tr.iconst (pc := 137) d_X6_worked_137 (by decide) ?_
              refine Tr.isub (pc := 138) d_X6_worked_138 ?_
              refine Tr.tp (p18_3 - 2) ((w32_id (by omega)).trans (by omega)) ?_
              refine Tr.iald (pc := 139) d_X6_worked_139 (ty_51 hS.1.1) (by omega) (by omega) ?_
              refine Tr.gen (P := fun v => (-2147483648) ≤ v ∧ v ≤ 2147483647) (ar_51 hS.1.2.1 _) (fun r139 er139 br139 => ?_)
              refine Tr.aload_n (pc := 140) (i := 0) d_X6_worked_140 rfl rfl ?_
              refine Tr.getf (pc := 141) d_X6_worked_141 f_6_18 (by decide) (by decide) (ty_48 hS.1.1) ?_
              refine Tr.tp 51 (fx_48_4 hS.1.1) ?_
              refine Tr.iload_n (pc := 144) (i := 3) d_X6_worked_144 rfl rfl ?_
              refine Tr.iald (pc := 145) d_X6_worked_145 (ty_51 hS.1.1) (by omega) (by omega) ?_
              refine Tr.gen (P := fun v => (-2147483648) ≤ v ∧ v ≤ 2147483647) (ar_51 hS.1.2.1 _) (fun r145 er145 br145 => ?_)
              refine Tr.callS (pc := 146) (as := [_, _, _]) d_X6_worked_146 s_6_238 ok_X6_joined rfl rfl (Nat.le_of_ble_eq_true rfl) (Nat.le_of_ble_eq_true rfl) ?_
              refine Tr.imp (Tr.deep (by decide) (sp_X6_joined hS.1 r37 (by omega) r139 (by omega) r145 (by omega))) ?_
              rintro M146 _ ⟨h146, r146, rfl, lr146, ur146⟩
              have hS := St.tr hS h146 (by decide) (by decide)
              refine Tr.sc [(0, r146), (0, (p18_3 - 2)), (2, 51)] rfl ?_
              refine Tr.iastS (pc := 149) (P := St Tru ws_X6_worked_48_w3 as_X6_worked_48_w3 M0) d_X6_worked_149 (ty_51 hS.1.1) (by omega) (by omega) (sa_51 hS (by decide) (by omega) trivial) (fun M149 hS w149 => ?_)
              refine Tr.pick [2, 3, 4, 0, 5] (ls2 := [(0, (2, 48)), (1, (0, a1)), (2, (2, 35)), (3, (0, (p18_3 - 1))), (4, (0, p18_4))]) rfl ?_
              exact J150 _ _ hS (by omega) ((Wr.b w149 rfl).trans ((St.ka h146 (by decide) (by decide) (by decide)).trans k18_38_a110)) ((Wr.b w149 rfl).trans ((St.ka h146 (by decide) (by decide) (by decide)).trans er27)) ((Wr.b w149 rfl).trans ((St.ka h146 (by decide) (by decide) (by decide)).trans er37))
            · refine Tr.iconst (pc := 118) d_X6_worked_118 (by decide) ?_
              exact Tr.iret (pc := 119) d_X6_worked_119 rfl ⟨hS, _, rfl, by omega, by omega⟩
          · refine Tr.iload_n (pc := 85) (i := 3) d_X6_worked_85 rfl rfl ?_
            refine Tr.iconst (pc := 86) d_X6_worked_86 (by decide) ?_
            refine Tr.icmp_ge (pc := 87) (tgt := 92) d_X6_worked_87 rfl (fun c87 => ?_) (fun c87 => ?_)
            · refine Tr.aload_n (pc := 92) (i := 0) d_X6_worked_92 rfl rfl ?_
              refine Tr.getf (pc := 93) d_X6_worked_93 f_6_18 (by decide) (by decide) (ty_48 hS.1.1) ?_
              refine Tr.tp 51 (fx_48_4 hS.1.1) ?_
              refine Tr.iload_n (pc := 96) (i := 3) d_X6_worked_96 rfl rfl ?_
              refine Tr.iconst (pc := 97) d_X6_worked_97 (by decide) ?_
              refine Tr.isub (pc := 98) d_X6_worked_98 ?_
              refine Tr.tp (p18_3 - 1) ((w32_id (by omega)).trans (by omega)) ?_
              refine Tr.iconst (pc := 99) d_X6_worked_99 (by decide) ?_
              refine Tr.aload_n (pc := 100) (i := 0) d_X6_worked_100 rfl rfl ?_
              refine Tr.getf (pc := 101) d_X6_worked_101 f_6_18 (by decide) (by decide) (ty_48 hS.1.1) ?_
              refine Tr.tp 51 (fx_48_4 hS.1.1) ?_
              refine Tr.iload_n (pc := 104) (i := 3) d_X6_worked_104 rfl rfl ?_
              refine Tr.iconst (pc := 105) d_X6_worked_105 (by decide) ?_
              refine Tr.isub (pc := 106) d_X6_worked_106 ?_
              refine Tr.tp (p18_3 - 1) ((w32_id (by omega)).trans (by omega)) ?_
              refine Tr.iald (pc := 107) d_X6_worked_107 (ty_51 hS.1.1) (by omega) (by omega) ?_
              refine Tr.gen (P := fun v => (-2147483648) ≤ v ∧ v ≤ 2147483647) (ar_51 hS.1.2.1 _) (fun r107 er107 br107 => ?_)
              refine Tr.isub (pc := 108) d_X6_worked_108 ?_
              refine Tr.gen (P := fun v => (-2147483648) ≤ v ∧ v ≤ 2147483647) (w32_b _) (fun r108 er108 br108 => ?_)
              refine Tr.iastS (pc := 109) (P := St Tru ws_X6_worked_48_w3 as_X6_worked_48_w3 M0) d_X6_worked_109 (ty_51 hS.1.1) (by omega) (by omega) (sa_51 hS (by decide) (by omega) trivial) (fun M109 hS w109 => ?_)
              refine Tr.goto (pc := 110) (tgt := 150) d_X6_worked_110 rfl ?_
              refine Tr.pick [1, 2, 3, 4, 5] (ls2 := [(0, (2, 48)), (1, (0, a1)), (2, (2, 35)), (3, (0, p18_3)), (4, (0, p18_4))]) rfl ?_
              exact J150 _ _ hS (by omega) ((Wr.b w109 rfl).trans k18_38_a110) ((Wr.b w109 rfl).trans er27) ((Wr.b w109 rfl).trans er37)
            · refine Tr.iconst (pc := 90) d_X6_worked_90 (by decide) ?_
              exact Tr.iret (pc := 91) d_X6_worked_91 rfl ⟨hS, _, rfl, by omega, by omega⟩
        · refine Tr.iload_n (pc := 46) (i := 3) d_X6_worked_46 rfl rfl ?_
          refine Tr.bipush (pc := 47) d_X6_worked_47 rfl (by decide) ?_
          refine Tr.icmp_lt (pc := 49) (tgt := 54) d_X6_worked_49 rfl (fun c49 => ?_) (fun c49 => ?_)
          · refine Tr.aload_n (pc := 54) (i := 0) d_X6_worked_54 rfl rfl ?_
            refine Tr.getf (pc := 55) d_X6_worked_55 f_6_18 (by decide) (by decide) (ty_48 hS.1.1) ?_
            refine Tr.tp 51 (fx_48_4 hS.1.1) ?_
            refine Tr.iload_n (pc := 58) (i := 3) d_X6_worked_58 rfl rfl ?_
            refine Tr.aload_n (pc := 59) (i := 0) d_X6_worked_59 rfl rfl ?_
            refine Tr.iload (pc := 60) (i := 5) d_X6_worked_60 rfl ?_
            refine Tr.aload_n (pc := 62) (i := 2) d_X6_worked_62 rfl rfl ?_
            refine Tr.getf (pc := 63) d_X6_worked_63 f_6_232 (by decide) (by decide) (ty_35 hS.1.1) ?_
            refine Tr.tp 45 (fx_35_10 hS.1.1) ?_
            refine Tr.iload (pc := 66) (i := 4) d_X6_worked_66 rfl ?_
            refine Tr.iald (pc := 68) d_X6_worked_68 (ty_45 hS.1.1) (by omega) (by omega) ?_
            refine Tr.gen (P := fun v => ((-2147483648) ≤ v ∧ v ≤ 2147483647) ∧ ((r37 = 1 → 0 ≤ v ∧ v ≤ 2) ∧ (r37 = 2 ∨ r37 = 4 → 0 ≤ v ∧ v ≤ 5))) (by have h8 := gc_at hS.1.2.2 44 45 (by decide) er37; have h9 := (ar_45 hS.1.2.1 (p18_4)); exact ⟨h9, h8⟩) (fun r68 er68 br68 => ?_)
            refine Tr.callV (pc := 69) (as := [_, _]) d_X6_worked_69 s_6_235 ok_X6_single rfl rfl (Nat.le_of_ble_eq_true rfl) (Nat.le_of_ble_eq_true rfl) (by decide) (ty_48 hS.1.1) ?_
            refine Tr.imp (Tr.deep (by decide) (sp_X6_single_48 hS.1 r37 (by omega) r68 (by omega) (by omega))) ?_
            rintro M69 _ ⟨h69, r69, rfl, lr69, ur69⟩
            have hS := St.tr hS h69 (by decide) (by decide)
            refine Tr.sc [(0, r69), (0, p18_3), (2, 51)] rfl ?_
            refine Tr.iastS (pc := 72) (P := St Tru ws_X6_worked_48_w3 as_X6_worked_48_w3 M0) d_X6_worked_72 (ty_51 hS.1.1) (by omega) (by omega) (sa_51 hS (by decide) (by omega) trivial) (fun M72 hS w72 => ?_)
            refine Tr.iincV (pc := 73) (n2 := (p18_3 + 1)) (ls2 := [(3, (0, (p18_3 + 1))), (5, (0, r37)), (0, (2, 48)), (1, (0, a1)), (2, (2, 35)), (4, (0, p18_4))]) d_X6_worked_73 rfl (by decide) ((w32_id (by omega)).trans (by omega)) rfl ?_
            refine Tr.goto (pc := 76) (tgt := 150) d_X6_worked_76 rfl ?_
            refine Tr.pick [2, 3, 4, 0, 5] (ls2 := [(0, (2, 48)), (1, (0, a1)), (2, (2, 35)), (3, (0, (p18_3 + 1))), (4, (0, p18_4))]) rfl ?_
            exact J150 _ _ hS (by omega) ((Wr.b w72 rfl).trans ((St.ka h69 (by decide) (by decide) (by decide)).trans k18_38_a110)) ((Wr.b w72 rfl).trans ((St.ka h69 (by decide) (by decide) (by decide)).trans er27)) ((Wr.b w72 rfl).trans ((St.ka h69 (by decide) (by decide) (by decide)).trans er37))
          · refine Tr.iconst (pc := 52) d_X6_worked_52 (by decide) ?_
            exact Tr.iret (pc := 53) d_X6_worked_53 rfl ⟨hS, _, rfl, by omega, by omega⟩
  refine Tr.pick [3, 4, 2, 1, 0] (ls2 := [(0, (2, 48)), (1, (0, a1)), (2, (2, 35)), (3, (0, 0)), (4, (0, r15))]) rfl ?_
  exact J18 _ _ _ _ hS (by omega) (by omega) er15 (Nat.lt_succ_self _)

def ws_X6_free_48_w3 : List (Int × Int) := [(63, 0)]
def as_X6_free_48_w3 : List Int := [53, 54, 55, 57, 58, 60, 61, 62, 69, 191]
def q_X6_free_48_w3 (M0 M' : Mem) (r : Option PV) : Prop := St Rn ws_X6_free_48_w3 as_X6_free_48_w3 M0 M' ∧ r = none
set_option maxRecDepth 100000 in
set_option maxHeartbeats 4000000 in
theorem sp_X6_free_48_w3 {l : Launch} {K : EC} {M0 : Mem} (hI : In Rn M0) (en_48_1 : rd M0 48 1 = 27) (en_56_1 : rd M0 56 1 = 27) (a1 : Int) (ha1 : 0 ≤ a1 ∧ a1 ≤ 59) (a2 : Int) (ha2 : 0 ≤ a2 ∧ a2 ≤ 5)  : Tr l K 3 mX6_free 0 [(0, (2, 48)), (1, (0, a1)), (2, (0, a2))] [] M0 (q_X6_free_48_w3 M0) := by
  have hS : St Rn ws_X6_free_48_w3 as_X6_free_48_w3 M0 M0 := St.rf hI
  refine Tr.aload_n (pc := 0) (i := 0) d_X6_free_0 rfl rfl ?_
  refine Tr.getf (pc := 1) d_X6_free_1 f_6_24 (by decide) (by decide) (ty_48 hS.1.1) ?_
  refine Tr.tp 53 (fx_48_6 hS.1.1) ?_
  refine Tr.iload_n (pc := 4) (i := 2) d_X6_free_4 rfl rfl ?_
  refine Tr.iald (pc := 5) d_X6_free_5 (ty_53 hS.1.1) (by omega) (by omega) ?_
  refine Tr.gen (P := fun v => 0 ≤ v ∧ v ≤ 1) (ar_53 hS.1.2.1 _) (fun r5 er5 br5 => ?_)
  refine Tr.if_ne (pc := 6) (tgt := 10) d_X6_free_6 rfl (fun c6 => ?_) (fun c6 => ?_)
  · refine Tr.aload_n (pc := 10) (i := 0) d_X6_free_10 rfl rfl ?_
    refine Tr.iload_n (pc := 11) (i := 2) d_X6_free_11 rfl rfl ?_
    refine Tr.aload_n (pc := 12) (i := 0) d_X6_free_12 rfl rfl ?_
    refine Tr.getf (pc := 13) d_X6_free_13 f_6_68 (by decide) (by decide) (ty_48 hS.1.1) ?_
    refine Tr.gen (P := fun v => (-2147483648) ≤ v ∧ v ≤ 2147483647) (ir_48_9 hS.1.2.1) (fun r13 er13 br13 => ?_)
    refine Tr.callV (pc := 16) (as := [_, _]) d_X6_free_16 s_6_125 ok_X6_settle rfl rfl (Nat.le_of_ble_eq_true rfl) (Nat.le_of_ble_eq_true rfl) (by decide) (ty_48 hS.1.1) ?_
    refine Tr.imp (Tr.deep (by decide) (sp_X6_settle_48_w1 hS.1 ((St.kp hS (by decide) (by decide) (by decide)).trans en_56_1) a2 (by omega) r13 (by omega))) ?_
    rintro M16 _ ⟨h16, rfl⟩
    have hS := St.tr hS h16 (by decide) (by decide)
    refine Tr.sc [] rfl ?_
    refine Tr.aload_n (pc := 19) (i := 0) d_X6_free_19 rfl rfl ?_
    refine Tr.getf (pc := 20) d_X6_free_20 f_6_38 (by decide) (by decide) (ty_48 hS.1.1) ?_
    refine Tr.tp 56 (fx_48_0 hS.1.1) ?_
    refine Tr.iload_n (pc := 23) (i := 2) d_X6_free_23 rfl rfl ?_
    refine Tr.aload_n (pc := 24) (i := 0) d_X6_free_24 rfl rfl ?_
    refine Tr.getf (pc := 25) d_X6_free_25 f_6_68 (by decide) (by decide) (ty_48 hS.1.1) ?_
    refine Tr.tp r13 ((St.kp h16 (by decide) (by decide) (by decide)).trans er13) ?_
    refine Tr.callV (pc := 28) (as := [_, _]) d_X6_free_28 s_6_128 ok_X1_letGo rfl rfl (Nat.le_of_ble_eq_true rfl) (Nat.le_of_ble_eq_true rfl) (by decide) (ty_56 hS.1.1) ?_
    refine Tr.imp (Tr.deep (by decide) (sp_X1_letGo_56 hS.1.wk a2 (by omega) r13 (by omega))) ?_
    rintro M28 _ ⟨h28, rfl⟩
    have h28 := St.rn h28 (Rn.of hS.1.2.2.2.2 (fun _ => (St.ka h28 (by decide) (by decide) (by decide))) (St.kp h28 (by decide) (by decide) (by decide)))
    have hS := St.tr hS h28 (by decide) (by decide)
    refine Tr.sc [] rfl ?_
    refine Tr.aload_n (pc := 31) (i := 0) d_X6_free_31 rfl rfl ?_
    refine Tr.getf (pc := 32) d_X6_free_32 f_6_38 (by decide) (by decide) (ty_48 hS.1.1) ?_
    refine Tr.tp 56 (fx_48_0 hS.1.1) ?_
    refine Tr.iload_n (pc := 35) (i := 2) d_X6_free_35 rfl rfl ?_
    refine Tr.iload_n (pc := 36) (i := 1) d_X6_free_36 rfl rfl ?_
    refine Tr.callV (pc := 37) (as := [_, _]) d_X6_free_37 s_6_214 ok_X1_act rfl rfl (Nat.le_of_ble_eq_true rfl) (Nat.le_of_ble_eq_true rfl) (by decide) (ty_56 hS.1.1) ?_
    refine Tr.imp (Tr.deep (by decide) (sp_X1_act_56_w1 hS.1 a2 (by omega) a1 (by omega))) ?_
    rintro M37 _ ⟨h37, rfl⟩
    have hS := St.tr hS h37 (by decide) (by decide)
    refine Tr.sc [] rfl ?_
    refine Tr.aload_n (pc := 40) (i := 0) d_X6_free_40 rfl rfl ?_
    refine Tr.getf (pc := 41) d_X6_free_41 f_6_24 (by decide) (by decide) (ty_48 hS.1.1) ?_
    refine Tr.tp 53 (fx_48_6 hS.1.1) ?_
    refine Tr.iload_n (pc := 44) (i := 2) d_X6_free_44 rfl rfl ?_
    refine Tr.iconst (pc := 45) d_X6_free_45 (by decide) ?_
    refine Tr.iastS (pc := 46) (P := St Rn ws_X6_free_48_w3 as_X6_free_48_w3 M0) d_X6_free_46 (ty_53 hS.1.1) (by omega) (by omega) (sa_53 hS (by decide) (by omega) (Rn.of hS.1.2.2.2.2 (fun _ => rd_wb _ rfl) (rd_wb _ rfl))) (fun M46 hS w46 => ?_)
    refine Tr.aload_n (pc := 47) (i := 0) d_X6_free_47 rfl rfl ?_
    refine Tr.getf (pc := 48) d_X6_free_48 f_6_27 (by decide) (by decide) (ty_48 hS.1.1) ?_
    refine Tr.tp 54 (fx_48_7 hS.1.1) ?_
    refine Tr.iload_n (pc := 51) (i := 2) d_X6_free_51 rfl rfl ?_
    refine Tr.aload_n (pc := 52) (i := 0) d_X6_free_52 rfl rfl ?_
    refine Tr.getf (pc := 53) d_X6_free_53 f_6_68 (by decide) (by decide) (ty_48 hS.1.1) ?_
    refine Tr.tp r13 ((Wr.b w46 rfl).trans ((St.kp h37 (by decide) (by decide) (by decide)).trans ((St.kp h28 (by decide) (by decide) (by decide)).trans ((St.kp h16 (by decide) (by decide) (by decide)).trans er13)))) ?_
    refine Tr.aload_n (pc := 56) (i := 0) d_X6_free_56 rfl rfl ?_
    refine Tr.getf (pc := 57) d_X6_free_57 f_6_46 (by decide) (by decide) (ty_48 hS.1.1) ?_
    refine Tr.tp 27 ((St.kp hS (by decide) (by decide) (by decide)).trans en_48_1) ?_
    refine Tr.getf (pc := 60) d_X6_free_60 f_6_208 (by decide) (by decide) (ty_27 hS.1.1) ?_
    refine Tr.tp 31 (fx_27_7 hS.1.1) ?_
    refine Tr.iload_n (pc := 63) (i := 2) d_X6_free_63 rfl rfl ?_
    refine Tr.iald (pc := 64) d_X6_free_64 (ty_31 hS.1.1) (by omega) (by omega) ?_
    refine Tr.gen (P := fun v => 0 ≤ v ∧ v ≤ 50) (ar_31 hS.1.2.1 _) (fun r64 er64 br64 => ?_)
    refine Tr.iadd (pc := 65) d_X6_free_65 ?_
    refine Tr.gen (P := fun v => (-2147483648) ≤ v ∧ v ≤ 2147483647) (w32_b _) (fun r65 er65 br65 => ?_)
    refine Tr.iastS (pc := 66) (P := St Rn ws_X6_free_48_w3 as_X6_free_48_w3 M0) d_X6_free_66 (ty_54 hS.1.1) (by omega) (by omega) (sa_54 hS (by decide) (by omega) (Rn.of hS.1.2.2.2.2 (fun _ => rd_wb _ rfl) (rd_wb _ rfl))) (fun M66 hS w66 => ?_)
    exact Tr.vret (pc := 67) d_X6_free_67 rfl ⟨hS, rfl⟩
  · exact Tr.vret (pc := 9) d_X6_free_9 rfl ⟨hS, rfl⟩

def ws_X6_bookBusy_48_w3 : List (Int × Int) := [(63, 0)]
def as_X6_bookBusy_48_w3 : List Int := [55, 57, 58, 60, 61, 69, 191]
def q_X6_bookBusy_48_w3 (M0 M' : Mem) (r : Option PV) : Prop := St Rn ws_X6_bookBusy_48_w3 as_X6_bookBusy_48_w3 M0 M' ∧ r = none
set_option maxRecDepth 100000 in
set_option maxHeartbeats 4000000 in
theorem sp_X6_bookBusy_48_w3 {l : Launch} {K : EC} {M0 : Mem} (hI : In Rn M0) (en_56_1 : rd M0 56 1 = 27) (a1 : Int) (ha1 : 0 ≤ a1 ∧ a1 ≤ 59) (a2 : Int) (ha2 : 0 ≤ a2 ∧ a2 ≤ 5) (a3 : Int) (ha3 : (-2147483648) ≤ a3 ∧ a3 ≤ 2147483647) (a4 : Int) (ha4 : (-2147483648) ≤ a4 ∧ a4 ≤ 2147483647)  : Tr l K 2 mX6_bookBusy 0 [(0, (2, 48)), (1, (0, a1)), (2, (0, a2)), (3, (0, a3)), (4, (0, a4))] [] M0 (q_X6_bookBusy_48_w3 M0) := by
  have hS : St Rn ws_X6_bookBusy_48_w3 as_X6_bookBusy_48_w3 M0 M0 := St.rf hI
  refine Tr.aload_n (pc := 0) (i := 0) d_X6_bookBusy_0 rfl rfl ?_
  refine Tr.getf (pc := 1) d_X6_bookBusy_1 f_6_38 (by decide) (by decide) (ty_48 hS.1.1) ?_
  refine Tr.tp 56 (fx_48_0 hS.1.1) ?_
  refine Tr.iload_n (pc := 4) (i := 2) d_X6_bookBusy_4 rfl rfl ?_
  refine Tr.iload_n (pc := 5) (i := 1) d_X6_bookBusy_5 rfl rfl ?_
  refine Tr.callV (pc := 6) (as := [_, _]) d_X6_bookBusy_6 s_6_214 ok_X1_act rfl rfl (Nat.le_of_ble_eq_true rfl) (Nat.le_of_ble_eq_true rfl) (by decide) (ty_56 hS.1.1) ?_
  refine Tr.imp (Tr.deep (by decide) (sp_X1_act_56_w1 hS.1 a2 (by omega) a1 (by omega))) ?_
  rintro M6 _ ⟨h6, rfl⟩
  have hS := St.tr hS h6 (by decide) (by decide)
  refine Tr.sc [] rfl ?_
  refine Tr.aload_n (pc := 9) (i := 0) d_X6_bookBusy_9 rfl rfl ?_
  refine Tr.getf (pc := 10) d_X6_bookBusy_10 f_6_38 (by decide) (by decide) (ty_48 hS.1.1) ?_
  refine Tr.tp 56 (fx_48_0 hS.1.1) ?_
  refine Tr.iload_n (pc := 13) (i := 2) d_X6_bookBusy_13 rfl rfl ?_
  refine Tr.iconst (pc := 14) d_X6_bookBusy_14 (by decide) ?_
  refine Tr.iload_n (pc := 15) (i := 3) d_X6_bookBusy_15 rfl rfl ?_
  refine Tr.iload (pc := 16) (i := 4) d_X6_bookBusy_16 rfl ?_
  refine Tr.callV (pc := 18) (as := [_, _, _, _]) d_X6_bookBusy_18 s_6_192 ok_X1_note rfl rfl (Nat.le_of_ble_eq_true rfl) (Nat.le_of_ble_eq_true rfl) (by decide) (ty_56 hS.1.1) ?_
  refine Tr.imp (Tr.deep (by decide) (sp_X1_note_56_w6 hS.1 ((St.kp hS (by decide) (by decide) (by decide)).trans en_56_1) a2 (by omega) 1 (by omega) a3 (by omega) a4 (by omega))) ?_
  rintro M18 _ ⟨h18, rfl⟩
  have hS := St.tr hS h18 (by decide) (by decide)
  refine Tr.sc [] rfl ?_
  refine Tr.aload_n (pc := 21) (i := 0) d_X6_bookBusy_21 rfl rfl ?_
  refine Tr.getf (pc := 22) d_X6_bookBusy_22 f_6_38 (by decide) (by decide) (ty_48 hS.1.1) ?_
  refine Tr.tp 56 (fx_48_0 hS.1.1) ?_
  refine Tr.iload_n (pc := 25) (i := 2) d_X6_bookBusy_25 rfl rfl ?_
  refine Tr.iconst (pc := 26) d_X6_bookBusy_26 (by decide) ?_
  refine Tr.iload (pc := 27) (i := 4) d_X6_bookBusy_27 rfl ?_
  refine Tr.aload_n (pc := 29) (i := 0) d_X6_bookBusy_29 rfl rfl ?_
  refine Tr.getf (pc := 30) d_X6_bookBusy_30 f_6_68 (by decide) (by decide) (ty_48 hS.1.1) ?_
  refine Tr.gen (P := fun v => (-2147483648) ≤ v ∧ v ≤ 2147483647) (ir_48_9 hS.1.2.1) (fun r30 er30 br30 => ?_)
  refine Tr.callV (pc := 33) (as := [_, _, _, _]) d_X6_bookBusy_33 s_6_192 ok_X1_note rfl rfl (Nat.le_of_ble_eq_true rfl) (Nat.le_of_ble_eq_true rfl) (by decide) (ty_56 hS.1.1) ?_
  refine Tr.imp (Tr.deep (by decide) (sp_X1_note_56_w7 hS.1 ((St.kp hS (by decide) (by decide) (by decide)).trans en_56_1) a2 (by omega) 3 (by omega) a4 (by omega) r30 (by omega))) ?_
  rintro M33 _ ⟨h33, rfl⟩
  have hS := St.tr hS h33 (by decide) (by decide)
  refine Tr.sc [] rfl ?_
  refine Tr.aload_n (pc := 36) (i := 0) d_X6_bookBusy_36 rfl rfl ?_
  refine Tr.getf (pc := 37) d_X6_bookBusy_37 f_6_30 (by decide) (by decide) (ty_48 hS.1.1) ?_
  refine Tr.tp 55 (fx_48_8 hS.1.1) ?_
  refine Tr.iload_n (pc := 40) (i := 2) d_X6_bookBusy_40 rfl rfl ?_
  refine Tr.aload_n (pc := 41) (i := 0) d_X6_bookBusy_41 rfl rfl ?_
  refine Tr.getf (pc := 42) d_X6_bookBusy_42 f_6_68 (by decide) (by decide) (ty_48 hS.1.1) ?_
  refine Tr.tp r30 ((St.kp h33 (by decide) (by decide) (by decide)).trans er30) ?_
  refine Tr.iastS (pc := 45) (P := St Rn ws_X6_bookBusy_48_w3 as_X6_bookBusy_48_w3 M0) d_X6_bookBusy_45 (ty_55 hS.1.1) (by omega) (by omega) (sa_55 hS (by decide) (by omega) (Rn.of hS.1.2.2.2.2 (fun _ => rd_wb _ rfl) (rd_wb _ rfl))) (fun M45 hS w45 => ?_)
  exact Tr.vret (pc := 46) d_X6_bookBusy_46 rfl ⟨hS, rfl⟩

def ws_X6_hold_48_w3 : List (Int × Int) := [(48, 9), (48, 14), (48, 17), (63, 0), (63, 7)]
def as_X6_hold_48_w3 : List Int := [53, 54, 55, 57, 58, 59, 60, 61, 62, 69, 191]
def q_X6_hold_48_w3 (a1 : Int) (a2 : Int) (M0 M' : Mem) (r : Option PV) : Prop := St Rn ws_X6_hold_48_w3 as_X6_hold_48_w3 M0 M' ∧ r = none ∧ (rd M' 63 7 ≤ rd M0 63 7 + 1)
set_option maxRecDepth 100000 in
set_option maxHeartbeats 4000000 in
theorem sp_X6_hold_48_w3 {l : Launch} {K : EC} {M0 : Mem} (hI : In Rn M0) (en_48_1 : rd M0 48 1 = 27) (en_56_1 : rd M0 56 1 = 27) (a1 : Int) (ha1 : 0 ≤ a1 ∧ a1 ≤ 59) (a2 : Int) (ha2 : 0 ≤ a2 ∧ a2 ≤ 5)  : Tr l K 3 mX6_hold 0 [(0, (2, 48)), (1, (0, a1)), (2, (0, a2))] [] M0 (q_X6_hold_48_w3 a1 a2 M0) := by
  have hS : St Rn ws_X6_hold_48_w3 as_X6_hold_48_w3 M0 M0 := St.rf hI
  obtain ⟨g63_7, eg63_7⟩ : ∃ v, rd M0 63 7 = v := ⟨_, rfl⟩
  have bg63_7 : (-2147483648) ≤ g63_7 ∧ g63_7 ≤ 2147483647 := by rw [← eg63_7]; exact ir_63_7 hI.2.1
  refine Tr.aload_n (pc := 0) (i := 0) d_X6_hold_0 rfl rfl ?_
  refine Tr.getf (pc := 1) d_X6_hold_1 f_6_24 (by decide) (by decide) (ty_48 hS.1.1) ?_
  refine Tr.tp 53 (fx_48_6 hS.1.1) ?_
  refine Tr.iload_n (pc := 4) (i := 2) d_X6_hold_4 rfl rfl ?_
  refine Tr.iald (pc := 5) d_X6_hold_5 (ty_53 hS.1.1) (by omega) (by omega) ?_
  refine Tr.gen (P := fun v => 0 ≤ v ∧ v ≤ 1) (ar_53 hS.1.2.1 _) (fun r5 er5 br5 => ?_)
  refine Tr.iconst (pc := 6) d_X6_hold_6 (by decide) ?_
  refine Tr.icmp_ne (pc := 7) (tgt := 11) d_X6_hold_7 rfl (fun c7 => ?_) (fun c7 => ?_)
  · refine Tr.aload_n (pc := 11) (i := 0) d_X6_hold_11 rfl rfl ?_
    refine Tr.getf (pc := 12) d_X6_hold_12 f_6_68 (by decide) (by decide) (ty_48 hS.1.1) ?_
    refine Tr.gen (P := fun v => (-2147483648) ≤ v ∧ v ≤ 2147483647) (ir_48_9 hS.1.2.1) (fun r12 er12 br12 => ?_)
    refine Tr.istore_n (pc := 15) (i := 3) (ls2 := [(3, (0, r12)), (0, (2, 48)), (1, (0, a1)), (2, (0, a2))]) d_X6_hold_15 rfl (by decide) rfl ?_
    refine Tr.aload_n (pc := 16) (i := 0) d_X6_hold_16 rfl rfl ?_
    refine Tr.aload_n (pc := 17) (i := 0) d_X6_hold_17 rfl rfl ?_
    refine Tr.iload_n (pc := 18) (i := 2) d_X6_hold_18 rfl rfl ?_
    refine Tr.callV (pc := 19) (as := [_]) d_X6_hold_19 s_6_199 ok_X6_wakeOf rfl rfl (Nat.le_of_ble_eq_true rfl) (Nat.le_of_ble_eq_true rfl) (by decide) (ty_48 hS.1.1) ?_
    refine Tr.imp (Tr.deep (by decide) (sp_X6_wakeOf_48_w1 hS.1.wk ((St.kp hS (by decide) (by decide) (by decide)).trans en_48_1) a2 (by omega))) ?_
    rintro M19 _ ⟨h19, r19, rfl, lr19, ur19⟩
    have h19 := St.rn h19 (Rn.of hS.1.2.2.2.2 (fun _ => (St.ka h19 (by decide) (by decide) (by decide))) (St.kp h19 (by decide) (by decide) (by decide)))
    have hS := St.tr hS h19 (by decide) (by decide)
    refine Tr.sc [(0, r19), (2, 48)] rfl ?_
    refine Tr.iload_n (pc := 22) (i := 2) d_X6_hold_22 rfl rfl ?_
    refine Tr.iconst (pc := 23) d_X6_hold_23 (by decide) ?_
    refine Tr.callV (pc := 24) (as := [_, _, _]) d_X6_hold_24 s_6_145 ok_X6_pass rfl rfl (Nat.le_of_ble_eq_true rfl) (Nat.le_of_ble_eq_true rfl) (by decide) (ty_48 hS.1.1) ?_
    refine Tr.imp (Tr.deep (by decide) (sp_X6_pass_48_w8 hS.1.wk ((St.kp hS (by decide) (by decide) (by decide)).trans en_48_1) r19 (by omega) a2 (by omega) 1 (by omega))) ?_
    rintro M24 _ ⟨h24, r24, rfl, lr24, ur24⟩
    have h24 := St.rn h24 (Rn.of hS.1.2.2.2.2 (fun _ => (St.ka h24 (by decide) (by decide) (by decide))) (St.kp h24 (by decide) (by decide) (by decide)))
    have hS := St.tr hS h24 (by decide) (by decide)
    refine Tr.sc [(0, r24)] rfl ?_
    refine Tr.pop (pc := 27) d_X6_hold_27 ne01 ?_
    refine Tr.aload_n (pc := 28) (i := 0) d_X6_hold_28 rfl rfl ?_
    refine Tr.getf (pc := 29) d_X6_hold_29 f_6_62 (by decide) (by decide) (ty_48 hS.1.1) ?_
    refine Tr.gen (P := fun v => (-2147483648) ≤ v ∧ v ≤ 2147483647) (ir_48_14 hS.1.2.1) (fun r29 er29 br29 => ?_)
    have J44 : ∀ (M : Mem), St Rn ws_X6_hold_48_w3 as_X6_hold_48_w3 M0 M → rd M 48 14 = r29 → rd M 53 a2 = r5 → rd M 63 7 = g63_7 → Tr l K 3 mX6_hold 44 [(0, (2, 48)), (1, (0, a1)), (2, (0, a2)), (3, (0, r12))] [] M (q_X6_hold_48_w3 a1 a2 M0) := by
      intro M  hS  k44_48_14 k44_53_a210 k44_63_7
      refine Tr.aload_n (pc := 44) (i := 0) d_X6_hold_44 rfl rfl ?_
      refine Tr.iload_n (pc := 45) (i := 2) d_X6_hold_45 rfl rfl ?_
      refine Tr.iload_n (pc := 46) (i := 3) d_X6_hold_46 rfl rfl ?_
      refine Tr.callV (pc := 47) (as := [_, _]) d_X6_hold_47 s_6_125 ok_X6_settle rfl rfl (Nat.le_of_ble_eq_true rfl) (Nat.le_of_ble_eq_true rfl) (by decide) (ty_48 hS.1.1) ?_
      refine Tr.imp (Tr.deep (by decide) (sp_X6_settle_48_w1 hS.1 ((St.kp hS (by decide) (by decide) (by decide)).trans en_56_1) a2 (by omega) r12 (by omega))) ?_
      rintro M47 _ ⟨h47, rfl⟩
      have hS := St.tr hS h47 (by decide) (by decide)
      refine Tr.sc [] rfl ?_
      refine Tr.aload_n (pc := 50) (i := 0) d_X6_hold_50 rfl rfl ?_
      refine Tr.iload_n (pc := 51) (i := 1) d_X6_hold_51 rfl rfl ?_
      refine Tr.iload_n (pc := 52) (i := 2) d_X6_hold_52 rfl rfl ?_
      refine Tr.iload_n (pc := 53) (i := 3) d_X6_hold_53 rfl rfl ?_
      refine Tr.aload_n (pc := 54) (i := 0) d_X6_hold_54 rfl rfl ?_
      refine Tr.getf (pc := 55) d_X6_hold_55 f_6_68 (by decide) (by decide) (ty_48 hS.1.1) ?_
      refine Tr.gen (P := fun v => (-2147483648) ≤ v ∧ v ≤ 2147483647) (ir_48_9 hS.1.2.1) (fun r55 er55 br55 => ?_)
      refine Tr.callV (pc := 58) (as := [_, _, _, _]) d_X6_hold_58 s_6_202 ok_X6_bookBusy rfl rfl (Nat.le_of_ble_eq_true rfl) (Nat.le_of_ble_eq_true rfl) (by decide) (ty_48 hS.1.1) ?_
      refine Tr.imp (Tr.deep (by decide) (sp_X6_bookBusy_48_w3 hS.1 ((St.kp hS (by decide) (by decide) (by decide)).trans en_56_1) a1 (by omega) a2 (by omega) r12 (by omega) r55 (by omega))) ?_
      rintro M58 _ ⟨h58, rfl⟩
      have hS := St.tr hS h58 (by decide) (by decide)
      refine Tr.sc [] rfl ?_
      refine Tr.aload_n (pc := 61) (i := 0) d_X6_hold_61 rfl rfl ?_
      refine Tr.getf (pc := 62) d_X6_hold_62 f_6_38 (by decide) (by decide) (ty_48 hS.1.1) ?_
      refine Tr.tp 56 (fx_48_0 hS.1.1) ?_
      refine Tr.iload_n (pc := 65) (i := 2) d_X6_hold_65 rfl rfl ?_
      refine Tr.iload_n (pc := 66) (i := 1) d_X6_hold_66 rfl rfl ?_
      refine Tr.aload_n (pc := 67) (i := 0) d_X6_hold_67 rfl rfl ?_
      refine Tr.getf (pc := 68) d_X6_hold_68 f_6_68 (by decide) (by decide) (ty_48 hS.1.1) ?_
      refine Tr.tp r55 ((St.kp h58 (by decide) (by decide) (by decide)).trans er55) ?_
      refine Tr.callV (pc := 71) (as := [_, _, _]) d_X6_hold_71 s_6_211 ok_X1_holdFor rfl rfl (Nat.le_of_ble_eq_true rfl) (Nat.le_of_ble_eq_true rfl) (by decide) (ty_56 hS.1.1) ?_
      have kb71_63_7 : rd M58 63 7 = g63_7 := ((St.kp h58 (by decide) (by decide) (by decide)).trans ((St.kp h47 (by decide) (by decide) (by decide)).trans k44_63_7))
      refine Tr.imp (Tr.deep (by decide) (sp_X1_holdFor_56_w1 hS.1.wk a2 (by omega) a1 (by omega) r55 (by omega))) ?_
      rintro M71 _ ⟨h71, rfl, z71_0⟩
      have h71 := St.rn h71 (Rn.of hS.1.2.2.2.2 (fun _ => (St.ka h71 (by decide) (by decide) (by decide))) (St.kp h71 (by decide) (by decide) (by decide)))
      have hS := St.tr hS h71 (by decide) (by decide)
      obtain ⟨s71_63_7, es71_63_7⟩ : ∃ v, rd M71 63 7 = v := ⟨_, rfl⟩
      have bs71_63_7 : (-2147483648) ≤ s71_63_7 ∧ s71_63_7 ≤ 2147483647 := by rw [← es71_63_7]; exact ir_63_7 hS.1.2.1
      refine Tr.sc [] rfl ?_
      refine Tr.aload_n (pc := 74) (i := 0) d_X6_hold_74 rfl rfl ?_
      refine Tr.getf (pc := 75) d_X6_hold_75 f_6_62 (by decide) (by decide) (ty_48 hS.1.1) ?_
      refine Tr.tp r29 ((St.kp h71 (by decide) (by decide) (by decide)).trans ((St.kp h58 (by decide) (by decide) (by decide)).trans ((St.kp h47 (by decide) (by decide) (by decide)).trans k44_48_14))) ?_
      refine Tr.if_ne (pc := 78) (tgt := 91) d_X6_hold_78 rfl (fun c78 => ?_) (fun c78 => ?_)
      · refine Tr.aload_n (pc := 91) (i := 0) d_X6_hold_91 rfl rfl ?_
        refine Tr.getf (pc := 92) d_X6_hold_92 f_6_27 (by decide) (by decide) (ty_48 hS.1.1) ?_
        refine Tr.tp 54 (fx_48_7 hS.1.1) ?_
        refine Tr.iload_n (pc := 95) (i := 2) d_X6_hold_95 rfl rfl ?_
        refine Tr.aload_n (pc := 96) (i := 0) d_X6_hold_96 rfl rfl ?_
        refine Tr.getf (pc := 97) d_X6_hold_97 f_6_68 (by decide) (by decide) (ty_48 hS.1.1) ?_
        refine Tr.tp r55 ((St.kp h71 (by decide) (by decide) (by decide)).trans ((St.kp h58 (by decide) (by decide) (by decide)).trans er55)) ?_
        refine Tr.iconst (pc := 100) d_X6_hold_100 (by decide) ?_
        refine Tr.iadd (pc := 101) d_X6_hold_101 ?_
        refine Tr.gen (P := fun v => (-2147483648) ≤ v ∧ v ≤ 2147483647) (w32_b _) (fun r101 er101 br101 => ?_)
        refine Tr.iastS (pc := 102) (P := St Rn ws_X6_hold_48_w3 as_X6_hold_48_w3 M0) d_X6_hold_102 (ty_54 hS.1.1) (by omega) (by omega) (sa_54 hS (by decide) (by omega) (Rn.of hS.1.2.2.2.2 (fun _ => rd_wb _ rfl) (rd_wb _ rfl))) (fun M102 hS w102 => ?_)
        have kr_63_7 : rd M102 63 7 = s71_63_7 := ((Wr.b w102 rfl).trans es71_63_7)
        exact Tr.vret (pc := 103) d_X6_hold_103 rfl ⟨hS, rfl, by omega⟩
      · refine Tr.aload_n (pc := 81) (i := 0) d_X6_hold_81 rfl rfl ?_
        refine Tr.getf (pc := 82) d_X6_hold_82 f_6_24 (by decide) (by decide) (ty_48 hS.1.1) ?_
        refine Tr.tp 53 (fx_48_6 hS.1.1) ?_
        refine Tr.iload_n (pc := 85) (i := 2) d_X6_hold_85 rfl rfl ?_
        refine Tr.iconst (pc := 86) d_X6_hold_86 (by decide) ?_
        refine Tr.iastS (pc := 87) (P := St Rn ws_X6_hold_48_w3 as_X6_hold_48_w3 M0) d_X6_hold_87 (ty_53 hS.1.1) (by omega) (by omega) (sa_53 hS (by decide) (by omega) (Rn.of hS.1.2.2.2.2 (fun _ => rd_wb _ rfl) (rd_wb _ rfl))) (fun M87 hS w87 => ?_)
        refine Tr.goto (pc := 88) (tgt := 103) d_X6_hold_88 rfl ?_
        have kr_63_7 : rd M87 63 7 = s71_63_7 := ((Wr.b w87 rfl).trans es71_63_7)
        exact Tr.vret (pc := 103) d_X6_hold_103 rfl ⟨hS, rfl, by omega⟩
    refine Tr.if_eq (pc := 32) (tgt := 44) d_X6_hold_32 rfl (fun c32 => ?_) (fun c32 => ?_)
    · refine Tr.pick [1, 2, 3, 0] (ls2 := [(0, (2, 48)), (1, (0, a1)), (2, (0, a2)), (3, (0, r12))]) rfl ?_
      exact J44 _ hS er29 ((St.ka h24 (by decide) (by decide) (by decide)).trans ((St.ka h19 (by decide) (by decide) (by decide)).trans er5)) ((St.kp h24 (by decide) (by decide) (by decide)).trans ((St.kp h19 (by decide) (by decide) (by decide)).trans eg63_7))
    · refine Tr.aload_n (pc := 35) (i := 0) d_X6_hold_35 rfl rfl ?_
      refine Tr.getf (pc := 36) d_X6_hold_36 f_6_68 (by decide) (by decide) (ty_48 hS.1.1) ?_
      refine Tr.gen (P := fun v => (-2147483648) ≤ v ∧ v ≤ 2147483647) (ir_48_9 hS.1.2.1) (fun r36 er36 br36 => ?_)
      refine Tr.iload_n (pc := 39) (i := 3) d_X6_hold_39 rfl rfl ?_
      refine Tr.icmp_ne (pc := 40) (tgt := 44) d_X6_hold_40 rfl (fun c40 => ?_) (fun c40 => ?_)
      · refine Tr.pick [1, 2, 3, 0] (ls2 := [(0, (2, 48)), (1, (0, a1)), (2, (0, a2)), (3, (0, r12))]) rfl ?_
        exact J44 _ hS er29 ((St.ka h24 (by decide) (by decide) (by decide)).trans ((St.ka h19 (by decide) (by decide) (by decide)).trans er5)) ((St.kp h24 (by decide) (by decide) (by decide)).trans ((St.kp h19 (by decide) (by decide) (by decide)).trans eg63_7))
      · have kr_63_7 : rd M24 63 7 = g63_7 := ((St.kp h24 (by decide) (by decide) (by decide)).trans ((St.kp h19 (by decide) (by decide) (by decide)).trans eg63_7))
        exact Tr.vret (pc := 43) d_X6_hold_43 rfl ⟨hS, rfl, by omega⟩
  · have kr_63_7 : rd M0 63 7 = g63_7 := eg63_7
    exact Tr.vret (pc := 10) d_X6_hold_10 rfl ⟨hS, rfl, by omega⟩

def ws_X6_use_48_w3 : List (Int × Int) := [(48, 9), (48, 14), (48, 17), (63, 0), (63, 7)]
def as_X6_use_48_w3 : List Int := [54, 55, 57, 58, 60, 61, 62, 69, 191]
def q_X6_use_48_w3 (a1 : Int) (a2 : Int) (a3 : Int) (M0 M' : Mem) (r : Option PV) : Prop := St Rn ws_X6_use_48_w3 as_X6_use_48_w3 M0 M' ∧ r = none ∧ (rd M' 63 7 ≤ rd M0 63 7 + 1)
set_option maxRecDepth 100000 in
set_option maxHeartbeats 4000000 in
theorem sp_X6_use_48_w3 {l : Launch} {K : EC} {M0 : Mem} (hI : In Rn M0) (en_48_1 : rd M0 48 1 = 27) (en_56_1 : rd M0 56 1 = 27) (a1 : Int) (ha1 : 0 ≤ a1 ∧ a1 ≤ 59) (a2 : Int) (ha2 : 0 ≤ a2 ∧ a2 ≤ 5) (a3 : Int) (ha3 : 0 ≤ a3 ∧ a3 ≤ 50)  : Tr l K 3 mX6_use 0 [(0, (2, 48)), (1, (0, a1)), (2, (0, a2)), (3, (0, a3))] [] M0 (q_X6_use_48_w3 a1 a2 a3 M0) := by
  have hS : St Rn ws_X6_use_48_w3 as_X6_use_48_w3 M0 M0 := St.rf hI
  obtain ⟨g63_7, eg63_7⟩ : ∃ v, rd M0 63 7 = v := ⟨_, rfl⟩
  have bg63_7 : (-2147483648) ≤ g63_7 ∧ g63_7 ≤ 2147483647 := by rw [← eg63_7]; exact ir_63_7 hI.2.1
  refine Tr.aload_n (pc := 0) (i := 0) d_X6_use_0 rfl rfl ?_
  refine Tr.getf (pc := 1) d_X6_use_1 f_6_68 (by decide) (by decide) (ty_48 hS.1.1) ?_
  refine Tr.gen (P := fun v => (-2147483648) ≤ v ∧ v ≤ 2147483647) (ir_48_9 hS.1.2.1) (fun r1 er1 br1 => ?_)
  refine Tr.istore (pc := 4) (i := 4) (ls2 := [(4, (0, r1)), (0, (2, 48)), (1, (0, a1)), (2, (0, a2)), (3, (0, a3))]) d_X6_use_4 (by decide) rfl ?_
  refine Tr.aload_n (pc := 6) (i := 0) d_X6_use_6 rfl rfl ?_
  refine Tr.aload_n (pc := 7) (i := 0) d_X6_use_7 rfl rfl ?_
  refine Tr.iload_n (pc := 8) (i := 2) d_X6_use_8 rfl rfl ?_
  refine Tr.callV (pc := 9) (as := [_]) d_X6_use_9 s_6_199 ok_X6_wakeOf rfl rfl (Nat.le_of_ble_eq_true rfl) (Nat.le_of_ble_eq_true rfl) (by decide) (ty_48 hS.1.1) ?_
  refine Tr.imp (Tr.deep (by decide) (sp_X6_wakeOf_48_w1 hS.1.wk ((St.kp hS (by decide) (by decide) (by decide)).trans en_48_1) a2 (by omega))) ?_
  rintro M9 _ ⟨h9, r9, rfl, lr9, ur9⟩
  have h9 := St.rn h9 (Rn.of hS.1.2.2.2.2 (fun _ => (St.ka h9 (by decide) (by decide) (by decide))) (St.kp h9 (by decide) (by decide) (by decide)))
  have hS := St.tr hS h9 (by decide) (by decide)
  refine Tr.sc [(0, r9), (2, 48)] rfl ?_
  refine Tr.iload_n (pc := 12) (i := 2) d_X6_use_12 rfl rfl ?_
  refine Tr.iconst (pc := 13) d_X6_use_13 (by decide) ?_
  refine Tr.callV (pc := 14) (as := [_, _, _]) d_X6_use_14 s_6_145 ok_X6_pass rfl rfl (Nat.le_of_ble_eq_true rfl) (Nat.le_of_ble_eq_true rfl) (by decide) (ty_48 hS.1.1) ?_
  refine Tr.imp (Tr.deep (by decide) (sp_X6_pass_48_w8 hS.1.wk ((St.kp hS (by decide) (by decide) (by decide)).trans en_48_1) r9 (by omega) a2 (by omega) 1 (by omega))) ?_
  rintro M14 _ ⟨h14, r14, rfl, lr14, ur14⟩
  have h14 := St.rn h14 (Rn.of hS.1.2.2.2.2 (fun _ => (St.ka h14 (by decide) (by decide) (by decide))) (St.kp h14 (by decide) (by decide) (by decide)))
  have hS := St.tr hS h14 (by decide) (by decide)
  refine Tr.sc [(0, r14)] rfl ?_
  refine Tr.pop (pc := 17) d_X6_use_17 ne01 ?_
  refine Tr.aload_n (pc := 18) (i := 0) d_X6_use_18 rfl rfl ?_
  refine Tr.getf (pc := 19) d_X6_use_19 f_6_68 (by decide) (by decide) (ty_48 hS.1.1) ?_
  refine Tr.gen (P := fun v => (-2147483648) ≤ v ∧ v ≤ 2147483647) (ir_48_9 hS.1.2.1) (fun r19 er19 br19 => ?_)
  refine Tr.istore (pc := 22) (i := 5) (ls2 := [(5, (0, r19)), (4, (0, r1)), (0, (2, 48)), (1, (0, a1)), (2, (0, a2)), (3, (0, a3))]) d_X6_use_22 (by decide) rfl ?_
  refine Tr.aload_n (pc := 24) (i := 0) d_X6_use_24 rfl rfl ?_
  refine Tr.getf (pc := 25) d_X6_use_25 f_6_62 (by decide) (by decide) (ty_48 hS.1.1) ?_
  refine Tr.gen (P := fun v => (-2147483648) ≤ v ∧ v ≤ 2147483647) (ir_48_14 hS.1.2.1) (fun r25 er25 br25 => ?_)
  have J39 : ∀ (M : Mem), St Rn ws_X6_use_48_w3 as_X6_use_48_w3 M0 M → rd M 63 7 = g63_7 → Tr l K 3 mX6_use 39 [(0, (2, 48)), (1, (0, a1)), (2, (0, a2)), (4, (0, r1)), (5, (0, r19))] [] M (q_X6_use_48_w3 a1 a2 a3 M0) := by
    intro M  hS  k39_63_7
    refine Tr.aload_n (pc := 39) (i := 0) d_X6_use_39 rfl rfl ?_
    refine Tr.getf (pc := 40) d_X6_use_40 f_6_62 (by decide) (by decide) (ty_48 hS.1.1) ?_
    refine Tr.gen (P := fun v => (-2147483648) ≤ v ∧ v ≤ 2147483647) (ir_48_14 hS.1.2.1) (fun r40 er40 br40 => ?_)
    have J56 : ∀ (M : Mem), St Rn ws_X6_use_48_w3 as_X6_use_48_w3 M0 M → rd M 48 14 = r40 → rd M 63 7 = g63_7 → Tr l K 3 mX6_use 56 [(0, (2, 48)), (1, (0, a1)), (2, (0, a2)), (4, (0, r1)), (5, (0, r19))] [] M (q_X6_use_48_w3 a1 a2 a3 M0) := by
      intro M  hS  k56_48_14 k56_63_7
      refine Tr.aload_n (pc := 56) (i := 0) d_X6_use_56 rfl rfl ?_
      refine Tr.iload_n (pc := 57) (i := 2) d_X6_use_57 rfl rfl ?_
      refine Tr.iload (pc := 58) (i := 4) d_X6_use_58 rfl ?_
      refine Tr.callV (pc := 60) (as := [_, _]) d_X6_use_60 s_6_125 ok_X6_settle rfl rfl (Nat.le_of_ble_eq_true rfl) (Nat.le_of_ble_eq_true rfl) (by decide) (ty_48 hS.1.1) ?_
      refine Tr.imp (Tr.deep (by decide) (sp_X6_settle_48_w1 hS.1 ((St.kp hS (by decide) (by decide) (by decide)).trans en_56_1) a2 (by omega) r1 (by omega))) ?_
      rintro M60 _ ⟨h60, rfl⟩
      have hS := St.tr hS h60 (by decide) (by decide)
      refine Tr.sc [] rfl ?_
      refine Tr.aload_n (pc := 63) (i := 0) d_X6_use_63 rfl rfl ?_
      refine Tr.iload_n (pc := 64) (i := 1) d_X6_use_64 rfl rfl ?_
      refine Tr.iload_n (pc := 65) (i := 2) d_X6_use_65 rfl rfl ?_
      refine Tr.iload (pc := 66) (i := 4) d_X6_use_66 rfl ?_
      refine Tr.iload (pc := 68) (i := 5) d_X6_use_68 rfl ?_
      refine Tr.callV (pc := 70) (as := [_, _, _, _]) d_X6_use_70 s_6_202 ok_X6_bookBusy rfl rfl (Nat.le_of_ble_eq_true rfl) (Nat.le_of_ble_eq_true rfl) (by decide) (ty_48 hS.1.1) ?_
      refine Tr.imp (Tr.deep (by decide) (sp_X6_bookBusy_48_w3 hS.1 ((St.kp hS (by decide) (by decide) (by decide)).trans en_56_1) a1 (by omega) a2 (by omega) r1 (by omega) r19 (by omega))) ?_
      rintro M70 _ ⟨h70, rfl⟩
      have hS := St.tr hS h70 (by decide) (by decide)
      refine Tr.sc [] rfl ?_
      refine Tr.aload_n (pc := 73) (i := 0) d_X6_use_73 rfl rfl ?_
      refine Tr.getf (pc := 74) d_X6_use_74 f_6_38 (by decide) (by decide) (ty_48 hS.1.1) ?_
      refine Tr.tp 56 (fx_48_0 hS.1.1) ?_
      refine Tr.iload_n (pc := 77) (i := 2) d_X6_use_77 rfl rfl ?_
      refine Tr.iload_n (pc := 78) (i := 1) d_X6_use_78 rfl rfl ?_
      refine Tr.iload (pc := 79) (i := 5) d_X6_use_79 rfl ?_
      refine Tr.aload_n (pc := 81) (i := 0) d_X6_use_81 rfl rfl ?_
      refine Tr.getf (pc := 82) d_X6_use_82 f_6_68 (by decide) (by decide) (ty_48 hS.1.1) ?_
      refine Tr.gen (P := fun v => (-2147483648) ≤ v ∧ v ≤ 2147483647) (ir_48_9 hS.1.2.1) (fun r82 er82 br82 => ?_)
      refine Tr.callV (pc := 85) (as := [_, _, _, _]) d_X6_use_85 s_6_205 ok_X1_workFor rfl rfl (Nat.le_of_ble_eq_true rfl) (Nat.le_of_ble_eq_true rfl) (by decide) (ty_56 hS.1.1) ?_
      have kb85_63_7 : rd M70 63 7 = g63_7 := ((St.kp h70 (by decide) (by decide) (by decide)).trans ((St.kp h60 (by decide) (by decide) (by decide)).trans k56_63_7))
      refine Tr.imp (Tr.deep (by decide) (sp_X1_workFor_56_w1 hS.1.wk a2 (by omega) a1 (by omega) r19 (by omega) r82 (by omega))) ?_
      rintro M85 _ ⟨h85, rfl, z85_0⟩
      have h85 := St.rn h85 (Rn.of hS.1.2.2.2.2 (fun _ => (St.ka h85 (by decide) (by decide) (by decide))) (St.kp h85 (by decide) (by decide) (by decide)))
      have hS := St.tr hS h85 (by decide) (by decide)
      obtain ⟨s85_63_7, es85_63_7⟩ : ∃ v, rd M85 63 7 = v := ⟨_, rfl⟩
      have bs85_63_7 : (-2147483648) ≤ s85_63_7 ∧ s85_63_7 ≤ 2147483647 := by rw [← es85_63_7]; exact ir_63_7 hS.1.2.1
      refine Tr.sc [] rfl ?_
      refine Tr.aload_n (pc := 88) (i := 0) d_X6_use_88 rfl rfl ?_
      refine Tr.getf (pc := 89) d_X6_use_89 f_6_27 (by decide) (by decide) (ty_48 hS.1.1) ?_
      refine Tr.tp 54 (fx_48_7 hS.1.1) ?_
      refine Tr.iload_n (pc := 92) (i := 2) d_X6_use_92 rfl rfl ?_
      refine Tr.aload_n (pc := 93) (i := 0) d_X6_use_93 rfl rfl ?_
      refine Tr.getf (pc := 94) d_X6_use_94 f_6_62 (by decide) (by decide) (ty_48 hS.1.1) ?_
      refine Tr.tp r40 ((St.kp h85 (by decide) (by decide) (by decide)).trans ((St.kp h70 (by decide) (by decide) (by decide)).trans ((St.kp h60 (by decide) (by decide) (by decide)).trans k56_48_14))) ?_
      refine Tr.if_ne (pc := 97) (tgt := 117) d_X6_use_97 rfl (fun c97 => ?_) (fun c97 => ?_)
      · refine Tr.aload_n (pc := 117) (i := 0) d_X6_use_117 rfl rfl ?_
        refine Tr.getf (pc := 118) d_X6_use_118 f_6_68 (by decide) (by decide) (ty_48 hS.1.1) ?_
        refine Tr.tp r82 ((St.kp h85 (by decide) (by decide) (by decide)).trans er82) ?_
        refine Tr.iconst (pc := 121) d_X6_use_121 (by decide) ?_
        refine Tr.iadd (pc := 122) d_X6_use_122 ?_
        refine Tr.gen (P := fun v => (-2147483648) ≤ v ∧ v ≤ 2147483647) (w32_b _) (fun r122 er122 br122 => ?_)
        refine Tr.iastS (pc := 123) (P := St Rn ws_X6_use_48_w3 as_X6_use_48_w3 M0) d_X6_use_123 (ty_54 hS.1.1) (by omega) (by omega) (sa_54 hS (by decide) (by omega) (Rn.of hS.1.2.2.2.2 (fun _ => rd_wb _ rfl) (rd_wb _ rfl))) (fun M123 hS w123 => ?_)
        have kr_63_7 : rd M123 63 7 = s85_63_7 := ((Wr.b w123 rfl).trans es85_63_7)
        exact Tr.vret (pc := 124) d_X6_use_124 rfl ⟨hS, rfl, by omega⟩
      · refine Tr.aload_n (pc := 100) (i := 0) d_X6_use_100 rfl rfl ?_
        refine Tr.getf (pc := 101) d_X6_use_101 f_6_68 (by decide) (by decide) (ty_48 hS.1.1) ?_
        refine Tr.tp r82 ((St.kp h85 (by decide) (by decide) (by decide)).trans er82) ?_
        refine Tr.aload_n (pc := 104) (i := 0) d_X6_use_104 rfl rfl ?_
        refine Tr.getf (pc := 105) d_X6_use_105 f_6_46 (by decide) (by decide) (ty_48 hS.1.1) ?_
        refine Tr.tp 27 ((St.kp hS (by decide) (by decide) (by decide)).trans en_48_1) ?_
        refine Tr.getf (pc := 108) d_X6_use_108 f_6_208 (by decide) (by decide) (ty_27 hS.1.1) ?_
        refine Tr.tp 31 (fx_27_7 hS.1.1) ?_
        refine Tr.iload_n (pc := 111) (i := 2) d_X6_use_111 rfl rfl ?_
        refine Tr.iald (pc := 112) d_X6_use_112 (ty_31 hS.1.1) (by omega) (by omega) ?_
        refine Tr.gen (P := fun v => 0 ≤ v ∧ v ≤ 50) (ar_31 hS.1.2.1 _) (fun r112 er112 br112 => ?_)
        refine Tr.iadd (pc := 113) d_X6_use_113 ?_
        refine Tr.gen (P := fun v => (-2147483648) ≤ v ∧ v ≤ 2147483647) (w32_b _) (fun r113 er113 br113 => ?_)
        refine Tr.goto (pc := 114) (tgt := 123) d_X6_use_114 rfl ?_
        refine Tr.iastS (pc := 123) (P := St Rn ws_X6_use_48_w3 as_X6_use_48_w3 M0) d_X6_use_123 (ty_54 hS.1.1) (by omega) (by omega) (sa_54 hS (by decide) (by omega) (Rn.of hS.1.2.2.2.2 (fun _ => rd_wb _ rfl) (rd_wb _ rfl))) (fun M123 hS w123 => ?_)
        have kr_63_7 : rd M123 63 7 = s85_63_7 := ((Wr.b w123 rfl).trans es85_63_7)
        exact Tr.vret (pc := 124) d_X6_use_124 rfl ⟨hS, rfl, by omega⟩
    refine Tr.if_eq (pc := 43) (tgt := 56) d_X6_use_43 rfl (fun c43 => ?_) (fun c43 => ?_)
    · refine Tr.pick [0, 1, 2, 3, 4] (ls2 := [(0, (2, 48)), (1, (0, a1)), (2, (0, a2)), (4, (0, r1)), (5, (0, r19))]) rfl ?_
      exact J56 _ hS er40 k39_63_7
    · refine Tr.aload_n (pc := 46) (i := 0) d_X6_use_46 rfl rfl ?_
      refine Tr.getf (pc := 47) d_X6_use_47 f_6_68 (by decide) (by decide) (ty_48 hS.1.1) ?_
      refine Tr.gen (P := fun v => (-2147483648) ≤ v ∧ v ≤ 2147483647) (ir_48_9 hS.1.2.1) (fun r47 er47 br47 => ?_)
      refine Tr.iload (pc := 50) (i := 4) d_X6_use_50 rfl ?_
      refine Tr.icmp_ne (pc := 52) (tgt := 56) d_X6_use_52 rfl (fun c52 => ?_) (fun c52 => ?_)
      · refine Tr.pick [0, 1, 2, 3, 4] (ls2 := [(0, (2, 48)), (1, (0, a1)), (2, (0, a2)), (4, (0, r1)), (5, (0, r19))]) rfl ?_
        exact J56 _ hS er40 k39_63_7
      · have kr_63_7 : rd M 63 7 = g63_7 := k39_63_7
        exact Tr.vret (pc := 55) d_X6_use_55 rfl ⟨hS, rfl, by omega⟩
  refine Tr.if_ne (pc := 28) (tgt := 39) d_X6_use_28 rfl (fun c28 => ?_) (fun c28 => ?_)
  · refine Tr.pick [2, 3, 4, 1, 0] (ls2 := [(0, (2, 48)), (1, (0, a1)), (2, (0, a2)), (4, (0, r1)), (5, (0, r19))]) rfl ?_
    exact J39 _ hS ((St.kp h14 (by decide) (by decide) (by decide)).trans ((St.kp h9 (by decide) (by decide) (by decide)).trans eg63_7))
  · refine Tr.aload_n (pc := 31) (i := 0) d_X6_use_31 rfl rfl ?_
    refine Tr.iload_n (pc := 32) (i := 3) d_X6_use_32 rfl rfl ?_
    refine Tr.iload_n (pc := 33) (i := 2) d_X6_use_33 rfl rfl ?_
    refine Tr.iconst (pc := 34) d_X6_use_34 (by decide) ?_
    refine Tr.callV (pc := 35) (as := [_, _, _]) d_X6_use_35 s_6_145 ok_X6_pass rfl rfl (Nat.le_of_ble_eq_true rfl) (Nat.le_of_ble_eq_true rfl) (by decide) (ty_48 hS.1.1) ?_
    refine Tr.imp (Tr.deep (by decide) (sp_X6_pass_48_w9 hS.1.wk ((St.kp hS (by decide) (by decide) (by decide)).trans en_48_1) a3 (by omega) a2 (by omega) 3 (by omega))) ?_
    rintro M35 _ ⟨h35, r35, rfl, lr35, ur35⟩
    have h35 := St.rn h35 (Rn.of hS.1.2.2.2.2 (fun _ => (St.ka h35 (by decide) (by decide) (by decide))) (St.kp h35 (by decide) (by decide) (by decide)))
    have hS := St.tr hS h35 (by decide) (by decide)
    refine Tr.sc [(0, r35)] rfl ?_
    refine Tr.pop (pc := 38) d_X6_use_38 ne01 ?_
    refine Tr.pick [2, 3, 4, 1, 0] (ls2 := [(0, (2, 48)), (1, (0, a1)), (2, (0, a2)), (4, (0, r1)), (5, (0, r19))]) rfl ?_
    exact J39 _ hS ((St.kp h35 (by decide) (by decide) (by decide)).trans ((St.kp h14 (by decide) (by decide) (by decide)).trans ((St.kp h9 (by decide) (by decide) (by decide)).trans eg63_7)))

def ws_X6_step_48_w3 : List (Int × Int) := [(48, 9), (48, 11), (48, 12), (48, 13), (48, 14), (48, 17), (63, 0), (63, 7)]
def as_X6_step_48_w3 : List Int := [50, 51, 52, 53, 54, 55, 57, 58, 59, 60, 61, 62, 69, 191]
def q_X6_step_48_w3 (a1 : Int) (M0 M' : Mem) (r : Option PV) : Prop := St Rn ws_X6_step_48_w3 as_X6_step_48_w3 M0 M' ∧ ∃ v : Int, r = some (0, v) ∧ 0 ≤ v ∧ v ≤ 2147483647 ∧ (rd M' 63 7 ≤ rd M0 63 7 + 1)
set_option maxRecDepth 100000 in
set_option maxHeartbeats 4000000 in
theorem sp_X6_step_48_w3 {l : Launch} {K : EC} {M0 : Mem} (hI : In Rn M0) (en_48_1 : rd M0 48 1 = 27) (en_56_1 : rd M0 56 1 = 27) (a1 : Int) (ha1 : 0 ≤ a1 ∧ a1 ≤ 59)  (hq0 : a1 < rd M0 35 0) (hF_Y35 : Yn35 M0) : Tr l K 4 mX6_step 0 [(0, (2, 48)), (1, (0, a1))] [] M0 (q_X6_step_48_w3 a1 M0) := by
  have hS : St Rn ws_X6_step_48_w3 as_X6_step_48_w3 M0 M0 := St.rf hI
  obtain ⟨g63_7, eg63_7⟩ : ∃ v, rd M0 63 7 = v := ⟨_, rfl⟩
  have bg63_7 : (-2147483648) ≤ g63_7 ∧ g63_7 ≤ 2147483647 := by rw [← eg63_7]; exact ir_63_7 hI.2.1
  obtain ⟨g35_0, eg35_0⟩ : ∃ v, rd M0 35 0 = v := ⟨_, rfl⟩
  have bg35_0 : 0 ≤ g35_0 ∧ g35_0 ≤ 60 := by rw [← eg35_0]; exact ir_35_0 hI.2.1
  refine Tr.aload_n (pc := 0) (i := 0) d_X6_step_0 rfl rfl ?_
  refine Tr.iconst (pc := 1) d_X6_step_1 (by decide) ?_
  refine Tr.iconst (pc := 2) d_X6_step_2 (by decide) ?_
  refine Tr.iconst (pc := 3) d_X6_step_3 (by decide) ?_
  refine Tr.callV (pc := 4) (as := [_, _, _]) d_X6_step_4 s_6_145 ok_X6_pass rfl rfl (Nat.le_of_ble_eq_true rfl) (Nat.le_of_ble_eq_true rfl) (by decide) (ty_48 hS.1.1) ?_
  refine Tr.imp (Tr.deep (by decide) (sp_X6_pass_48_w5 hS.1.wk ((St.kp hS (by decide) (by decide) (by decide)).trans en_48_1) 1 (by omega) (-1) (by omega) 0 (by omega))) ?_
  rintro M4 _ ⟨h4, r4, rfl, lr4, ur4⟩
  have h4 := St.rn h4 (Rn.of hS.1.2.2.2.2 (fun _ => (St.ka h4 (by decide) (by decide) (by decide))) (St.kp h4 (by decide) (by decide) (by decide)))
  have hS := St.tr hS h4 (by decide) (by decide)
  refine Tr.sc [(0, r4)] rfl ?_
  refine Tr.if_ne (pc := 7) (tgt := 12) d_X6_step_7 rfl (fun c7 => ?_) (fun c7 => ?_)
  · refine Tr.aload_n (pc := 12) (i := 0) d_X6_step_12 rfl rfl ?_
    refine Tr.dup (pc := 13) d_X6_step_13 ne21 ?_
    refine Tr.getf (pc := 14) d_X6_step_14 f_6_97 (by decide) (by decide) (ty_48 hS.1.1) ?_
    refine Tr.gen (P := fun v => (-2147483648) ≤ v ∧ v ≤ 2147483647) (ir_48_11 hS.1.2.1) (fun r14 er14 br14 => ?_)
    refine Tr.iconst (pc := 17) d_X6_step_17 (by decide) ?_
    refine Tr.iadd (pc := 18) d_X6_step_18 ?_
    refine Tr.gen (P := fun v => (-2147483648) ≤ v ∧ v ≤ 2147483647) (w32_b _) (fun r18 er18 br18 => ?_)
    refine Tr.putfS (pc := 19) (P := St Rn ws_X6_step_48_w3 as_X6_step_48_w3 M0) d_X6_step_19 f_6_97 (by decide) (by decide) (ty_48 hS.1.1) (st_48_11 hS (by decide) (by omega) (Rn.of hS.1.2.2.2.2 (fun _ => rd_wb _ rfl) (rd_wb _ rfl))) (fun M19 hS w19 => ?_)
    refine Tr.aload_n (pc := 22) (i := 0) d_X6_step_22 rfl rfl ?_
    refine Tr.getf (pc := 23) d_X6_step_23 f_6_46 (by decide) (by decide) (ty_48 hS.1.1) ?_
    refine Tr.tp 27 ((St.kp hS (by decide) (by decide) (by decide)).trans en_48_1) ?_
    refine Tr.getf (pc := 26) d_X6_step_26 f_6_50 (by decide) (by decide) (ty_27 hS.1.1) ?_
    refine Tr.tp 35 (fx_27_11 hS.1.1) ?_
    refine Tr.astore_n (pc := 29) (i := 2) (ls2 := [(2, (2, 35)), (0, (2, 48)), (1, (0, a1))]) d_X6_step_29 rfl (by decide) rfl ?_
    refine Tr.aload_n (pc := 30) (i := 2) d_X6_step_30 rfl rfl ?_
    refine Tr.getf (pc := 31) d_X6_step_31 f_6_149 (by decide) (by decide) (ty_35 hS.1.1) ?_
    refine Tr.tp 37 (fx_35_2 hS.1.1) ?_
    refine Tr.iload_n (pc := 34) (i := 1) d_X6_step_34 rfl rfl ?_
    refine Tr.iald (pc := 35) d_X6_step_35 (ty_37 hS.1.1) (by omega) (by omega) ?_
    refine Tr.gen (P := fun v => 0 ≤ v ∧ v ≤ 5) (ar_37 hS.1.2.1 _) (fun r35 er35 br35 => ?_)
    refine Tr.istore_n (pc := 36) (i := 3) (ls2 := [(3, (0, r35)), (2, (2, 35)), (0, (2, 48)), (1, (0, a1))]) d_X6_step_36 rfl (by decide) rfl ?_
    refine Tr.aload_n (pc := 37) (i := 2) d_X6_step_37 rfl rfl ?_
    refine Tr.getf (pc := 38) d_X6_step_38 f_6_152 (by decide) (by decide) (ty_35 hS.1.1) ?_
    refine Tr.tp 36 (fx_35_1 hS.1.1) ?_
    refine Tr.iload_n (pc := 41) (i := 1) d_X6_step_41 rfl rfl ?_
    refine Tr.iald (pc := 42) d_X6_step_42 (ty_36 hS.1.1) (by omega) (by omega) ?_
    refine Tr.gen (P := fun v => (-2147483648) ≤ v ∧ v ≤ 2147483647) (ar_36 hS.1.2.1 _) (fun r42 er42 br42 => ?_)
    rcases (show (r42 < 5 ∨ 10 < r42) ∨ r42 = 5 ∨ r42 = 6 ∨ r42 = 7 ∨ r42 = 8 ∨ r42 = 9 ∨ r42 = 10 by omega) with c43 | c43 | c43 | c43 | c43 | c43 | c43
    · refine Tr.tswOut (pc := 43) (tgt := 177) d_X6_step_43 c43 rfl ?_
      refine Tr.aload_n (pc := 177) (i := 0) d_X6_step_177 rfl rfl ?_
      refine Tr.iload_n (pc := 178) (i := 1) d_X6_step_178 rfl rfl ?_
      refine Tr.callV (pc := 179) (as := [_]) d_X6_step_179 s_6_155 ok_X6_worked rfl rfl (Nat.le_of_ble_eq_true rfl) (Nat.le_of_ble_eq_true rfl) (by decide) (ty_48 hS.1.1) ?_
      refine Tr.imp (Tr.deep (by decide) (sp_X6_worked_48_w3 hS.1.wk ((St.kp hS (by decide) (by decide) (by decide)).trans en_48_1) a1 (by omega))) ?_
      rintro M179 _ ⟨h179, r179, rfl, lr179, ur179⟩
      have h179 := St.rn h179 (Rn.of hS.1.2.2.2.2 (fun _ => (St.ka h179 (by decide) (by decide) (by decide))) (St.kp h179 (by decide) (by decide) (by decide)))
      have hS := St.tr hS h179 (by decide) (by decide)
      refine Tr.sc [(0, r179)] rfl ?_
      refine Tr.if_eq (pc := 182) (tgt := 194) d_X6_step_182 rfl (fun c182 => ?_) (fun c182 => ?_)
      · refine Tr.aload_n (pc := 194) (i := 2) d_X6_step_194 rfl rfl ?_
        refine Tr.getf (pc := 195) d_X6_step_195 f_6_180 (by decide) (by decide) (ty_35 hS.1.1) ?_
        refine Tr.tp 40 (fx_35_5 hS.1.1) ?_
        refine Tr.iload_n (pc := 198) (i := 1) d_X6_step_198 rfl rfl ?_
        refine Tr.iald (pc := 199) d_X6_step_199 (ty_40 hS.1.1) (by omega) (by omega) ?_
        have ky199_35_0 : rd M179 35 0 = g35_0 := ((St.kp h179 (by decide) (by decide) (by decide)).trans ((Wr.b w19 rfl).trans ((St.kp h4 (by decide) (by decide) (by decide)).trans eg35_0)))
        refine Tr.gen (P := fun v => 0 ≤ v ∧ v ≤ 2147483647) (by have h8 := (Yn35.of hF_Y35 (fun j => (St.ka hS (by decide) (by decide) (by decide))) (fun j => (St.ka hS (by decide) (by decide) (by decide))) (St.kp hS (by decide) (by decide) (by decide))) (a1) (by omega) (by omega); have h9 := (ar_40 hS.1.2.1 (a1)); omega) (fun r199 er199 br199 => ?_)
        have kr_63_7 : rd M179 63 7 = g63_7 := ((St.kp h179 (by decide) (by decide) (by decide)).trans ((Wr.b w19 rfl).trans ((St.kp h4 (by decide) (by decide) (by decide)).trans eg63_7)))
        exact Tr.iret (pc := 200) d_X6_step_200 rfl ⟨hS, _, rfl, by omega, by omega, by omega⟩
      · refine Tr.aload_n (pc := 185) (i := 2) d_X6_step_185 rfl rfl ?_
        refine Tr.getf (pc := 186) d_X6_step_186 f_6_177 (by decide) (by decide) (ty_35 hS.1.1) ?_
        refine Tr.tp 39 (fx_35_4 hS.1.1) ?_
        refine Tr.iload_n (pc := 189) (i := 1) d_X6_step_189 rfl rfl ?_
        refine Tr.iald (pc := 190) d_X6_step_190 (ty_39 hS.1.1) (by omega) (by omega) ?_
        have ky190_35_0 : rd M179 35 0 = g35_0 := ((St.kp h179 (by decide) (by decide) (by decide)).trans ((Wr.b w19 rfl).trans ((St.kp h4 (by decide) (by decide) (by decide)).trans eg35_0)))
        refine Tr.gen (P := fun v => 0 ≤ v ∧ v ≤ 2147483647) (by have h8 := (Yn35.of hF_Y35 (fun j => (St.ka hS (by decide) (by decide) (by decide))) (fun j => (St.ka hS (by decide) (by decide) (by decide))) (St.kp hS (by decide) (by decide) (by decide))) (a1) (by omega) (by omega); have h9 := (ar_39 hS.1.2.1 (a1)); omega) (fun r190 er190 br190 => ?_)
        refine Tr.goto (pc := 191) (tgt := 200) d_X6_step_191 rfl ?_
        have kr_63_7 : rd M179 63 7 = g63_7 := ((St.kp h179 (by decide) (by decide) (by decide)).trans ((Wr.b w19 rfl).trans ((St.kp h4 (by decide) (by decide) (by decide)).trans eg63_7)))
        exact Tr.iret (pc := 200) d_X6_step_200 rfl ⟨hS, _, rfl, by omega, by omega, by omega⟩
    · refine Tr.tp 5 c43 ?_
      refine Tr.tswIn (pc := 43) (off := 37) (tgt := 80) d_X6_step_43 (by decide) (by decide) rfl rfl ?_
      refine Tr.aload_n (pc := 80) (i := 0) d_X6_step_80 rfl rfl ?_
      refine Tr.getf (pc := 81) d_X6_step_81 f_6_15 (by decide) (by decide) (ty_48 hS.1.1) ?_
      refine Tr.tp 50 (fx_48_3 hS.1.1) ?_
      refine Tr.iload_n (pc := 84) (i := 3) d_X6_step_84 rfl rfl ?_
      refine Tr.aload_n (pc := 85) (i := 0) d_X6_step_85 rfl rfl ?_
      refine Tr.iload_n (pc := 86) (i := 1) d_X6_step_86 rfl rfl ?_
      refine Tr.callV (pc := 87) (as := [_]) d_X6_step_87 s_6_155 ok_X6_worked rfl rfl (Nat.le_of_ble_eq_true rfl) (Nat.le_of_ble_eq_true rfl) (by decide) (ty_48 hS.1.1) ?_
      refine Tr.imp (Tr.deep (by decide) (sp_X6_worked_48_w3 hS.1.wk ((St.kp hS (by decide) (by decide) (by decide)).trans en_48_1) a1 (by omega))) ?_
      rintro M87 _ ⟨h87, r87, rfl, lr87, ur87⟩
      have h87 := St.rn h87 (Rn.of hS.1.2.2.2.2 (fun _ => (St.ka h87 (by decide) (by decide) (by decide))) (St.kp h87 (by decide) (by decide) (by decide)))
      have hS := St.tr hS h87 (by decide) (by decide)
      refine Tr.sc [(0, r87), (0, r35), (2, 50)] rfl ?_
      refine Tr.iastS (pc := 90) (P := St Rn ws_X6_step_48_w3 as_X6_step_48_w3 M0) d_X6_step_90 (ty_50 hS.1.1) (by omega) (by omega) (sa_50 hS (by decide) (by omega) (Rn.of hS.1.2.2.2.2 (fun _ => rd_wb _ rfl) (rd_wb _ rfl))) (fun M90 hS w90 => ?_)
      refine Tr.goto (pc := 91) (tgt := 201) d_X6_step_91 rfl ?_
      refine Tr.aload_n (pc := 201) (i := 2) d_X6_step_201 rfl rfl ?_
      refine Tr.getf (pc := 202) d_X6_step_202 f_6_177 (by decide) (by decide) (ty_35 hS.1.1) ?_
      refine Tr.tp 39 (fx_35_4 hS.1.1) ?_
      refine Tr.iload_n (pc := 205) (i := 1) d_X6_step_205 rfl rfl ?_
      refine Tr.iald (pc := 206) d_X6_step_206 (ty_39 hS.1.1) (by omega) (by omega) ?_
      have ky206_35_0 : rd M90 35 0 = g35_0 := ((Wr.b w90 rfl).trans ((St.kp h87 (by decide) (by decide) (by decide)).trans ((Wr.b w19 rfl).trans ((St.kp h4 (by decide) (by decide) (by decide)).trans eg35_0))))
      refine Tr.gen (P := fun v => 0 ≤ v ∧ v ≤ 2147483647) (by have h8 := (Yn35.of hF_Y35 (fun j => (St.ka hS (by decide) (by decide) (by decide))) (fun j => (St.ka hS (by decide) (by decide) (by decide))) (St.kp hS (by decide) (by decide) (by decide))) (a1) (by omega) (by omega); have h9 := (ar_39 hS.1.2.1 (a1)); omega) (fun r206 er206 br206 => ?_)
      have kr_63_7 : rd M90 63 7 = g63_7 := ((Wr.b w90 rfl).trans ((St.kp h87 (by decide) (by decide) (by decide)).trans ((Wr.b w19 rfl).trans ((St.kp h4 (by decide) (by decide) (by decide)).trans eg63_7))))
      exact Tr.iret (pc := 207) d_X6_step_207 rfl ⟨hS, _, rfl, by omega, by omega, by omega⟩
    · refine Tr.tp 6 c43 ?_
      refine Tr.tswIn (pc := 43) (off := 51) (tgt := 94) d_X6_step_43 (by decide) (by decide) rfl rfl ?_
      refine Tr.aload_n (pc := 94) (i := 0) d_X6_step_94 rfl rfl ?_
      refine Tr.iload_n (pc := 95) (i := 1) d_X6_step_95 rfl rfl ?_
      refine Tr.iload_n (pc := 96) (i := 3) d_X6_step_96 rfl rfl ?_
      refine Tr.aload_n (pc := 97) (i := 0) d_X6_step_97 rfl rfl ?_
      refine Tr.iload_n (pc := 98) (i := 1) d_X6_step_98 rfl rfl ?_
      refine Tr.callV (pc := 99) (as := [_]) d_X6_step_99 s_6_155 ok_X6_worked rfl rfl (Nat.le_of_ble_eq_true rfl) (Nat.le_of_ble_eq_true rfl) (by decide) (ty_48 hS.1.1) ?_
      refine Tr.imp (Tr.deep (by decide) (sp_X6_worked_48_w3 hS.1.wk ((St.kp hS (by decide) (by decide) (by decide)).trans en_48_1) a1 (by omega))) ?_
      rintro M99 _ ⟨h99, r99, rfl, lr99, ur99⟩
      have h99 := St.rn h99 (Rn.of hS.1.2.2.2.2 (fun _ => (St.ka h99 (by decide) (by decide) (by decide))) (St.kp h99 (by decide) (by decide) (by decide)))
      have hS := St.tr hS h99 (by decide) (by decide)
      refine Tr.sc [(0, r99), (0, r35), (0, a1), (2, 48)] rfl ?_
      refine Tr.iconst (pc := 102) d_X6_step_102 (by decide) ?_
      refine Tr.mmax (pc := 103) d_X6_step_103 ml_6_119 mw_mmax (Nat.le_of_ble_eq_true rfl) ?_
      refine Tr.gen (P := fun v => (v = r99 ∧ 0 ≤ r99) ∨ (v = 0 ∧ r99 ≤ 0)) (f_max_p _ _) (fun r103 er103 br103 => ?_)
      refine Tr.bipush (pc := 106) d_X6_step_106 rfl (by decide) ?_
      refine Tr.mmin (pc := 108) d_X6_step_108 ml_6_158 mw_mmin (Nat.le_of_ble_eq_true rfl) ?_
      refine Tr.gen (P := fun v => (v = r103 ∧ r103 ≤ 50) ∨ (v = 50 ∧ 50 ≤ r103)) (f_min_p _ _) (fun r108 er108 br108 => ?_)
      refine Tr.callV (pc := 111) (as := [_, _, _]) d_X6_step_111 s_6_161 ok_X6_use rfl rfl (Nat.le_of_ble_eq_true rfl) (Nat.le_of_ble_eq_true rfl) (by decide) (ty_48 hS.1.1) ?_
      have kb111_63_7 : rd M99 63 7 = g63_7 := ((St.kp h99 (by decide) (by decide) (by decide)).trans ((Wr.b w19 rfl).trans ((St.kp h4 (by decide) (by decide) (by decide)).trans eg63_7)))
      refine Tr.imp (Tr.deep (by decide) (sp_X6_use_48_w3 hS.1 ((St.kp hS (by decide) (by decide) (by decide)).trans en_48_1) ((St.kp hS (by decide) (by decide) (by decide)).trans en_56_1) a1 (by omega) r35 (by omega) r108 (by omega))) ?_
      rintro M111 _ ⟨h111, rfl, z111_0⟩
      have hS := St.tr hS h111 (by decide) (by decide)
      obtain ⟨s111_63_7, es111_63_7⟩ : ∃ v, rd M111 63 7 = v := ⟨_, rfl⟩
      have bs111_63_7 : (-2147483648) ≤ s111_63_7 ∧ s111_63_7 ≤ 2147483647 := by rw [← es111_63_7]; exact ir_63_7 hS.1.2.1
      refine Tr.sc [] rfl ?_
      refine Tr.goto (pc := 114) (tgt := 201) d_X6_step_114 rfl ?_
      refine Tr.aload_n (pc := 201) (i := 2) d_X6_step_201 rfl rfl ?_
      refine Tr.getf (pc := 202) d_X6_step_202 f_6_177 (by decide) (by decide) (ty_35 hS.1.1) ?_
      refine Tr.tp 39 (fx_35_4 hS.1.1) ?_
      refine Tr.iload_n (pc := 205) (i := 1) d_X6_step_205 rfl rfl ?_
      refine Tr.iald (pc := 206) d_X6_step_206 (ty_39 hS.1.1) (by omega) (by omega) ?_
      have ky206_35_0 : rd M111 35 0 = g35_0 := ((St.kp h111 (by decide) (by decide) (by decide)).trans ((St.kp h99 (by decide) (by decide) (by decide)).trans ((Wr.b w19 rfl).trans ((St.kp h4 (by decide) (by decide) (by decide)).trans eg35_0))))
      refine Tr.gen (P := fun v => 0 ≤ v ∧ v ≤ 2147483647) (by have h8 := (Yn35.of hF_Y35 (fun j => (St.ka hS (by decide) (by decide) (by decide))) (fun j => (St.ka hS (by decide) (by decide) (by decide))) (St.kp hS (by decide) (by decide) (by decide))) (a1) (by omega) (by omega); have h9 := (ar_39 hS.1.2.1 (a1)); omega) (fun r206 er206 br206 => ?_)
      have kr_63_7 : rd M111 63 7 = s111_63_7 := es111_63_7
      exact Tr.iret (pc := 207) d_X6_step_207 rfl ⟨hS, _, rfl, by omega, by omega, by omega⟩
    · refine Tr.tp 7 c43 ?_
      refine Tr.tswIn (pc := 43) (off := 74) (tgt := 117) d_X6_step_43 (by decide) (by decide) rfl rfl ?_
      refine Tr.aload_n (pc := 117) (i := 0) d_X6_step_117 rfl rfl ?_
      refine Tr.iload_n (pc := 118) (i := 1) d_X6_step_118 rfl rfl ?_
      refine Tr.iload_n (pc := 119) (i := 3) d_X6_step_119 rfl rfl ?_
      refine Tr.callV (pc := 120) (as := [_, _]) d_X6_step_120 s_6_165 ok_X6_hold rfl rfl (Nat.le_of_ble_eq_true rfl) (Nat.le_of_ble_eq_true rfl) (by decide) (ty_48 hS.1.1) ?_
      have kb120_63_7 : rd M19 63 7 = g63_7 := ((Wr.b w19 rfl).trans ((St.kp h4 (by decide) (by decide) (by decide)).trans eg63_7))
      refine Tr.imp (Tr.deep (by decide) (sp_X6_hold_48_w3 hS.1 ((St.kp hS (by decide) (by decide) (by decide)).trans en_48_1) ((St.kp hS (by decide) (by decide) (by decide)).trans en_56_1) a1 (by omega) r35 (by omega))) ?_
      rintro M120 _ ⟨h120, rfl, z120_0⟩
      have hS := St.tr hS h120 (by decide) (by decide)
      obtain ⟨s120_63_7, es120_63_7⟩ : ∃ v, rd M120 63 7 = v := ⟨_, rfl⟩
      have bs120_63_7 : (-2147483648) ≤ s120_63_7 ∧ s120_63_7 ≤ 2147483647 := by rw [← es120_63_7]; exact ir_63_7 hS.1.2.1
      refine Tr.sc [] rfl ?_
      refine Tr.goto (pc := 123) (tgt := 201) d_X6_step_123 rfl ?_
      refine Tr.aload_n (pc := 201) (i := 2) d_X6_step_201 rfl rfl ?_
      refine Tr.getf (pc := 202) d_X6_step_202 f_6_177 (by decide) (by decide) (ty_35 hS.1.1) ?_
      refine Tr.tp 39 (fx_35_4 hS.1.1) ?_
      refine Tr.iload_n (pc := 205) (i := 1) d_X6_step_205 rfl rfl ?_
      refine Tr.iald (pc := 206) d_X6_step_206 (ty_39 hS.1.1) (by omega) (by omega) ?_
      have ky206_35_0 : rd M120 35 0 = g35_0 := ((St.kp h120 (by decide) (by decide) (by decide)).trans ((Wr.b w19 rfl).trans ((St.kp h4 (by decide) (by decide) (by decide)).trans eg35_0)))
      refine Tr.gen (P := fun v => 0 ≤ v ∧ v ≤ 2147483647) (by have h8 := (Yn35.of hF_Y35 (fun j => (St.ka hS (by decide) (by decide) (by decide))) (fun j => (St.ka hS (by decide) (by decide) (by decide))) (St.kp hS (by decide) (by decide) (by decide))) (a1) (by omega) (by omega); have h9 := (ar_39 hS.1.2.1 (a1)); omega) (fun r206 er206 br206 => ?_)
      have kr_63_7 : rd M120 63 7 = s120_63_7 := es120_63_7
      exact Tr.iret (pc := 207) d_X6_step_207 rfl ⟨hS, _, rfl, by omega, by omega, by omega⟩
    · refine Tr.tp 8 c43 ?_
      refine Tr.tswIn (pc := 43) (off := 83) (tgt := 126) d_X6_step_43 (by decide) (by decide) rfl rfl ?_
      refine Tr.aload_n (pc := 126) (i := 0) d_X6_step_126 rfl rfl ?_
      refine Tr.iload_n (pc := 127) (i := 1) d_X6_step_127 rfl rfl ?_
      refine Tr.iload_n (pc := 128) (i := 3) d_X6_step_128 rfl rfl ?_
      refine Tr.callV (pc := 129) (as := [_, _]) d_X6_step_129 s_6_168 ok_X6_free rfl rfl (Nat.le_of_ble_eq_true rfl) (Nat.le_of_ble_eq_true rfl) (by decide) (ty_48 hS.1.1) ?_
      refine Tr.imp (Tr.deep (by decide) (sp_X6_free_48_w3 hS.1 ((St.kp hS (by decide) (by decide) (by decide)).trans en_48_1) ((St.kp hS (by decide) (by decide) (by decide)).trans en_56_1) a1 (by omega) r35 (by omega))) ?_
      rintro M129 _ ⟨h129, rfl⟩
      have hS := St.tr hS h129 (by decide) (by decide)
      refine Tr.sc [] rfl ?_
      refine Tr.goto (pc := 132) (tgt := 201) d_X6_step_132 rfl ?_
      refine Tr.aload_n (pc := 201) (i := 2) d_X6_step_201 rfl rfl ?_
      refine Tr.getf (pc := 202) d_X6_step_202 f_6_177 (by decide) (by decide) (ty_35 hS.1.1) ?_
      refine Tr.tp 39 (fx_35_4 hS.1.1) ?_
      refine Tr.iload_n (pc := 205) (i := 1) d_X6_step_205 rfl rfl ?_
      refine Tr.iald (pc := 206) d_X6_step_206 (ty_39 hS.1.1) (by omega) (by omega) ?_
      have ky206_35_0 : rd M129 35 0 = g35_0 := ((St.kp h129 (by decide) (by decide) (by decide)).trans ((Wr.b w19 rfl).trans ((St.kp h4 (by decide) (by decide) (by decide)).trans eg35_0)))
      refine Tr.gen (P := fun v => 0 ≤ v ∧ v ≤ 2147483647) (by have h8 := (Yn35.of hF_Y35 (fun j => (St.ka hS (by decide) (by decide) (by decide))) (fun j => (St.ka hS (by decide) (by decide) (by decide))) (St.kp hS (by decide) (by decide) (by decide))) (a1) (by omega) (by omega); have h9 := (ar_39 hS.1.2.1 (a1)); omega) (fun r206 er206 br206 => ?_)
      have kr_63_7 : rd M129 63 7 = g63_7 := ((St.kp h129 (by decide) (by decide) (by decide)).trans ((Wr.b w19 rfl).trans ((St.kp h4 (by decide) (by decide) (by decide)).trans eg63_7)))
      exact Tr.iret (pc := 207) d_X6_step_207 rfl ⟨hS, _, rfl, by omega, by omega, by omega⟩
    · refine Tr.tp 9 c43 ?_
      refine Tr.tswIn (pc := 43) (off := 92) (tgt := 135) d_X6_step_43 (by decide) (by decide) rfl rfl ?_
      refine Tr.aload_n (pc := 135) (i := 0) d_X6_step_135 rfl rfl ?_
      refine Tr.aload_n (pc := 136) (i := 0) d_X6_step_136 rfl rfl ?_
      refine Tr.iload_n (pc := 137) (i := 1) d_X6_step_137 rfl rfl ?_
      refine Tr.callV (pc := 138) (as := [_]) d_X6_step_138 s_6_155 ok_X6_worked rfl rfl (Nat.le_of_ble_eq_true rfl) (Nat.le_of_ble_eq_true rfl) (by decide) (ty_48 hS.1.1) ?_
      refine Tr.imp (Tr.deep (by decide) (sp_X6_worked_48_w3 hS.1.wk ((St.kp hS (by decide) (by decide) (by decide)).trans en_48_1) a1 (by omega))) ?_
      rintro M138 _ ⟨h138, r138, rfl, lr138, ur138⟩
      have h138 := St.rn h138 (Rn.of hS.1.2.2.2.2 (fun _ => (St.ka h138 (by decide) (by decide) (by decide))) (St.kp h138 (by decide) (by decide) (by decide)))
      have hS := St.tr hS h138 (by decide) (by decide)
      refine Tr.sc [(0, r138), (2, 48)] rfl ?_
      refine Tr.iconst (pc := 141) d_X6_step_141 (by decide) ?_
      refine Tr.mmax (pc := 142) d_X6_step_142 ml_6_119 mw_mmax (Nat.le_of_ble_eq_true rfl) ?_
      refine Tr.gen (P := fun v => (v = r138 ∧ 0 ≤ r138) ∨ (v = 0 ∧ r138 ≤ 0)) (f_max_p _ _) (fun r142 er142 br142 => ?_)
      refine Tr.bipush (pc := 145) d_X6_step_145 rfl (by decide) ?_
      refine Tr.mmin (pc := 147) d_X6_step_147 ml_6_158 mw_mmin (Nat.le_of_ble_eq_true rfl) ?_
      refine Tr.gen (P := fun v => (v = r142 ∧ r142 ≤ 100) ∨ (v = 100 ∧ 100 ≤ r142)) (f_min_p _ _) (fun r147 er147 br147 => ?_)
      refine Tr.iconst (pc := 150) d_X6_step_150 (by decide) ?_
      refine Tr.iconst (pc := 151) d_X6_step_151 (by decide) ?_
      refine Tr.callV (pc := 152) (as := [_, _, _]) d_X6_step_152 s_6_145 ok_X6_pass rfl rfl (Nat.le_of_ble_eq_true rfl) (Nat.le_of_ble_eq_true rfl) (by decide) (ty_48 hS.1.1) ?_
      refine Tr.imp (Tr.deep (by decide) (sp_X6_pass_48_w7 hS.1.wk ((St.kp hS (by decide) (by decide) (by decide)).trans en_48_1) r147 (by omega) (-1) (by omega) 0 (by omega))) ?_
      rintro M152 _ ⟨h152, r152, rfl, lr152, ur152⟩
      have h152 := St.rn h152 (Rn.of hS.1.2.2.2.2 (fun _ => (St.ka h152 (by decide) (by decide) (by decide))) (St.kp h152 (by decide) (by decide) (by decide)))
      have hS := St.tr hS h152 (by decide) (by decide)
      refine Tr.sc [(0, r152)] rfl ?_
      refine Tr.pop (pc := 155) d_X6_step_155 ne01 ?_
      refine Tr.goto (pc := 156) (tgt := 201) d_X6_step_156 rfl ?_
      refine Tr.aload_n (pc := 201) (i := 2) d_X6_step_201 rfl rfl ?_
      refine Tr.getf (pc := 202) d_X6_step_202 f_6_177 (by decide) (by decide) (ty_35 hS.1.1) ?_
      refine Tr.tp 39 (fx_35_4 hS.1.1) ?_
      refine Tr.iload_n (pc := 205) (i := 1) d_X6_step_205 rfl rfl ?_
      refine Tr.iald (pc := 206) d_X6_step_206 (ty_39 hS.1.1) (by omega) (by omega) ?_
      have ky206_35_0 : rd M152 35 0 = g35_0 := ((St.kp h152 (by decide) (by decide) (by decide)).trans ((St.kp h138 (by decide) (by decide) (by decide)).trans ((Wr.b w19 rfl).trans ((St.kp h4 (by decide) (by decide) (by decide)).trans eg35_0))))
      refine Tr.gen (P := fun v => 0 ≤ v ∧ v ≤ 2147483647) (by have h8 := (Yn35.of hF_Y35 (fun j => (St.ka hS (by decide) (by decide) (by decide))) (fun j => (St.ka hS (by decide) (by decide) (by decide))) (St.kp hS (by decide) (by decide) (by decide))) (a1) (by omega) (by omega); have h9 := (ar_39 hS.1.2.1 (a1)); omega) (fun r206 er206 br206 => ?_)
      have kr_63_7 : rd M152 63 7 = g63_7 := ((St.kp h152 (by decide) (by decide) (by decide)).trans ((St.kp h138 (by decide) (by decide) (by decide)).trans ((Wr.b w19 rfl).trans ((St.kp h4 (by decide) (by decide) (by decide)).trans eg63_7))))
      exact Tr.iret (pc := 207) d_X6_step_207 rfl ⟨hS, _, rfl, by omega, by omega, by omega⟩
    · refine Tr.tp 10 c43 ?_
      refine Tr.tswIn (pc := 43) (off := 116) (tgt := 159) d_X6_step_43 (by decide) (by decide) rfl rfl ?_
      refine Tr.aload_n (pc := 159) (i := 0) d_X6_step_159 rfl rfl ?_
      refine Tr.aload_n (pc := 160) (i := 0) d_X6_step_160 rfl rfl ?_
      refine Tr.iload_n (pc := 161) (i := 1) d_X6_step_161 rfl rfl ?_
      refine Tr.callV (pc := 162) (as := [_]) d_X6_step_162 s_6_155 ok_X6_worked rfl rfl (Nat.le_of_ble_eq_true rfl) (Nat.le_of_ble_eq_true rfl) (by decide) (ty_48 hS.1.1) ?_
      refine Tr.imp (Tr.deep (by decide) (sp_X6_worked_48_w3 hS.1.wk ((St.kp hS (by decide) (by decide) (by decide)).trans en_48_1) a1 (by omega))) ?_
      rintro M162 _ ⟨h162, r162, rfl, lr162, ur162⟩
      have h162 := St.rn h162 (Rn.of hS.1.2.2.2.2 (fun _ => (St.ka h162 (by decide) (by decide) (by decide))) (St.kp h162 (by decide) (by decide) (by decide)))
      have hS := St.tr hS h162 (by decide) (by decide)
      refine Tr.sc [(0, r162), (2, 48)] rfl ?_
      refine Tr.sipush (pc := 165) d_X6_step_165 rfl (by decide) ?_
      refine Tr.callS (pc := 168) (as := [_, _]) d_X6_step_168 s_6_171 ok_J9_floorMod_7cf53 rfl rfl (Nat.le_of_ble_eq_true rfl) (Nat.le_of_ble_eq_true rfl) ?_
      refine Tr.imp (Tr.deep (by decide) (sp_J9_floorMod_7cf53 hS.1.wk r162 (by omega) 1000 (by omega) (by omega))) ?_
      rintro M168 _ ⟨h168, r168, rfl, lr168, ur168, wr168⟩
      have h168 := St.rn h168 (Rn.of hS.1.2.2.2.2 (fun _ => (St.ka h168 (by decide) (by decide) (by decide))) (St.kp h168 (by decide) (by decide) (by decide)))
      have hS := St.tr hS h168 (by decide) (by decide)
      refine Tr.sc [(0, r168), (2, 48)] rfl ?_
      refine Tr.callV (pc := 171) (as := [_]) d_X6_step_171 s_6_174 ok_X6_touch rfl rfl (Nat.le_of_ble_eq_true rfl) (Nat.le_of_ble_eq_true rfl) (by decide) (ty_48 hS.1.1) ?_
      refine Tr.imp (Tr.deep (by decide) (sp_X6_touch_48_w1 hS.1.wk ((St.kp hS (by decide) (by decide) (by decide)).trans en_48_1) r168 (by omega))) ?_
      rintro M171 _ ⟨h171, rfl⟩
      have h171 := St.rn h171 (Rn.of hS.1.2.2.2.2 (fun _ => (St.ka h171 (by decide) (by decide) (by decide))) (St.kp h171 (by decide) (by decide) (by decide)))
      have hS := St.tr hS h171 (by decide) (by decide)
      refine Tr.sc [] rfl ?_
      refine Tr.goto (pc := 174) (tgt := 201) d_X6_step_174 rfl ?_
      refine Tr.aload_n (pc := 201) (i := 2) d_X6_step_201 rfl rfl ?_
      refine Tr.getf (pc := 202) d_X6_step_202 f_6_177 (by decide) (by decide) (ty_35 hS.1.1) ?_
      refine Tr.tp 39 (fx_35_4 hS.1.1) ?_
      refine Tr.iload_n (pc := 205) (i := 1) d_X6_step_205 rfl rfl ?_
      refine Tr.iald (pc := 206) d_X6_step_206 (ty_39 hS.1.1) (by omega) (by omega) ?_
      have ky206_35_0 : rd M171 35 0 = g35_0 := ((St.kp h171 (by decide) (by decide) (by decide)).trans ((St.kp h168 (by decide) (by decide) (by decide)).trans ((St.kp h162 (by decide) (by decide) (by decide)).trans ((Wr.b w19 rfl).trans ((St.kp h4 (by decide) (by decide) (by decide)).trans eg35_0)))))
      refine Tr.gen (P := fun v => 0 ≤ v ∧ v ≤ 2147483647) (by have h8 := (Yn35.of hF_Y35 (fun j => (St.ka hS (by decide) (by decide) (by decide))) (fun j => (St.ka hS (by decide) (by decide) (by decide))) (St.kp hS (by decide) (by decide) (by decide))) (a1) (by omega) (by omega); have h9 := (ar_39 hS.1.2.1 (a1)); omega) (fun r206 er206 br206 => ?_)
      have kr_63_7 : rd M171 63 7 = g63_7 := ((St.kp h171 (by decide) (by decide) (by decide)).trans ((St.kp h168 (by decide) (by decide) (by decide)).trans ((St.kp h162 (by decide) (by decide) (by decide)).trans ((Wr.b w19 rfl).trans ((St.kp h4 (by decide) (by decide) (by decide)).trans eg63_7)))))
      exact Tr.iret (pc := 207) d_X6_step_207 rfl ⟨hS, _, rfl, by omega, by omega, by omega⟩
  · refine Tr.iload_n (pc := 10) (i := 1) d_X6_step_10 rfl rfl ?_
    have kr_63_7 : rd M4 63 7 = g63_7 := ((St.kp h4 (by decide) (by decide) (by decide)).trans eg63_7)
    exact Tr.iret (pc := 11) d_X6_step_11 rfl ⟨hS, _, rfl, by omega, by omega, by omega⟩
end
/-! 43.11 -/
section
def ws_X1_payHeart_56_w3 : List (Int × Int) := []
def as_X1_payHeart_56_w3 : List Int := [60]
def q_X1_payHeart_56_w3 (M0 M' : Mem) (r : Option PV) : Prop := St Tru ws_X1_payHeart_56_w3 as_X1_payHeart_56_w3 M0 M' ∧ r = none
set_option maxRecDepth 100000 in
set_option maxHeartbeats 4000000 in
theorem sp_X1_payHeart_56_w3 {l : Launch} {K : EC} {M0 : Mem} (hI : In Tru M0) (en_56_1 : rd M0 56 1 = 27) (a1 : Int) (ha1 : 0 ≤ a1 ∧ a1 ≤ 59) (a2 : Int) (ha2 : (-2147483648) ≤ a2 ∧ a2 ≤ 2147483647)  : Tr l K 0 mX1_payHeart 0 [(0, (2, 56)), (1, (0, a1)), (2, (0, a2))] [] M0 (q_X1_payHeart_56_w3 M0) := by
  have hS : St Tru ws_X1_payHeart_56_w3 as_X1_payHeart_56_w3 M0 M0 := St.rf hI
  refine Tr.aload_n (pc := 0) (i := 0) d_X1_payHeart_0 rfl rfl ?_
  refine Tr.getz (pc := 1) d_X1_payHeart_1 f_1_37 (by decide) (ty_56 hS.1.1) ?_
  refine Tr.tp 1 (fx_56_0 hS.1.1) ?_
  refine Tr.if_eq (pc := 4) (tgt := 25) d_X1_payHeart_4 rfl (fun hc => absurd hc (by omega)) (fun _ => ?_)
  refine Tr.aload_n (pc := 7) (i := 0) d_X1_payHeart_7 rfl rfl ?_
  refine Tr.getf (pc := 8) d_X1_payHeart_8 f_1_21 (by decide) (by decide) (ty_56 hS.1.1) ?_
  refine Tr.tp 60 (fx_56_5 hS.1.1) ?_
  refine Tr.iload_n (pc := 11) (i := 1) d_X1_payHeart_11 rfl rfl ?_
  refine Tr.dup2 (pc := 12) d_X1_payHeart_12 ne01 ne21 ?_
  refine Tr.iald (pc := 13) d_X1_payHeart_13 (ty_60 hS.1.1) (by omega) (by omega) ?_
  refine Tr.gen (P := fun v => (-2147483648) ≤ v ∧ v ≤ 2147483647) (ar_60 hS.1.2.1 _) (fun r13 er13 br13 => ?_)
  refine Tr.iload_n (pc := 14) (i := 2) d_X1_payHeart_14 rfl rfl ?_
  refine Tr.aload_n (pc := 15) (i := 0) d_X1_payHeart_15 rfl rfl ?_
  refine Tr.getf (pc := 16) d_X1_payHeart_16 f_1_41 (by decide) (by decide) (ty_56 hS.1.1) ?_
  refine Tr.tp 27 ((St.kp hS (by decide) (by decide) (by decide)).trans en_56_1) ?_
  refine Tr.getf (pc := 19) d_X1_payHeart_19 f_1_57 (by decide) (by decide) (ty_27 hS.1.1) ?_
  refine Tr.gen (P := fun v => (-1) ≤ v ∧ v ≤ 999) (ir_27_0 hS.1.2.1) (fun r19 er19 br19 => ?_)
  refine Tr.imul (pc := 22) d_X1_payHeart_22 ?_
  refine Tr.gen (P := fun v => (-2147483648) ≤ v ∧ v ≤ 2147483647) (w32_b _) (fun r22 er22 br22 => ?_)
  refine Tr.iadd (pc := 23) d_X1_payHeart_23 ?_
  refine Tr.gen (P := fun v => (-2147483648) ≤ v ∧ v ≤ 2147483647) (w32_b _) (fun r23 er23 br23 => ?_)
  refine Tr.iastS (pc := 24) (P := St Tru ws_X1_payHeart_56_w3 as_X1_payHeart_56_w3 M0) d_X1_payHeart_24 (ty_60 hS.1.1) (by omega) (by omega) (sa_60 hS (by decide) (by omega) trivial) (fun M24 hS w24 => ?_)
  exact Tr.vret (pc := 25) d_X1_payHeart_25 rfl ⟨hS, rfl⟩

def ws_X6_go_48_27_47 : List (Int × Int) := [(48, 1), (48, 9), (48, 10), (48, 11), (48, 12), (48, 13), (48, 14), (48, 15), (48, 16), (48, 17), (56, 1), (63, 0), (63, 1), (63, 2), (63, 3), (63, 4), (63, 5), (63, 7), (63, 8), (63, 9), (63, 10), (63, 11)]
def as_X6_go_48_27_47 : List Int := [49, 50, 51, 52, 53, 54, 55, 57, 58, 59, 60, 61, 62, 69, 191]
def q_X6_go_48_27_47 (M0 M' : Mem) (r : Option PV) : Prop := St Tru ws_X6_go_48_27_47 as_X6_go_48_27_47 M0 M' ∧ rd M' 48 1 = 27 ∧ rd M' 56 1 = 27 ∧ r = none
set_option maxRecDepth 100000 in
set_option maxHeartbeats 4000000 in
theorem sp_X6_go_48_27_47 {l : Launch} {K : EC} {M0 : Mem} (hI : In Tru M0)  (a3 : Int) (ha3 : (-1) ≤ a3 ∧ a3 ≤ 2147483647)  (hF_Y35 : Yn35 M0) : Tr l K 5 mX6_go 0 [(0, (2, 48)), (1, (2, 27)), (2, (2, 47)), (3, (0, a3))] [] M0 (q_X6_go_48_27_47 M0) := by
  have hS : St Tru ws_X6_go_48_27_47 as_X6_go_48_27_47 M0 M0 := St.rf hI
  obtain ⟨g63_7, eg63_7⟩ : ∃ v, rd M0 63 7 = v := ⟨_, rfl⟩
  have bg63_7 : (-2147483648) ≤ g63_7 ∧ g63_7 ≤ 2147483647 := by rw [← eg63_7]; exact ir_63_7 hI.2.1
  obtain ⟨g35_0, eg35_0⟩ : ∃ v, rd M0 35 0 = v := ⟨_, rfl⟩
  have bg35_0 : 0 ≤ g35_0 ∧ g35_0 ≤ 60 := by rw [← eg35_0]; exact ir_35_0 hI.2.1
  refine Tr.aload_n (pc := 0) (i := 0) d_X6_go_0 rfl rfl ?_
  refine Tr.aload_n (pc := 1) (i := 1) d_X6_go_1 rfl rfl ?_
  refine Tr.aload_n (pc := 2) (i := 2) d_X6_go_2 rfl rfl ?_
  refine Tr.iload_n (pc := 3) (i := 3) d_X6_go_3 rfl rfl ?_
  refine Tr.callV (pc := 4) (as := [_, _, _]) d_X6_go_4 s_6_42 ok_X6_begin rfl rfl (Nat.le_of_ble_eq_true rfl) (Nat.le_of_ble_eq_true rfl) (by decide) (ty_48 hS.1.1) ?_
  refine Tr.imp (Tr.deep (by decide) (sp_X6_begin_48_27_47 hS.1 a3 (by omega))) ?_
  rintro M4 _ ⟨h4, o4_48_1, o4_56_1, rfl, z4_0, f4_Rn⟩
  have hS := St.tr hS h4 (by decide) (by decide)
  obtain ⟨s4_63_7, es4_63_7⟩ : ∃ v, rd M4 63 7 = v := ⟨_, rfl⟩
  have bs4_63_7 : (-2147483648) ≤ s4_63_7 ∧ s4_63_7 ≤ 2147483647 := by rw [← es4_63_7]; exact ir_63_7 hS.1.2.1
  have hS := St.rn hS f4_Rn
  refine Tr.sc [] rfl ?_
  refine Tr.iconst (pc := 7) d_X6_go_7 (by decide) ?_
  refine Tr.istore (pc := 8) (i := 4) (ls2 := [(4, (0, 0)), (0, (2, 48)), (1, (2, 27)), (2, (2, 47)), (3, (0, a3))]) d_X6_go_8 (by decide) rfl ?_
  refine Tr.iconst (pc := 10) d_X6_go_10 (by decide) ?_
  refine Tr.istore (pc := 11) (i := 5) (ls2 := [(5, (0, 0)), (4, (0, 0)), (0, (2, 48)), (1, (2, 27)), (2, (2, 47)), (3, (0, a3))]) d_X6_go_11 (by decide) rfl ?_
  have J13 : ∀ (n13 : Nat) (M : Mem) (p13_4 p13_5 u13_63_7 : Int), St Rn ws_X6_go_48_27_47 as_X6_go_48_27_47 M0 M → (0 ≤ p13_4 ∧ p13_4 ≤ 2147483647) → (0 ≤ p13_5 ∧ p13_5 ≤ 2001) → ((-2147483648) ≤ u13_63_7 ∧ u13_63_7 ≤ 2147483647) → rd M 35 0 = g35_0 → rd M 48 1 = 27 → rd M 56 1 = 27 → rd M 63 7 = u13_63_7 → (u13_63_7 ≤ p13_5) → (2001 - p13_5).toNat < n13 → Tr l K 5 mX6_go 13 [(0, (2, 48)), (4, (0, p13_4)), (5, (0, p13_5))] [] M (q_X6_go_48_27_47 M0) := by
    intro n13
    induction n13 with
    | zero => intro M p13_4 p13_5 u13_63_7 hS bp13_4 bp13_5 bu13_63_7 k13_35_0 k13_48_1 k13_56_1 k13_63_7 t13_0 hm13; exact absurd hm13 (Nat.not_lt_zero _)
    | succ n13 J13 =>
      intro M p13_4 p13_5 u13_63_7 hS bp13_4 bp13_5 bu13_63_7 k13_35_0 k13_48_1 k13_56_1 k13_63_7 t13_0 hm13
      refine Tr.iload (pc := 13) (i := 5) d_X6_go_13 rfl ?_
      refine Tr.sipush (pc := 15) d_X6_go_15 rfl (by decide) ?_
      have J103 : ∀ (M : Mem), St Rn ws_X6_go_48_27_47 as_X6_go_48_27_47 M0 M → rd M 35 0 = g35_0 → rd M 48 1 = 27 → rd M 56 1 = 27 → rd M 63 7 = u13_63_7 → Tr l K 5 mX6_go 103 [(0, (2, 48))] [] M (q_X6_go_48_27_47 M0) := by
        intro M  hS  k103_35_0 k103_48_1 k103_56_1 k103_63_7
        refine Tr.aload_n (pc := 103) (i := 0) d_X6_go_103 rfl rfl ?_
        refine Tr.callV (pc := 104) (as := []) d_X6_go_104 s_6_82 ok_X6_finish rfl rfl (Nat.le_of_ble_eq_true rfl) (Nat.le_of_ble_eq_true rfl) (by decide) (ty_48 hS.1.1) ?_
        refine Tr.imp (Tr.deep (by decide) (sp_X6_finish_48_w1 hS.1 k103_48_1 k103_56_1)) ?_
        rintro M104 _ ⟨h104, rfl⟩
        have hS := St.tr hS h104 (by decide) (by decide)
        refine Tr.sc [] rfl ?_
        have hS := hS.wk
        exact Tr.vret (pc := 107) d_X6_go_107 rfl ⟨hS, ((St.kp h104 (by decide) (by decide) (by decide)).trans k103_48_1), ((St.kp h104 (by decide) (by decide) (by decide)).trans k103_56_1), rfl⟩
      refine Tr.icmp_gt (pc := 18) (tgt := 103) d_X6_go_18 rfl (fun c18 => ?_) (fun c18 => ?_)
      · refine Tr.pick [0] (ls2 := [(0, (2, 48))]) rfl ?_
        exact J103 _ hS k13_35_0 k13_48_1 k13_56_1 k13_63_7
      · refine Tr.iload (pc := 21) (i := 4) d_X6_go_21 rfl ?_
        refine Tr.aload_n (pc := 23) (i := 0) d_X6_go_23 rfl rfl ?_
        refine Tr.getf (pc := 24) d_X6_go_24 f_6_46 (by decide) (by decide) (ty_48 hS.1.1) ?_
        refine Tr.tp 27 k13_48_1 ?_
        refine Tr.getf (pc := 27) d_X6_go_27 f_6_50 (by decide) (by decide) (ty_27 hS.1.1) ?_
        refine Tr.tp 35 (fx_27_11 hS.1.1) ?_
        refine Tr.getf (pc := 30) d_X6_go_30 f_6_56 (by decide) (by decide) (ty_35 hS.1.1) ?_
        refine Tr.tp g35_0 k13_35_0 ?_
        refine Tr.icmp_ge (pc := 33) (tgt := 103) d_X6_go_33 rfl (fun c33 => ?_) (fun c33 => ?_)
        · refine Tr.pick [0] (ls2 := [(0, (2, 48))]) rfl ?_
          exact J103 _ hS k13_35_0 k13_48_1 k13_56_1 k13_63_7
        · refine Tr.aload_n (pc := 36) (i := 0) d_X6_go_36 rfl rfl ?_
          refine Tr.getf (pc := 37) d_X6_go_37 f_6_62 (by decide) (by decide) (ty_48 hS.1.1) ?_
          refine Tr.gen (P := fun v => (-2147483648) ≤ v ∧ v ≤ 2147483647) (ir_48_14 hS.1.2.1) (fun r37 er37 br37 => ?_)
          refine Tr.if_ne (pc := 40) (tgt := 103) d_X6_go_40 rfl (fun c40 => ?_) (fun c40 => ?_)
          · refine Tr.pick [0] (ls2 := [(0, (2, 48))]) rfl ?_
            exact J103 _ hS k13_35_0 k13_48_1 k13_56_1 k13_63_7
          · refine Tr.aload_n (pc := 43) (i := 0) d_X6_go_43 rfl rfl ?_
            refine Tr.getf (pc := 44) d_X6_go_44 f_6_38 (by decide) (by decide) (ty_48 hS.1.1) ?_
            refine Tr.tp 56 (fx_48_0 hS.1.1) ?_
            refine Tr.callV (pc := 47) (as := []) d_X6_go_47 s_6_65 ok_X1_makeRoom rfl rfl (Nat.le_of_ble_eq_true rfl) (Nat.le_of_ble_eq_true rfl) (by decide) (ty_56 hS.1.1) ?_
            have kb47_63_7 : rd M 63 7 = u13_63_7 := k13_63_7
            refine Tr.imp (Tr.deep (by decide) (sp_X1_makeRoom_56 hS.1.wk (by omega))) ?_
            rintro M47 _ ⟨h47, rfl⟩
            have h47 := St.rn h47 (Rn.of hS.1.2.2.2.2 (fun _ => (St.ka h47 (by decide) (by decide) (by decide))) (St.kp h47 (by decide) (by decide) (by decide)))
            have hS := St.tr hS h47 (by decide) (by decide)
            refine Tr.sc [] rfl ?_
            refine Tr.aload_n (pc := 50) (i := 0) d_X6_go_50 rfl rfl ?_
            refine Tr.getf (pc := 51) d_X6_go_51 f_6_68 (by decide) (by decide) (ty_48 hS.1.1) ?_
            refine Tr.gen (P := fun v => (-2147483648) ≤ v ∧ v ≤ 2147483647) (ir_48_9 hS.1.2.1) (fun r51 er51 br51 => ?_)
            refine Tr.istore (pc := 54) (i := 6) (ls2 := [(6, (0, r51)), (0, (2, 48)), (4, (0, p13_4)), (5, (0, p13_5))]) d_X6_go_54 (by decide) rfl ?_
            refine Tr.aload_n (pc := 56) (i := 0) d_X6_go_56 rfl rfl ?_
            refine Tr.iload (pc := 57) (i := 4) d_X6_go_57 rfl ?_
            refine Tr.callV (pc := 59) (as := [_]) d_X6_go_59 s_6_71 ok_X6_step rfl rfl (Nat.le_of_ble_eq_true rfl) (Nat.le_of_ble_eq_true rfl) (by decide) (ty_48 hS.1.1) ?_
            have kb59_35_0 : rd M47 35 0 = g35_0 := ((St.kp h47 (by decide) (by decide) (by decide)).trans k13_35_0)
            have kb59_63_7 : rd M47 63 7 = u13_63_7 := ((St.kp h47 (by decide) (by decide) (by decide)).trans k13_63_7)
            refine Tr.imp (Tr.deep (by decide) (sp_X6_step_48_w3 hS.1 ((St.kp h47 (by decide) (by decide) (by decide)).trans k13_48_1) ((St.kp h47 (by decide) (by decide) (by decide)).trans k13_56_1) p13_4 (by omega) (by omega) (Yn35.of hF_Y35 (fun j => (St.ka hS (by decide) (by decide) (by decide))) (fun j => (St.ka hS (by decide) (by decide) (by decide))) (St.kp hS (by decide) (by decide) (by decide))))) ?_
            rintro M59 _ ⟨h59, r59, rfl, lr59, ur59, z59_0⟩
            have hS := St.tr hS h59 (by decide) (by decide)
            obtain ⟨s59_63_7, es59_63_7⟩ : ∃ v, rd M59 63 7 = v := ⟨_, rfl⟩
            have bs59_63_7 : (-2147483648) ≤ s59_63_7 ∧ s59_63_7 ≤ 2147483647 := by rw [← es59_63_7]; exact ir_63_7 hS.1.2.1
            refine Tr.sc [(0, r59)] rfl ?_
            refine Tr.istore (pc := 62) (i := 7) (ls2 := [(7, (0, r59)), (6, (0, r51)), (0, (2, 48)), (4, (0, p13_4)), (5, (0, p13_5))]) d_X6_go_62 (by decide) rfl ?_
            refine Tr.aload_n (pc := 64) (i := 0) d_X6_go_64 rfl rfl ?_
            refine Tr.getf (pc := 65) d_X6_go_65 f_6_38 (by decide) (by decide) (ty_48 hS.1.1) ?_
            refine Tr.tp 56 (fx_48_0 hS.1.1) ?_
            refine Tr.iload (pc := 68) (i := 4) d_X6_go_68 rfl ?_
            refine Tr.aload_n (pc := 70) (i := 0) d_X6_go_70 rfl rfl ?_
            refine Tr.getf (pc := 71) d_X6_go_71 f_6_68 (by decide) (by decide) (ty_48 hS.1.1) ?_
            refine Tr.gen (P := fun v => (-2147483648) ≤ v ∧ v ≤ 2147483647) (ir_48_9 hS.1.2.1) (fun r71 er71 br71 => ?_)
            refine Tr.iload (pc := 74) (i := 6) d_X6_go_74 rfl ?_
            refine Tr.isub (pc := 76) d_X6_go_76 ?_
            refine Tr.gen (P := fun v => (-2147483648) ≤ v ∧ v ≤ 2147483647) (w32_b _) (fun r76 er76 br76 => ?_)
            refine Tr.callV (pc := 77) (as := [_, _]) d_X6_go_77 s_6_75 ok_X1_payHeart rfl rfl (Nat.le_of_ble_eq_true rfl) (Nat.le_of_ble_eq_true rfl) (by decide) (ty_56 hS.1.1) ?_
            refine Tr.imp (Tr.deep (by decide) (sp_X1_payHeart_56_w3 hS.1.wk ((St.kp h59 (by decide) (by decide) (by decide)).trans ((St.kp h47 (by decide) (by decide) (by decide)).trans k13_56_1)) p13_4 (by omega) r76 (by omega))) ?_
            rintro M77 _ ⟨h77, rfl⟩
            have h77 := St.rn h77 (Rn.of hS.1.2.2.2.2 (fun _ => (St.ka h77 (by decide) (by decide) (by decide))) (St.kp h77 (by decide) (by decide) (by decide)))
            have hS := St.tr hS h77 (by decide) (by decide)
            refine Tr.sc [] rfl ?_
            refine Tr.aload_n (pc := 80) (i := 0) d_X6_go_80 rfl rfl ?_
            refine Tr.getf (pc := 81) d_X6_go_81 f_6_62 (by decide) (by decide) (ty_48 hS.1.1) ?_
            refine Tr.gen (P := fun v => (-2147483648) ≤ v ∧ v ≤ 2147483647) (ir_48_14 hS.1.2.1) (fun r81 er81 br81 => ?_)
            have J93 : ∀ (M : Mem), St Rn ws_X6_go_48_27_47 as_X6_go_48_27_47 M0 M → rd M 35 0 = g35_0 → rd M 48 1 = 27 → rd M 48 14 = r81 → rd M 48 9 = r71 → rd M 56 1 = 27 → rd M 63 7 = s59_63_7 → Tr l K 5 mX6_go 93 [(0, (2, 48)), (5, (0, p13_5)), (7, (0, r59))] [] M (q_X6_go_48_27_47 M0) := by
              intro M  hS  k93_35_0 k93_48_1 k93_48_14 k93_48_9 k93_56_1 k93_63_7
              refine Tr.iload (pc := 93) (i := 7) d_X6_go_93 rfl ?_
              refine Tr.istore (pc := 95) (i := 4) (ls2 := [(4, (0, r59)), (0, (2, 48)), (5, (0, p13_5)), (7, (0, r59))]) d_X6_go_95 (by decide) rfl ?_
              refine Tr.iincV (pc := 97) (n2 := (p13_5 + 1)) (ls2 := [(5, (0, (p13_5 + 1))), (4, (0, r59)), (0, (2, 48)), (7, (0, r59))]) d_X6_go_97 rfl (by decide) ((w32_id (by omega)).trans (by omega)) rfl ?_
              refine Tr.goto (pc := 100) (tgt := 13) d_X6_go_100 rfl ?_
              refine Tr.pick [2, 1, 0] (ls2 := [(0, (2, 48)), (4, (0, r59)), (5, (0, (p13_5 + 1)))]) rfl ?_
              exact J13 _ _ _ _ hS (by omega) (by omega) (by omega) k93_35_0 k93_48_1 k93_56_1 k93_63_7 (by omega) (by omega)
            refine Tr.if_eq (pc := 84) (tgt := 93) d_X6_go_84 rfl (fun c84 => ?_) (fun c84 => ?_)
            · refine Tr.pick [2, 4, 0] (ls2 := [(0, (2, 48)), (5, (0, p13_5)), (7, (0, r59))]) rfl ?_
              exact J93 _ hS ((St.kp h77 (by decide) (by decide) (by decide)).trans ((St.kp h59 (by decide) (by decide) (by decide)).trans ((St.kp h47 (by decide) (by decide) (by decide)).trans k13_35_0))) ((St.kp h77 (by decide) (by decide) (by decide)).trans ((St.kp h59 (by decide) (by decide) (by decide)).trans ((St.kp h47 (by decide) (by decide) (by decide)).trans k13_48_1))) er81 ((St.kp h77 (by decide) (by decide) (by decide)).trans er71) ((St.kp h77 (by decide) (by decide) (by decide)).trans ((St.kp h59 (by decide) (by decide) (by decide)).trans ((St.kp h47 (by decide) (by decide) (by decide)).trans k13_56_1))) ((St.kp h77 (by decide) (by decide) (by decide)).trans es59_63_7)
            · refine Tr.aload_n (pc := 87) (i := 0) d_X6_go_87 rfl rfl ?_
              refine Tr.iload (pc := 88) (i := 4) d_X6_go_88 rfl ?_
              refine Tr.putfS (pc := 90) (P := St Rn ws_X6_go_48_27_47 as_X6_go_48_27_47 M0) d_X6_go_90 f_6_79 (by decide) (by decide) (ty_48 hS.1.1) (st_48_15 hS (by decide) (by omega) (Rn.of hS.1.2.2.2.2 (fun _ => rd_wb _ rfl) (rd_wb _ rfl))) (fun M90 hS w90 => ?_)
              refine Tr.pick [2, 4, 0] (ls2 := [(0, (2, 48)), (5, (0, p13_5)), (7, (0, r59))]) rfl ?_
              exact J93 _ hS ((Wr.b w90 rfl).trans ((St.kp h77 (by decide) (by decide) (by decide)).trans ((St.kp h59 (by decide) (by decide) (by decide)).trans ((St.kp h47 (by decide) (by decide) (by decide)).trans k13_35_0)))) ((Wr.b w90 rfl).trans ((St.kp h77 (by decide) (by decide) (by decide)).trans ((St.kp h59 (by decide) (by decide) (by decide)).trans ((St.kp h47 (by decide) (by decide) (by decide)).trans k13_48_1)))) ((Wr.b w90 rfl).trans er81) ((Wr.b w90 rfl).trans ((St.kp h77 (by decide) (by decide) (by decide)).trans er71)) ((Wr.b w90 rfl).trans ((St.kp h77 (by decide) (by decide) (by decide)).trans ((St.kp h59 (by decide) (by decide) (by decide)).trans ((St.kp h47 (by decide) (by decide) (by decide)).trans k13_56_1)))) ((Wr.b w90 rfl).trans ((St.kp h77 (by decide) (by decide) (by decide)).trans es59_63_7))
  refine Tr.pick [2, 1, 0] (ls2 := [(0, (2, 48)), (4, (0, 0)), (5, (0, 0))]) rfl ?_
  exact J13 _ _ _ _ _ hS (by omega) (by omega) (by omega) ((St.kp h4 (by decide) (by decide) (by decide)).trans eg35_0) o4_48_1 o4_56_1 es4_63_7 (by omega) (Nat.lt_succ_self _)

def ws_X11_run_0_w1 : List (Int × Int) := [(0, 9), (48, 1), (48, 9), (48, 10), (48, 11), (48, 12), (48, 13), (48, 14), (48, 15), (48, 16), (48, 17), (56, 1), (63, 0), (63, 1), (63, 2), (63, 3), (63, 4), (63, 5), (63, 7), (63, 8), (63, 9), (63, 10), (63, 11), (100, 3)]
def as_X11_run_0_w1 : List Int := [49, 50, 51, 52, 53, 54, 55, 57, 58, 59, 60, 61, 62, 69, 191]
def q_X11_run_0_w1 (a1 : Int) (M0 M' : Mem) (r : Option PV) : Prop := St Tru ws_X11_run_0_w1 as_X11_run_0_w1 M0 M' ∧ ∃ v : Int, r = some (0, v) ∧ (-2147483648) ≤ v ∧ v ≤ 2147483647 ∧ ((rd M' 0 9 = 1 ∧ rd M' 56 1 = 27 ∧ rd M' 100 3 = -1) ∨ M' = M0)
set_option maxRecDepth 100000 in
set_option maxHeartbeats 4000000 in
theorem sp_X11_run_0_w1 {l : Launch} {K : EC} {M0 : Mem} (hI : In Tru M0) (en_0_4 : rd M0 0 4 = 27) (a1 : Int) (ha1 : (-2147483648) ≤ a1 ∧ a1 ≤ 2147483647)  (hF_Y35 : Yn35 M0) : Tr l K 6 mX11_run 0 [(0, (2, 0)), (1, (0, a1))] [] M0 (q_X11_run_0_w1 a1 M0) := by
  have hS : St Tru ws_X11_run_0_w1 as_X11_run_0_w1 M0 M0 := St.rf hI
  refine Tr.iload_n (pc := 0) (i := 1) d_X11_run_0 rfl rfl ?_
  refine Tr.iconst (pc := 1) d_X11_run_1 (by decide) ?_
  refine Tr.icmp_ge (pc := 2) (tgt := 8) d_X11_run_2 rfl (fun c2 => ?_) (fun c2 => ?_)
  · refine Tr.aload_n (pc := 8) (i := 0) d_X11_run_8 rfl rfl ?_
    refine Tr.getf (pc := 9) d_X11_run_9 f_11_46 (by decide) (by decide) (ty_0 hS.1.1) ?_
    refine Tr.tp 48 (fx_0_7 hS.1.1) ?_
    refine Tr.aload_n (pc := 12) (i := 0) d_X11_run_12 rfl rfl ?_
    refine Tr.getf (pc := 13) d_X11_run_13 f_11_30 (by decide) (by decide) (ty_0 hS.1.1) ?_
    refine Tr.tp 27 ((St.kp hS (by decide) (by decide) (by decide)).trans en_0_4) ?_
    refine Tr.aload_n (pc := 16) (i := 0) d_X11_run_16 rfl rfl ?_
    refine Tr.getf (pc := 17) d_X11_run_17 f_11_37 (by decide) (by decide) (ty_0 hS.1.1) ?_
    refine Tr.tp 47 (fx_0_6 hS.1.1) ?_
    refine Tr.iload_n (pc := 20) (i := 1) d_X11_run_20 rfl rfl ?_
    refine Tr.callV (pc := 21) (as := [_, _, _]) d_X11_run_21 s_11_144 ok_X6_go rfl rfl (Nat.le_of_ble_eq_true rfl) (Nat.le_of_ble_eq_true rfl) (by decide) (ty_48 hS.1.1) ?_
    refine Tr.imp (Tr.deep (by decide) (sp_X6_go_48_27_47 hS.1 a1 (by omega) (Yn35.of hF_Y35 (fun j => (St.ka hS (by decide) (by decide) (by decide))) (fun j => (St.ka hS (by decide) (by decide) (by decide))) (St.kp hS (by decide) (by decide) (by decide))))) ?_
    rintro M21 _ ⟨h21, o21_48_1, o21_56_1, rfl⟩
    have hS := St.tr hS h21 (by decide) (by decide)
    refine Tr.sc [] rfl ?_
    refine Tr.aload_n (pc := 24) (i := 0) d_X11_run_24 rfl rfl ?_
    refine Tr.getf (pc := 25) d_X11_run_25 f_11_56 (by decide) (by decide) (ty_0 hS.1.1) ?_
    refine Tr.tp 100 (fx_0_10 hS.1.1) ?_
    refine Tr.callV (pc := 28) (as := []) d_X11_run_28 s_11_148 ok_X9_clear rfl rfl (Nat.le_of_ble_eq_true rfl) (Nat.le_of_ble_eq_true rfl) (by decide) (ty_100 hS.1.1) ?_
    refine Tr.imp (Tr.deep (by decide) (sp_X9_clear_100 hS.1 )) ?_
    rintro M28 _ ⟨h28, rfl, z28_0⟩
    have hS := St.tr hS h28 (by decide) (by decide)
    obtain ⟨s28_100_3, es28_100_3⟩ : ∃ v, rd M28 100 3 = v := ⟨_, rfl⟩
    have bs28_100_3 : (-2147483648) ≤ s28_100_3 ∧ s28_100_3 ≤ 2147483647 := by rw [← es28_100_3]; exact ir_100_3 hS.1.2.1
    refine Tr.sc [] rfl ?_
    refine Tr.aload_n (pc := 31) (i := 0) d_X11_run_31 rfl rfl ?_
    refine Tr.iconst (pc := 32) d_X11_run_32 (by decide) ?_
    refine Tr.putzS (pc := 33) (P := St Tru ws_X11_run_0_w1 as_X11_run_0_w1 M0) d_X11_run_33 f_11_109 (by decide) (ty_0 hS.1.1) (by omega) (st_0_9 hS (by decide) (by omega) trivial) (fun M33 hS w33 => ?_)
    refine Tr.aload_n (pc := 36) (i := 0) d_X11_run_36 rfl rfl ?_
    refine Tr.getf (pc := 37) d_X11_run_37 f_11_46 (by decide) (by decide) (ty_0 hS.1.1) ?_
    refine Tr.tp 48 (fx_0_7 hS.1.1) ?_
    refine Tr.getf (pc := 40) d_X11_run_40 f_11_149 (by decide) (by decide) (ty_48 hS.1.1) ?_
    refine Tr.gen (P := fun v => (-2147483648) ≤ v ∧ v ≤ 2147483647) (ir_48_14 hS.1.2.1) (fun r40 er40 br40 => ?_)
    have kz_0_9 : rd M33 0 9 = 1 := w33.1
    have kz_56_1 : rd M33 56 1 = 27 := ((Wr.b w33 rfl).trans ((St.kp h28 (by decide) (by decide) (by decide)).trans o21_56_1))
    have kz_100_3 : rd M33 100 3 = s28_100_3 := ((Wr.b w33 rfl).trans es28_100_3)
    exact Tr.iret (pc := 43) d_X11_run_43 rfl ⟨hS, _, rfl, by omega, by omega, Or.inl ⟨by omega, by omega, by omega⟩⟩
  · refine Tr.bipush (pc := 5) d_X11_run_5 rfl (by decide) ?_
    exact Tr.iret (pc := 7) d_X11_run_7 rfl ⟨hS, _, rfl, by omega, by omega, Or.inr rfl⟩

def ws_X4_clear_15 : List (Int × Int) := [(15, 0), (15, 11)]
def as_X4_clear_15 : List Int := []
def q_X4_clear_15 (M0 M' : Mem) (r : Option PV) : Prop := St Tru ws_X4_clear_15 as_X4_clear_15 M0 M' ∧ r = none
set_option maxRecDepth 100000 in
set_option maxHeartbeats 4000000 in
theorem sp_X4_clear_15 {l : Launch} {K : EC} {M0 : Mem} (hI : In Tru M0)    : Tr l K 0 mX4_clear 0 [(0, (2, 15))] [] M0 (q_X4_clear_15 M0) := by
  have hS : St Tru ws_X4_clear_15 as_X4_clear_15 M0 M0 := St.rf hI
  refine Tr.aload_n (pc := 0) (i := 0) d_X4_clear_0 rfl rfl ?_
  refine Tr.iconst (pc := 1) d_X4_clear_1 (by decide) ?_
  refine Tr.putfS (pc := 2) (P := St Tru ws_X4_clear_15 as_X4_clear_15 M0) d_X4_clear_2 f_4_45 (by decide) (by decide) (ty_15 hS.1.1) (st_15_0 hS (by decide) (by omega) trivial) (fun M2 hS w2 => ?_)
  refine Tr.aload_n (pc := 5) (i := 0) d_X4_clear_5 rfl rfl ?_
  refine Tr.iconst (pc := 6) d_X4_clear_6 (by decide) ?_
  refine Tr.putfS (pc := 7) (P := St Tru ws_X4_clear_15 as_X4_clear_15 M0) d_X4_clear_7 f_4_49 (by decide) (by decide) (ty_15 hS.1.1) (st_15_11 hS (by decide) (by omega) trivial) (fun M7 hS w7 => ?_)
  exact Tr.vret (pc := 10) d_X4_clear_10 rfl ⟨hS, rfl⟩

def ws_X3_clear_7 : List (Int × Int) := [(7, 0), (7, 1), (7, 2), (7, 3), (15, 0), (15, 11)]
def as_X3_clear_7 : List Int := [8, 9, 12, 13, 14]
def q_X3_clear_7 (M0 M' : Mem) (r : Option PV) : Prop := St Tru ws_X3_clear_7 as_X3_clear_7 M0 M' ∧ r = none
set_option maxRecDepth 100000 in
set_option maxHeartbeats 4000000 in
theorem sp_X3_clear_7 {l : Launch} {K : EC} {M0 : Mem} (hI : In Tru M0)    : Tr l K 1 mX3_clear 0 [(0, (2, 7))] [] M0 (q_X3_clear_7 M0) := by
  have hS : St Tru ws_X3_clear_7 as_X3_clear_7 M0 M0 := St.rf hI
  refine Tr.aload_n (pc := 0) (i := 0) d_X3_clear_0 rfl rfl ?_
  refine Tr.iconst (pc := 1) d_X3_clear_1 (by decide) ?_
  refine Tr.putfS (pc := 2) (P := St Tru ws_X3_clear_7 as_X3_clear_7 M0) d_X3_clear_2 f_3_40 (by decide) (by decide) (ty_7 hS.1.1) (st_7_0 hS (by decide) (by omega) trivial) (fun M2 hS w2 => ?_)
  refine Tr.aload_n (pc := 5) (i := 0) d_X3_clear_5 rfl rfl ?_
  refine Tr.iconst (pc := 6) d_X3_clear_6 (by decide) ?_
  refine Tr.putfS (pc := 7) (P := St Tru ws_X3_clear_7 as_X3_clear_7 M0) d_X3_clear_7 f_3_44 (by decide) (by decide) (ty_7 hS.1.1) (st_7_1 hS (by decide) (by omega) trivial) (fun M7 hS w7 => ?_)
  refine Tr.aload_n (pc := 10) (i := 0) d_X3_clear_10 rfl rfl ?_
  refine Tr.iconst (pc := 11) d_X3_clear_11 (by decide) ?_
  refine Tr.putfS (pc := 12) (P := St Tru ws_X3_clear_7 as_X3_clear_7 M0) d_X3_clear_12 f_3_47 (by decide) (by decide) (ty_7 hS.1.1) (st_7_2 hS (by decide) (by omega) trivial) (fun M12 hS w12 => ?_)
  refine Tr.aload_n (pc := 15) (i := 0) d_X3_clear_15 rfl rfl ?_
  refine Tr.iconst (pc := 16) d_X3_clear_16 (by decide) ?_
  refine Tr.putfS (pc := 17) (P := St Tru ws_X3_clear_7 as_X3_clear_7 M0) d_X3_clear_17 f_3_50 (by decide) (by decide) (ty_7 hS.1.1) (st_7_3 hS (by decide) (by omega) trivial) (fun M17 hS w17 => ?_)
  refine Tr.aload_n (pc := 20) (i := 0) d_X3_clear_20 rfl rfl ?_
  refine Tr.getf (pc := 21) d_X3_clear_21 f_3_11 (by decide) (by decide) (ty_7 hS.1.1) ?_
  refine Tr.tp 8 (fx_7_4 hS.1.1) ?_
  refine Tr.iconst (pc := 24) d_X3_clear_24 (by decide) ?_
  refine Tr.callS (pc := 25) (as := [_, _]) d_X3_clear_25 s_3_53 ok_J7_fill_53178 rfl rfl (Nat.le_of_ble_eq_true rfl) (Nat.le_of_ble_eq_true rfl) ?_
  refine Tr.imp (sp_fill (N := 3) (ty_8 hS.1.1) (by decide)) ?_
  rintro _ _ ⟨rfl, rfl⟩
  refine Tr.nmA (P := St Tru ws_X3_clear_7 as_X3_clear_7 M0) (St.wp (x := 8) (v := 0) 3 hS (by decide) (by decide) (by decide +kernel) (by decide +kernel) (by decide +kernel) trivial) (fil_wa _ _ _ _) (fun M25 hS w25 => ?_)
  refine Tr.sc [] rfl ?_
  refine Tr.aload_n (pc := 28) (i := 0) d_X3_clear_28 rfl rfl ?_
  refine Tr.getf (pc := 29) d_X3_clear_29 f_3_15 (by decide) (by decide) (ty_7 hS.1.1) ?_
  refine Tr.tp 9 (fx_7_5 hS.1.1) ?_
  refine Tr.iconst (pc := 32) d_X3_clear_32 (by decide) ?_
  refine Tr.callS (pc := 33) (as := [_, _]) d_X3_clear_33 s_3_53 ok_J7_fill_53178 rfl rfl (Nat.le_of_ble_eq_true rfl) (Nat.le_of_ble_eq_true rfl) ?_
  refine Tr.imp (sp_fill (N := 24) (ty_9 hS.1.1) (by decide)) ?_
  rintro _ _ ⟨rfl, rfl⟩
  refine Tr.nmA (P := St Tru ws_X3_clear_7 as_X3_clear_7 M0) (sf_9 (v := 0) 24 hS (by decide) (by omega) trivial) (fil_wa _ _ _ _) (fun M33 hS w33 => ?_)
  refine Tr.sc [] rfl ?_
  refine Tr.aload_n (pc := 36) (i := 0) d_X3_clear_36 rfl rfl ?_
  refine Tr.getf (pc := 37) d_X3_clear_37 f_3_24 (by decide) (by decide) (ty_7 hS.1.1) ?_
  refine Tr.tp 12 (fx_7_8 hS.1.1) ?_
  refine Tr.iconst (pc := 40) d_X3_clear_40 (by decide) ?_
  refine Tr.callS (pc := 41) (as := [_, _]) d_X3_clear_41 s_3_53 ok_J7_fill_53178 rfl rfl (Nat.le_of_ble_eq_true rfl) (Nat.le_of_ble_eq_true rfl) ?_
  refine Tr.imp (sp_fill (N := 3) (ty_12 hS.1.1) (by decide)) ?_
  rintro _ _ ⟨rfl, rfl⟩
  refine Tr.nmA (P := St Tru ws_X3_clear_7 as_X3_clear_7 M0) (sf_12 (v := 0) 3 hS (by decide) (by omega) trivial) (fil_wa _ _ _ _) (fun M41 hS w41 => ?_)
  refine Tr.sc [] rfl ?_
  refine Tr.aload_n (pc := 44) (i := 0) d_X3_clear_44 rfl rfl ?_
  refine Tr.getf (pc := 45) d_X3_clear_45 f_3_27 (by decide) (by decide) (ty_7 hS.1.1) ?_
  refine Tr.tp 13 (fx_7_9 hS.1.1) ?_
  refine Tr.iconst (pc := 48) d_X3_clear_48 (by decide) ?_
  refine Tr.callS (pc := 49) (as := [_, _]) d_X3_clear_49 s_3_53 ok_J7_fill_53178 rfl rfl (Nat.le_of_ble_eq_true rfl) (Nat.le_of_ble_eq_true rfl) ?_
  refine Tr.imp (sp_fill (N := 3) (ty_13 hS.1.1) (by decide)) ?_
  rintro _ _ ⟨rfl, rfl⟩
  refine Tr.nmA (P := St Tru ws_X3_clear_7 as_X3_clear_7 M0) (sf_13 (v := 0) 3 hS (by decide) (by omega) trivial) (fil_wa _ _ _ _) (fun M49 hS w49 => ?_)
  refine Tr.sc [] rfl ?_
  refine Tr.aload_n (pc := 52) (i := 0) d_X3_clear_52 rfl rfl ?_
  refine Tr.getf (pc := 53) d_X3_clear_53 f_3_30 (by decide) (by decide) (ty_7 hS.1.1) ?_
  refine Tr.tp 14 (fx_7_10 hS.1.1) ?_
  refine Tr.iconst (pc := 56) d_X3_clear_56 (by decide) ?_
  refine Tr.callS (pc := 57) (as := [_, _]) d_X3_clear_57 s_3_53 ok_J7_fill_53178 rfl rfl (Nat.le_of_ble_eq_true rfl) (Nat.le_of_ble_eq_true rfl) ?_
  refine Tr.imp (sp_fill (N := 15) (ty_14 hS.1.1) (by decide)) ?_
  rintro _ _ ⟨rfl, rfl⟩
  refine Tr.nmA (P := St Tru ws_X3_clear_7 as_X3_clear_7 M0) (sf_14 (v := 0) 15 hS (by decide) (by omega) trivial) (fil_wa _ _ _ _) (fun M57 hS w57 => ?_)
  refine Tr.sc [] rfl ?_
  refine Tr.aload_n (pc := 60) (i := 0) d_X3_clear_60 rfl rfl ?_
  refine Tr.getf (pc := 61) d_X3_clear_61 f_3_36 (by decide) (by decide) (ty_7 hS.1.1) ?_
  refine Tr.tp 15 (fx_7_11 hS.1.1) ?_
  refine Tr.callV (pc := 64) (as := []) d_X3_clear_64 s_3_59 ok_X4_clear rfl rfl (Nat.le_of_ble_eq_true rfl) (Nat.le_of_ble_eq_true rfl) (by decide) (ty_15 hS.1.1) ?_
  refine Tr.imp (Tr.deep (by decide) (sp_X4_clear_15 hS.1 )) ?_
  rintro M64 _ ⟨h64, rfl⟩
  have hS := St.tr hS h64 (by decide) (by decide)
  refine Tr.sc [] rfl ?_
  exact Tr.vret (pc := 67) d_X3_clear_67 rfl ⟨hS, rfl⟩

def ws_X3_isFull_7 : List (Int × Int) := []
def as_X3_isFull_7 : List Int := []
def q_X3_isFull_7 (M0 M' : Mem) (r : Option PV) : Prop := St Tru ws_X3_isFull_7 as_X3_isFull_7 M0 M' ∧ ∃ v : Int, r = some (0, v) ∧ 0 ≤ v ∧ v ≤ 1
set_option maxRecDepth 100000 in
set_option maxHeartbeats 4000000 in
theorem sp_X3_isFull_7 {l : Launch} {K : EC} {M0 : Mem} {xq : Int} (hI : In Tru M0) (hE : e_all K xq)  (a1 : Int) (ha1 : 2 ≤ a1 ∧ a1 ≤ 2)  : Tr l K 0 mX3_isFull 0 [(0, (2, 7)), (1, (0, a1))] [] M0 (q_X3_isFull_7 M0) := by
  have hS : St Tru ws_X3_isFull_7 as_X3_isFull_7 M0 M0 := St.rf hI
  refine Tr.aload_n (pc := 0) (i := 0) d_X3_isFull_0 rfl rfl ?_
  refine Tr.getf (pc := 1) d_X3_isFull_1 f_3_11 (by decide) (by decide) (ty_7 hS.1.1) ?_
  refine Tr.tp 8 (fx_7_4 hS.1.1) ?_
  refine Tr.iload_n (pc := 4) (i := 1) d_X3_isFull_4 rfl rfl ?_
  refine Tr.tp 2 (by omega) ?_
  refine Tr.iald (pc := 5) d_X3_isFull_5 (ty_8 hS.1.1) (by omega) (by omega) ?_
  refine Tr.gen (P := fun v => 0 ≤ v ∧ v ≤ 6) (ir_8_2 hS.1.2.1) (fun r5 er5 br5 => ?_)
  refine Tr.gets (pc := 6) d_X3_isFull_6 sl_3_62 hE.2.2.2.1 ?_
  refine Tr.iload_n (pc := 9) (i := 1) d_X3_isFull_9 rfl rfl ?_
  refine Tr.tp 2 (by omega) ?_
  refine Tr.xld (pc := 10) (i := 1) d_X3_isFull_10 rfl hE.1 (by omega) (by omega) ?_
  refine Tr.tp 6 (by decide) ?_
  refine Tr.icmp_lt (pc := 11) (tgt := 18) d_X3_isFull_11 rfl (fun c11 => ?_) (fun c11 => ?_)
  · refine Tr.iconst (pc := 18) d_X3_isFull_18 (by decide) ?_
    exact Tr.zret (pc := 19) d_X3_isFull_19 rfl (by omega) ⟨hS, _, rfl, by omega, by omega⟩
  · refine Tr.iconst (pc := 14) d_X3_isFull_14 (by decide) ?_
    refine Tr.goto (pc := 15) (tgt := 19) d_X3_isFull_15 rfl ?_
    exact Tr.zret (pc := 19) d_X3_isFull_19 rfl (by omega) ⟨hS, _, rfl, by omega, by omega⟩

def ws_X3_find_7 : List (Int × Int) := []
def as_X3_find_7 : List Int := []
def q_X3_find_7 (M0 M' : Mem) (r : Option PV) : Prop := St Tru ws_X3_find_7 as_X3_find_7 M0 M' ∧ ∃ v : Int, r = some (0, v) ∧ (-1) ≤ v ∧ v ≤ 14
set_option maxRecDepth 100000 in
set_option maxHeartbeats 4000000 in
theorem sp_X3_find_7 {l : Launch} {K : EC} {M0 : Mem} (hI : In Tru M0)  (a1 : Int) (ha1 : (-2147483648) ≤ a1 ∧ a1 ≤ 2147483647)  : Tr l K 0 mX3_find 0 [(0, (2, 7)), (1, (0, a1))] [] M0 (q_X3_find_7 M0) := by
  have hS : St Tru ws_X3_find_7 as_X3_find_7 M0 M0 := St.rf hI
  refine Tr.iconst (pc := 0) d_X3_find_0 (by decide) ?_
  refine Tr.istore_n (pc := 1) (i := 2) (ls2 := [(2, (0, 0)), (0, (2, 7)), (1, (0, a1))]) d_X3_find_1 rfl (by decide) rfl ?_
  have J2 : ∀ (n2 : Nat) (M : Mem) (p2_2 : Int), St Tru ws_X3_find_7 as_X3_find_7 M0 M → (0 ≤ p2_2 ∧ p2_2 ≤ 15) → (15 - p2_2).toNat < n2 → Tr l K 0 mX3_find 2 [(0, (2, 7)), (1, (0, a1)), (2, (0, p2_2))] [] M (q_X3_find_7 M0) := by
    intro n2
    induction n2 with
    | zero => intro M p2_2 hS bp2_2  hm2; exact absurd hm2 (Nat.not_lt_zero _)
    | succ n2 J2 =>
      intro M p2_2 hS bp2_2  hm2
      refine Tr.iload_n (pc := 2) (i := 2) d_X3_find_2 rfl rfl ?_
      refine Tr.bipush (pc := 3) d_X3_find_3 rfl (by decide) ?_
      refine Tr.icmp_ge (pc := 5) (tgt := 26) d_X3_find_5 rfl (fun c5 => ?_) (fun c5 => ?_)
      · refine Tr.iconst (pc := 26) d_X3_find_26 (by decide) ?_
        exact Tr.iret (pc := 27) d_X3_find_27 rfl ⟨hS, _, rfl, by omega, by omega⟩
      · refine Tr.aload_n (pc := 8) (i := 0) d_X3_find_8 rfl rfl ?_
        refine Tr.getf (pc := 9) d_X3_find_9 f_3_30 (by decide) (by decide) (ty_7 hS.1.1) ?_
        refine Tr.tp 14 (fx_7_10 hS.1.1) ?_
        refine Tr.iload_n (pc := 12) (i := 2) d_X3_find_12 rfl rfl ?_
        refine Tr.iald (pc := 13) d_X3_find_13 (ty_14 hS.1.1) (by omega) (by omega) ?_
        refine Tr.gen (P := fun v => (-2147483648) ≤ v ∧ v ≤ 2147483647) (ar_14 hS.1.2.1 _) (fun r13 er13 br13 => ?_)
        refine Tr.iload_n (pc := 14) (i := 1) d_X3_find_14 rfl rfl ?_
        refine Tr.icmp_ne (pc := 15) (tgt := 20) d_X3_find_15 rfl (fun c15 => ?_) (fun c15 => ?_)
        · refine Tr.iincV (pc := 20) (n2 := (p2_2 + 1)) (ls2 := [(2, (0, (p2_2 + 1))), (0, (2, 7)), (1, (0, a1))]) d_X3_find_20 rfl (by decide) ((w32_id (by omega)).trans (by omega)) rfl ?_
          refine Tr.goto (pc := 23) (tgt := 2) d_X3_find_23 rfl ?_
          refine Tr.pick [1, 2, 0] (ls2 := [(0, (2, 7)), (1, (0, a1)), (2, (0, (p2_2 + 1)))]) rfl ?_
          exact J2 _ _ hS (by omega) (by omega)
        · refine Tr.iload_n (pc := 18) (i := 2) d_X3_find_18 rfl rfl ?_
          exact Tr.iret (pc := 19) d_X3_find_19 rfl ⟨hS, _, rfl, by omega, by omega⟩
  refine Tr.pick [1, 2, 0] (ls2 := [(0, (2, 7)), (1, (0, a1)), (2, (0, 0))]) rfl ?_
  exact J2 _ _ _ hS (by omega) (Nat.lt_succ_self _)

def ws_X3_name_7 : List (Int × Int) := [(8, 2)]
def as_X3_name_7 : List Int := [14]
def q_X3_name_7 (M0 M' : Mem) (r : Option PV) : Prop := St Tru ws_X3_name_7 as_X3_name_7 M0 M' ∧ r = none
set_option maxRecDepth 100000 in
set_option maxHeartbeats 4000000 in
theorem sp_X3_name_7 {l : Launch} {K : EC} {M0 : Mem} {xq : Int} (hI : In Tru M0) (hE : e_all K xq)  (a1 : Int) (ha1 : 2 ≤ a1 ∧ a1 ≤ 2) (a2 : Int) (ha2 : (-2147483648) ≤ a2 ∧ a2 ≤ 2147483647)  : Tr l K 0 mX3_name 0 [(0, (2, 7)), (1, (0, a1)), (2, (0, a2))] [] M0 (q_X3_name_7 M0) := by
  have hS : St Tru ws_X3_name_7 as_X3_name_7 M0 M0 := St.rf hI
  refine Tr.aload_n (pc := 0) (i := 0) d_X3_name_0 rfl rfl ?_
  refine Tr.getf (pc := 1) d_X3_name_1 f_3_11 (by decide) (by decide) (ty_7 hS.1.1) ?_
  refine Tr.tp 8 (fx_7_4 hS.1.1) ?_
  refine Tr.iload_n (pc := 4) (i := 1) d_X3_name_4 rfl rfl ?_
  refine Tr.tp 2 (by omega) ?_
  refine Tr.iald (pc := 5) d_X3_name_5 (ty_8 hS.1.1) (by omega) (by omega) ?_
  refine Tr.gen (P := fun v => 0 ≤ v ∧ v ≤ 6) (ir_8_2 hS.1.2.1) (fun r5 er5 br5 => ?_)
  refine Tr.gets (pc := 6) d_X3_name_6 sl_3_62 hE.2.2.2.1 ?_
  refine Tr.iload_n (pc := 9) (i := 1) d_X3_name_9 rfl rfl ?_
  refine Tr.tp 2 (by omega) ?_
  refine Tr.xld (pc := 10) (i := 1) d_X3_name_10 rfl hE.1 (by omega) (by omega) ?_
  refine Tr.tp 6 (by decide) ?_
  refine Tr.icmp_ge (pc := 11) (tgt := 42) d_X3_name_11 rfl (fun c11 => ?_) (fun c11 => ?_)
  · exact Tr.vret (pc := 42) d_X3_name_42 rfl ⟨hS, rfl⟩
  · refine Tr.aload_n (pc := 14) (i := 0) d_X3_name_14 rfl rfl ?_
    refine Tr.getf (pc := 15) d_X3_name_15 f_3_30 (by decide) (by decide) (ty_7 hS.1.1) ?_
    refine Tr.tp 14 (fx_7_10 hS.1.1) ?_
    refine Tr.gets (pc := 18) d_X3_name_18 sl_3_65 hE.2.2.2.2.1 ?_
    refine Tr.iload_n (pc := 21) (i := 1) d_X3_name_21 rfl rfl ?_
    refine Tr.tp 2 (by omega) ?_
    refine Tr.xld (pc := 22) (i := 2) d_X3_name_22 rfl hE.2.1 (by omega) (by omega) ?_
    refine Tr.tp 9 (by decide) ?_
    refine Tr.aload_n (pc := 23) (i := 0) d_X3_name_23 rfl rfl ?_
    refine Tr.getf (pc := 24) d_X3_name_24 f_3_11 (by decide) (by decide) (ty_7 hS.1.1) ?_
    refine Tr.tp 8 (fx_7_4 hS.1.1) ?_
    refine Tr.iload_n (pc := 27) (i := 1) d_X3_name_27 rfl rfl ?_
    refine Tr.tp 2 (by omega) ?_
    refine Tr.iald (pc := 28) d_X3_name_28 (ty_8 hS.1.1) (by omega) (by omega) ?_
    refine Tr.tp r5 er5 ?_
    refine Tr.iadd (pc := 29) d_X3_name_29 ?_
    refine Tr.tp (r5 + 9) ((w32_id (by omega)).trans (by omega)) ?_
    refine Tr.iload_n (pc := 30) (i := 2) d_X3_name_30 rfl rfl ?_
    refine Tr.iastS (pc := 31) (P := St Tru ws_X3_name_7 as_X3_name_7 M0) d_X3_name_31 (ty_14 hS.1.1) (by omega) (by omega) (sa_14 hS (by decide) (by omega) trivial) (fun M31 hS w31 => ?_)
    refine Tr.aload_n (pc := 32) (i := 0) d_X3_name_32 rfl rfl ?_
    refine Tr.getf (pc := 33) d_X3_name_33 f_3_11 (by decide) (by decide) (ty_7 hS.1.1) ?_
    refine Tr.tp 8 (fx_7_4 hS.1.1) ?_
    refine Tr.iload_n (pc := 36) (i := 1) d_X3_name_36 rfl rfl ?_
    refine Tr.tp 2 (by omega) ?_
    refine Tr.dup2 (pc := 37) d_X3_name_37 ne01 ne21 ?_
    refine Tr.iald (pc := 38) d_X3_name_38 (ty_8 hS.1.1) (by omega) (by omega) ?_
    refine Tr.tp r5 ((Wr.b w31 rfl).trans er5) ?_
    refine Tr.iconst (pc := 39) d_X3_name_39 (by decide) ?_
    refine Tr.iadd (pc := 40) d_X3_name_40 ?_
    refine Tr.tp (r5 + 1) ((w32_id (by omega)).trans (by omega)) ?_
    refine Tr.iastS (pc := 41) (P := St Tru ws_X3_name_7 as_X3_name_7 M0) d_X3_name_41 (ty_8 hS.1.1) (by omega) (by omega) (st_8_2 hS (by decide) (by omega) trivial) (fun M41 hS w41 => ?_)
    exact Tr.vret (pc := 42) d_X3_name_42 rfl ⟨hS, rfl⟩

def ws_X5_beginNamed_6_w3 : List (Int × Int) := [(6, 0), (6, 1), (6, 5), (8, 2)]
def as_X5_beginNamed_6_w3 : List Int := [14]
def q_X5_beginNamed_6_w3 (M0 M' : Mem) (r : Option PV) : Prop := St Tru ws_X5_beginNamed_6_w3 as_X5_beginNamed_6_w3 M0 M' ∧ ∃ v : Int, r = some (0, v) ∧ 0 ≤ v ∧ v ≤ 1
set_option maxRecDepth 100000 in
set_option maxHeartbeats 4000000 in
theorem sp_X5_beginNamed_6_w3 {l : Launch} {K : EC} {M0 : Mem} {xq : Int} (hI : In Tru M0) (hE : e_all K xq) (en_6_2 : rd M0 6 2 = 2) (en_6_3 : rd M0 6 3 = 7) (a1 : Int) (ha1 : 2 ≤ a1 ∧ a1 ≤ 2)  : Tr l K 1 mX5_beginNamed 0 [(0, (2, 6)), (1, (0, a1))] [] M0 (q_X5_beginNamed_6_w3 M0) := by
  have hS : St Tru ws_X5_beginNamed_6_w3 as_X5_beginNamed_6_w3 M0 M0 := St.rf hI
  refine Tr.aload_n (pc := 0) (i := 0) d_X5_beginNamed_0 rfl rfl ?_
  refine Tr.getf (pc := 1) d_X5_beginNamed_1 f_5_22 (by decide) (by decide) (ty_6 hS.1.1) ?_
  refine Tr.tp 7 ((St.kp hS (by decide) (by decide) (by decide)).trans en_6_3) ?_
  refine Tr.iload_n (pc := 4) (i := 1) d_X5_beginNamed_4 rfl rfl ?_
  refine Tr.tp 2 (by omega) ?_
  refine Tr.callV (pc := 5) (as := [_]) d_X5_beginNamed_5 s_5_126 ok_X3_isFull rfl rfl (Nat.le_of_ble_eq_true rfl) (Nat.le_of_ble_eq_true rfl) (by decide) (ty_7 hS.1.1) ?_
  refine Tr.imp (Tr.deep (by decide) (sp_X3_isFull_7 hS.1 hE 2 (by omega))) ?_
  rintro M5 _ ⟨h5, r5, rfl, lr5, ur5⟩
  have hS := St.tr hS h5 (by decide) (by decide)
  refine Tr.sc [(0, r5)] rfl ?_
  refine Tr.if_eq (pc := 8) (tgt := 17) d_X5_beginNamed_8 rfl (fun c8 => ?_) (fun c8 => ?_)
  · refine Tr.aload_n (pc := 17) (i := 0) d_X5_beginNamed_17 rfl rfl ?_
    refine Tr.callV (pc := 18) (as := []) d_X5_beginNamed_18 s_5_74 ok_X5_goOn rfl rfl (Nat.le_of_ble_eq_true rfl) (Nat.le_of_ble_eq_true rfl) (by decide) (ty_6 hS.1.1) ?_
    refine Tr.imp (Tr.deep (by decide) (sp_X5_goOn_6 hS.1 )) ?_
    rintro M18 _ ⟨h18, r18, rfl, lr18, ur18⟩
    have hS := St.tr hS h18 (by decide) (by decide)
    refine Tr.sc [(0, r18)] rfl ?_
    refine Tr.pop (pc := 21) d_X5_beginNamed_21 ne01 ?_
    refine Tr.aload_n (pc := 22) (i := 0) d_X5_beginNamed_22 rfl rfl ?_
    refine Tr.getf (pc := 23) d_X5_beginNamed_23 f_5_18 (by decide) (by decide) (ty_6 hS.1.1) ?_
    refine Tr.tp 2 ((St.kp hS (by decide) (by decide) (by decide)).trans en_6_2) ?_
    refine Tr.getf (pc := 26) d_X5_beginNamed_26 f_5_50 (by decide) (by decide) (ty_2 hS.1.1) ?_
    refine Tr.tp 3 (fx_2_0 hS.1.1) ?_
    refine Tr.aload_n (pc := 29) (i := 0) d_X5_beginNamed_29 rfl rfl ?_
    refine Tr.getf (pc := 30) d_X5_beginNamed_30 f_5_36 (by decide) (by decide) (ty_6 hS.1.1) ?_
    refine Tr.gen (P := fun v => 0 ≤ v ∧ v ≤ 900) (ir_6_5 hS.1.2.1) (fun r30 er30 br30 => ?_)
    refine Tr.iald (pc := 33) d_X5_beginNamed_33 (ty_3 hS.1.1) (by omega) (by omega) ?_
    refine Tr.gen (P := fun v => (-2147483648) ≤ v ∧ v ≤ 2147483647) (ar_3 hS.1.2.1 _) (fun r33 er33 br33 => ?_)
    refine Tr.iconst (pc := 34) d_X5_beginNamed_34 (by decide) ?_
    refine Tr.icmp_eq (pc := 35) (tgt := 44) d_X5_beginNamed_35 rfl (fun c35 => ?_) (fun c35 => ?_)
    · refine Tr.aload_n (pc := 44) (i := 0) d_X5_beginNamed_44 rfl rfl ?_
      refine Tr.getf (pc := 45) d_X5_beginNamed_45 f_5_22 (by decide) (by decide) (ty_6 hS.1.1) ?_
      refine Tr.tp 7 ((St.kp hS (by decide) (by decide) (by decide)).trans en_6_3) ?_
      refine Tr.aload_n (pc := 48) (i := 0) d_X5_beginNamed_48 rfl rfl ?_
      refine Tr.getf (pc := 49) d_X5_beginNamed_49 f_5_18 (by decide) (by decide) (ty_6 hS.1.1) ?_
      refine Tr.tp 2 ((St.kp hS (by decide) (by decide) (by decide)).trans en_6_2) ?_
      refine Tr.getf (pc := 52) d_X5_beginNamed_52 f_5_68 (by decide) (by decide) (ty_2 hS.1.1) ?_
      refine Tr.tp 5 (fx_2_2 hS.1.1) ?_
      refine Tr.aload_n (pc := 55) (i := 0) d_X5_beginNamed_55 rfl rfl ?_
      refine Tr.getf (pc := 56) d_X5_beginNamed_56 f_5_36 (by decide) (by decide) (ty_6 hS.1.1) ?_
      refine Tr.tp r30 er30 ?_
      refine Tr.iald (pc := 59) d_X5_beginNamed_59 (ty_5 hS.1.1) (by omega) (by omega) ?_
      refine Tr.gen (P := fun v => (-2147483648) ≤ v ∧ v ≤ 2147483647) (ar_5 hS.1.2.1 _) (fun r59 er59 br59 => ?_)
      refine Tr.callV (pc := 60) (as := [_]) d_X5_beginNamed_60 s_5_91 ok_X3_find rfl rfl (Nat.le_of_ble_eq_true rfl) (Nat.le_of_ble_eq_true rfl) (by decide) (ty_7 hS.1.1) ?_
      refine Tr.imp (Tr.deep (by decide) (sp_X3_find_7 hS.1 r59 (by omega))) ?_
      rintro M60 _ ⟨h60, r60, rfl, lr60, ur60⟩
      have hS := St.tr hS h60 (by decide) (by decide)
      refine Tr.sc [(0, r60)] rfl ?_
      refine Tr.if_lt (pc := 63) (tgt := 72) d_X5_beginNamed_63 rfl (fun c63 => ?_) (fun c63 => ?_)
      · refine Tr.aload_n (pc := 72) (i := 0) d_X5_beginNamed_72 rfl rfl ?_
        refine Tr.getf (pc := 73) d_X5_beginNamed_73 f_5_22 (by decide) (by decide) (ty_6 hS.1.1) ?_
        refine Tr.tp 7 ((St.kp hS (by decide) (by decide) (by decide)).trans en_6_3) ?_
        refine Tr.iload_n (pc := 76) (i := 1) d_X5_beginNamed_76 rfl rfl ?_
        refine Tr.tp 2 (by omega) ?_
        refine Tr.aload_n (pc := 77) (i := 0) d_X5_beginNamed_77 rfl rfl ?_
        refine Tr.getf (pc := 78) d_X5_beginNamed_78 f_5_18 (by decide) (by decide) (ty_6 hS.1.1) ?_
        refine Tr.tp 2 ((St.kp hS (by decide) (by decide) (by decide)).trans en_6_2) ?_
        refine Tr.getf (pc := 81) d_X5_beginNamed_81 f_5_68 (by decide) (by decide) (ty_2 hS.1.1) ?_
        refine Tr.tp 5 (fx_2_2 hS.1.1) ?_
        refine Tr.aload_n (pc := 84) (i := 0) d_X5_beginNamed_84 rfl rfl ?_
        refine Tr.getf (pc := 85) d_X5_beginNamed_85 f_5_36 (by decide) (by decide) (ty_6 hS.1.1) ?_
        refine Tr.tp r30 ((St.kp h60 (by decide) (by decide) (by decide)).trans er30) ?_
        refine Tr.iald (pc := 88) d_X5_beginNamed_88 (ty_5 hS.1.1) (by omega) (by omega) ?_
        refine Tr.tp r59 ((St.ka h60 (by decide) (by decide) (by decide)).trans er59) ?_
        refine Tr.callV (pc := 89) (as := [_, _]) d_X5_beginNamed_89 s_5_129 ok_X3_name rfl rfl (Nat.le_of_ble_eq_true rfl) (Nat.le_of_ble_eq_true rfl) (by decide) (ty_7 hS.1.1) ?_
        refine Tr.imp (Tr.deep (by decide) (sp_X3_name_7 hS.1 hE 2 (by omega) r59 (by omega))) ?_
        rintro M89 _ ⟨h89, rfl⟩
        have hS := St.tr hS h89 (by decide) (by decide)
        refine Tr.sc [] rfl ?_
        refine Tr.aload_n (pc := 92) (i := 0) d_X5_beginNamed_92 rfl rfl ?_
        refine Tr.callV (pc := 93) (as := []) d_X5_beginNamed_93 s_5_74 ok_X5_goOn rfl rfl (Nat.le_of_ble_eq_true rfl) (Nat.le_of_ble_eq_true rfl) (by decide) (ty_6 hS.1.1) ?_
        refine Tr.imp (Tr.deep (by decide) (sp_X5_goOn_6 hS.1 )) ?_
        rintro M93 _ ⟨h93, r93, rfl, lr93, ur93⟩
        have hS := St.tr hS h93 (by decide) (by decide)
        refine Tr.sc [(0, r93)] rfl ?_
        exact Tr.zret (pc := 96) d_X5_beginNamed_96 rfl (by omega) ⟨hS, _, rfl, by omega, by omega⟩
      · refine Tr.aload_n (pc := 66) (i := 0) d_X5_beginNamed_66 rfl rfl ?_
        refine Tr.iconst (pc := 67) d_X5_beginNamed_67 (by decide) ?_
        refine Tr.callV (pc := 68) (as := [_]) d_X5_beginNamed_68 s_5_56 ok_X5_refuse rfl rfl (Nat.le_of_ble_eq_true rfl) (Nat.le_of_ble_eq_true rfl) (by decide) (ty_6 hS.1.1) ?_
        refine Tr.imp (Tr.deep (by decide) (sp_X5_refuse_6 hS.1 ((St.kp hS (by decide) (by decide) (by decide)).trans en_6_2) 2 (by omega))) ?_
        rintro M68 _ ⟨h68, r68, rfl, lr68, ur68⟩
        have hS := St.tr hS h68 (by decide) (by decide)
        refine Tr.sc [(0, r68)] rfl ?_
        exact Tr.zret (pc := 71) d_X5_beginNamed_71 rfl (by omega) ⟨hS, _, rfl, by omega, by omega⟩
    · refine Tr.aload_n (pc := 38) (i := 0) d_X5_beginNamed_38 rfl rfl ?_
      refine Tr.iconst (pc := 39) d_X5_beginNamed_39 (by decide) ?_
      refine Tr.callV (pc := 40) (as := [_]) d_X5_beginNamed_40 s_5_56 ok_X5_refuse rfl rfl (Nat.le_of_ble_eq_true rfl) (Nat.le_of_ble_eq_true rfl) (by decide) (ty_6 hS.1.1) ?_
      refine Tr.imp (Tr.deep (by decide) (sp_X5_refuse_6_w1 hS.1 ((St.kp hS (by decide) (by decide) (by decide)).trans en_6_2) 1 (by omega))) ?_
      rintro M40 _ ⟨h40, r40, rfl, lr40, ur40⟩
      have hS := St.tr hS h40 (by decide) (by decide)
      refine Tr.sc [(0, r40)] rfl ?_
      exact Tr.zret (pc := 43) d_X5_beginNamed_43 rfl (by omega) ⟨hS, _, rfl, by omega, by omega⟩
  · refine Tr.aload_n (pc := 11) (i := 0) d_X5_beginNamed_11 rfl rfl ?_
    refine Tr.iconst (pc := 12) d_X5_beginNamed_12 (by decide) ?_
    refine Tr.callV (pc := 13) (as := [_]) d_X5_beginNamed_13 s_5_56 ok_X5_refuse rfl rfl (Nat.le_of_ble_eq_true rfl) (Nat.le_of_ble_eq_true rfl) (by decide) (ty_6 hS.1.1) ?_
    refine Tr.imp (Tr.deep (by decide) (sp_X5_refuse_6_w2 hS.1 ((St.kp hS (by decide) (by decide) (by decide)).trans en_6_2) 5 (by omega))) ?_
    rintro M13 _ ⟨h13, r13, rfl, lr13, ur13⟩
    have hS := St.tr hS h13 (by decide) (by decide)
    refine Tr.sc [(0, r13)] rfl ?_
    exact Tr.zret (pc := 16) d_X5_beginNamed_16 rfl (by omega) ⟨hS, _, rfl, by omega, by omega⟩

def ws_X3_isFull_7_w1 : List (Int × Int) := []
def as_X3_isFull_7_w1 : List Int := []
def q_X3_isFull_7_w1 (M0 M' : Mem) (r : Option PV) : Prop := St Tru ws_X3_isFull_7_w1 as_X3_isFull_7_w1 M0 M' ∧ ∃ v : Int, r = some (0, v) ∧ 0 ≤ v ∧ v ≤ 1
set_option maxRecDepth 100000 in
set_option maxHeartbeats 4000000 in
theorem sp_X3_isFull_7_w1 {l : Launch} {K : EC} {M0 : Mem} {xq : Int} (hI : In Tru M0) (hE : e_all K xq)  (a1 : Int) (ha1 : 1 ≤ a1 ∧ a1 ≤ 1)  : Tr l K 0 mX3_isFull 0 [(0, (2, 7)), (1, (0, a1))] [] M0 (q_X3_isFull_7_w1 M0) := by
  have hS : St Tru ws_X3_isFull_7_w1 as_X3_isFull_7_w1 M0 M0 := St.rf hI
  refine Tr.aload_n (pc := 0) (i := 0) d_X3_isFull_0 rfl rfl ?_
  refine Tr.getf (pc := 1) d_X3_isFull_1 f_3_11 (by decide) (by decide) (ty_7 hS.1.1) ?_
  refine Tr.tp 8 (fx_7_4 hS.1.1) ?_
  refine Tr.iload_n (pc := 4) (i := 1) d_X3_isFull_4 rfl rfl ?_
  refine Tr.tp 1 (by omega) ?_
  refine Tr.iald (pc := 5) d_X3_isFull_5 (ty_8 hS.1.1) (by omega) (by omega) ?_
  refine Tr.gen (P := fun v => 0 ≤ v ∧ v ≤ 3) (ir_8_1 hS.1.2.1) (fun r5 er5 br5 => ?_)
  refine Tr.gets (pc := 6) d_X3_isFull_6 sl_3_62 hE.2.2.2.1 ?_
  refine Tr.iload_n (pc := 9) (i := 1) d_X3_isFull_9 rfl rfl ?_
  refine Tr.tp 1 (by omega) ?_
  refine Tr.xld (pc := 10) (i := 1) d_X3_isFull_10 rfl hE.1 (by omega) (by omega) ?_
  refine Tr.tp 3 (by decide) ?_
  refine Tr.icmp_lt (pc := 11) (tgt := 18) d_X3_isFull_11 rfl (fun c11 => ?_) (fun c11 => ?_)
  · refine Tr.iconst (pc := 18) d_X3_isFull_18 (by decide) ?_
    exact Tr.zret (pc := 19) d_X3_isFull_19 rfl (by omega) ⟨hS, _, rfl, by omega, by omega⟩
  · refine Tr.iconst (pc := 14) d_X3_isFull_14 (by decide) ?_
    refine Tr.goto (pc := 15) (tgt := 19) d_X3_isFull_15 rfl ?_
    exact Tr.zret (pc := 19) d_X3_isFull_19 rfl (by omega) ⟨hS, _, rfl, by omega, by omega⟩

def ws_X3_name_7_w1 : List (Int × Int) := [(8, 1)]
def as_X3_name_7_w1 : List Int := [14]
def q_X3_name_7_w1 (M0 M' : Mem) (r : Option PV) : Prop := St Tru ws_X3_name_7_w1 as_X3_name_7_w1 M0 M' ∧ r = none
set_option maxRecDepth 100000 in
set_option maxHeartbeats 4000000 in
theorem sp_X3_name_7_w1 {l : Launch} {K : EC} {M0 : Mem} {xq : Int} (hI : In Tru M0) (hE : e_all K xq)  (a1 : Int) (ha1 : 1 ≤ a1 ∧ a1 ≤ 1) (a2 : Int) (ha2 : (-2147483648) ≤ a2 ∧ a2 ≤ 2147483647)  : Tr l K 0 mX3_name 0 [(0, (2, 7)), (1, (0, a1)), (2, (0, a2))] [] M0 (q_X3_name_7_w1 M0) := by
  have hS : St Tru ws_X3_name_7_w1 as_X3_name_7_w1 M0 M0 := St.rf hI
  refine Tr.aload_n (pc := 0) (i := 0) d_X3_name_0 rfl rfl ?_
  refine Tr.getf (pc := 1) d_X3_name_1 f_3_11 (by decide) (by decide) (ty_7 hS.1.1) ?_
  refine Tr.tp 8 (fx_7_4 hS.1.1) ?_
  refine Tr.iload_n (pc := 4) (i := 1) d_X3_name_4 rfl rfl ?_
  refine Tr.tp 1 (by omega) ?_
  refine Tr.iald (pc := 5) d_X3_name_5 (ty_8 hS.1.1) (by omega) (by omega) ?_
  refine Tr.gen (P := fun v => 0 ≤ v ∧ v ≤ 3) (ir_8_1 hS.1.2.1) (fun r5 er5 br5 => ?_)
  refine Tr.gets (pc := 6) d_X3_name_6 sl_3_62 hE.2.2.2.1 ?_
  refine Tr.iload_n (pc := 9) (i := 1) d_X3_name_9 rfl rfl ?_
  refine Tr.tp 1 (by omega) ?_
  refine Tr.xld (pc := 10) (i := 1) d_X3_name_10 rfl hE.1 (by omega) (by omega) ?_
  refine Tr.tp 3 (by decide) ?_
  refine Tr.icmp_ge (pc := 11) (tgt := 42) d_X3_name_11 rfl (fun c11 => ?_) (fun c11 => ?_)
  · exact Tr.vret (pc := 42) d_X3_name_42 rfl ⟨hS, rfl⟩
  · refine Tr.aload_n (pc := 14) (i := 0) d_X3_name_14 rfl rfl ?_
    refine Tr.getf (pc := 15) d_X3_name_15 f_3_30 (by decide) (by decide) (ty_7 hS.1.1) ?_
    refine Tr.tp 14 (fx_7_10 hS.1.1) ?_
    refine Tr.gets (pc := 18) d_X3_name_18 sl_3_65 hE.2.2.2.2.1 ?_
    refine Tr.iload_n (pc := 21) (i := 1) d_X3_name_21 rfl rfl ?_
    refine Tr.tp 1 (by omega) ?_
    refine Tr.xld (pc := 22) (i := 2) d_X3_name_22 rfl hE.2.1 (by omega) (by omega) ?_
    refine Tr.tp 6 (by decide) ?_
    refine Tr.aload_n (pc := 23) (i := 0) d_X3_name_23 rfl rfl ?_
    refine Tr.getf (pc := 24) d_X3_name_24 f_3_11 (by decide) (by decide) (ty_7 hS.1.1) ?_
    refine Tr.tp 8 (fx_7_4 hS.1.1) ?_
    refine Tr.iload_n (pc := 27) (i := 1) d_X3_name_27 rfl rfl ?_
    refine Tr.tp 1 (by omega) ?_
    refine Tr.iald (pc := 28) d_X3_name_28 (ty_8 hS.1.1) (by omega) (by omega) ?_
    refine Tr.tp r5 er5 ?_
    refine Tr.iadd (pc := 29) d_X3_name_29 ?_
    refine Tr.tp (r5 + 6) ((w32_id (by omega)).trans (by omega)) ?_
    refine Tr.iload_n (pc := 30) (i := 2) d_X3_name_30 rfl rfl ?_
    refine Tr.iastS (pc := 31) (P := St Tru ws_X3_name_7_w1 as_X3_name_7_w1 M0) d_X3_name_31 (ty_14 hS.1.1) (by omega) (by omega) (sa_14 hS (by decide) (by omega) trivial) (fun M31 hS w31 => ?_)
    refine Tr.aload_n (pc := 32) (i := 0) d_X3_name_32 rfl rfl ?_
    refine Tr.getf (pc := 33) d_X3_name_33 f_3_11 (by decide) (by decide) (ty_7 hS.1.1) ?_
    refine Tr.tp 8 (fx_7_4 hS.1.1) ?_
    refine Tr.iload_n (pc := 36) (i := 1) d_X3_name_36 rfl rfl ?_
    refine Tr.tp 1 (by omega) ?_
    refine Tr.dup2 (pc := 37) d_X3_name_37 ne01 ne21 ?_
    refine Tr.iald (pc := 38) d_X3_name_38 (ty_8 hS.1.1) (by omega) (by omega) ?_
    refine Tr.tp r5 ((Wr.b w31 rfl).trans er5) ?_
    refine Tr.iconst (pc := 39) d_X3_name_39 (by decide) ?_
    refine Tr.iadd (pc := 40) d_X3_name_40 ?_
    refine Tr.tp (r5 + 1) ((w32_id (by omega)).trans (by omega)) ?_
    refine Tr.iastS (pc := 41) (P := St Tru ws_X3_name_7_w1 as_X3_name_7_w1 M0) d_X3_name_41 (ty_8 hS.1.1) (by omega) (by omega) (st_8_1 hS (by decide) (by omega) trivial) (fun M41 hS w41 => ?_)
    exact Tr.vret (pc := 42) d_X3_name_42 rfl ⟨hS, rfl⟩

def ws_X5_beginNamed_6_w4 : List (Int × Int) := [(6, 0), (6, 1), (6, 5), (8, 1)]
def as_X5_beginNamed_6_w4 : List Int := [14]
def q_X5_beginNamed_6_w4 (M0 M' : Mem) (r : Option PV) : Prop := St Tru ws_X5_beginNamed_6_w4 as_X5_beginNamed_6_w4 M0 M' ∧ ∃ v : Int, r = some (0, v) ∧ 0 ≤ v ∧ v ≤ 1
set_option maxRecDepth 100000 in
set_option maxHeartbeats 4000000 in
theorem sp_X5_beginNamed_6_w4 {l : Launch} {K : EC} {M0 : Mem} {xq : Int} (hI : In Tru M0) (hE : e_all K xq) (en_6_2 : rd M0 6 2 = 2) (en_6_3 : rd M0 6 3 = 7) (a1 : Int) (ha1 : 1 ≤ a1 ∧ a1 ≤ 1)  : Tr l K 1 mX5_beginNamed 0 [(0, (2, 6)), (1, (0, a1))] [] M0 (q_X5_beginNamed_6_w4 M0) := by
  have hS : St Tru ws_X5_beginNamed_6_w4 as_X5_beginNamed_6_w4 M0 M0 := St.rf hI
  refine Tr.aload_n (pc := 0) (i := 0) d_X5_beginNamed_0 rfl rfl ?_
  refine Tr.getf (pc := 1) d_X5_beginNamed_1 f_5_22 (by decide) (by decide) (ty_6 hS.1.1) ?_
  refine Tr.tp 7 ((St.kp hS (by decide) (by decide) (by decide)).trans en_6_3) ?_
  refine Tr.iload_n (pc := 4) (i := 1) d_X5_beginNamed_4 rfl rfl ?_
  refine Tr.tp 1 (by omega) ?_
  refine Tr.callV (pc := 5) (as := [_]) d_X5_beginNamed_5 s_5_126 ok_X3_isFull rfl rfl (Nat.le_of_ble_eq_true rfl) (Nat.le_of_ble_eq_true rfl) (by decide) (ty_7 hS.1.1) ?_
  refine Tr.imp (Tr.deep (by decide) (sp_X3_isFull_7_w1 hS.1 hE 1 (by omega))) ?_
  rintro M5 _ ⟨h5, r5, rfl, lr5, ur5⟩
  have hS := St.tr hS h5 (by decide) (by decide)
  refine Tr.sc [(0, r5)] rfl ?_
  refine Tr.if_eq (pc := 8) (tgt := 17) d_X5_beginNamed_8 rfl (fun c8 => ?_) (fun c8 => ?_)
  · refine Tr.aload_n (pc := 17) (i := 0) d_X5_beginNamed_17 rfl rfl ?_
    refine Tr.callV (pc := 18) (as := []) d_X5_beginNamed_18 s_5_74 ok_X5_goOn rfl rfl (Nat.le_of_ble_eq_true rfl) (Nat.le_of_ble_eq_true rfl) (by decide) (ty_6 hS.1.1) ?_
    refine Tr.imp (Tr.deep (by decide) (sp_X5_goOn_6 hS.1 )) ?_
    rintro M18 _ ⟨h18, r18, rfl, lr18, ur18⟩
    have hS := St.tr hS h18 (by decide) (by decide)
    refine Tr.sc [(0, r18)] rfl ?_
    refine Tr.pop (pc := 21) d_X5_beginNamed_21 ne01 ?_
    refine Tr.aload_n (pc := 22) (i := 0) d_X5_beginNamed_22 rfl rfl ?_
    refine Tr.getf (pc := 23) d_X5_beginNamed_23 f_5_18 (by decide) (by decide) (ty_6 hS.1.1) ?_
    refine Tr.tp 2 ((St.kp hS (by decide) (by decide) (by decide)).trans en_6_2) ?_
    refine Tr.getf (pc := 26) d_X5_beginNamed_26 f_5_50 (by decide) (by decide) (ty_2 hS.1.1) ?_
    refine Tr.tp 3 (fx_2_0 hS.1.1) ?_
    refine Tr.aload_n (pc := 29) (i := 0) d_X5_beginNamed_29 rfl rfl ?_
    refine Tr.getf (pc := 30) d_X5_beginNamed_30 f_5_36 (by decide) (by decide) (ty_6 hS.1.1) ?_
    refine Tr.gen (P := fun v => 0 ≤ v ∧ v ≤ 900) (ir_6_5 hS.1.2.1) (fun r30 er30 br30 => ?_)
    refine Tr.iald (pc := 33) d_X5_beginNamed_33 (ty_3 hS.1.1) (by omega) (by omega) ?_
    refine Tr.gen (P := fun v => (-2147483648) ≤ v ∧ v ≤ 2147483647) (ar_3 hS.1.2.1 _) (fun r33 er33 br33 => ?_)
    refine Tr.iconst (pc := 34) d_X5_beginNamed_34 (by decide) ?_
    refine Tr.icmp_eq (pc := 35) (tgt := 44) d_X5_beginNamed_35 rfl (fun c35 => ?_) (fun c35 => ?_)
    · refine Tr.aload_n (pc := 44) (i := 0) d_X5_beginNamed_44 rfl rfl ?_
      refine Tr.getf (pc := 45) d_X5_beginNamed_45 f_5_22 (by decide) (by decide) (ty_6 hS.1.1) ?_
      refine Tr.tp 7 ((St.kp hS (by decide) (by decide) (by decide)).trans en_6_3) ?_
      refine Tr.aload_n (pc := 48) (i := 0) d_X5_beginNamed_48 rfl rfl ?_
      refine Tr.getf (pc := 49) d_X5_beginNamed_49 f_5_18 (by decide) (by decide) (ty_6 hS.1.1) ?_
      refine Tr.tp 2 ((St.kp hS (by decide) (by decide) (by decide)).trans en_6_2) ?_
      refine Tr.getf (pc := 52) d_X5_beginNamed_52 f_5_68 (by decide) (by decide) (ty_2 hS.1.1) ?_
      refine Tr.tp 5 (fx_2_2 hS.1.1) ?_
      refine Tr.aload_n (pc := 55) (i := 0) d_X5_beginNamed_55 rfl rfl ?_
      refine Tr.getf (pc := 56) d_X5_beginNamed_56 f_5_36 (by decide) (by decide) (ty_6 hS.1.1) ?_
      refine Tr.tp r30 er30 ?_
      refine Tr.iald (pc := 59) d_X5_beginNamed_59 (ty_5 hS.1.1) (by omega) (by omega) ?_
      refine Tr.gen (P := fun v => (-2147483648) ≤ v ∧ v ≤ 2147483647) (ar_5 hS.1.2.1 _) (fun r59 er59 br59 => ?_)
      refine Tr.callV (pc := 60) (as := [_]) d_X5_beginNamed_60 s_5_91 ok_X3_find rfl rfl (Nat.le_of_ble_eq_true rfl) (Nat.le_of_ble_eq_true rfl) (by decide) (ty_7 hS.1.1) ?_
      refine Tr.imp (Tr.deep (by decide) (sp_X3_find_7 hS.1 r59 (by omega))) ?_
      rintro M60 _ ⟨h60, r60, rfl, lr60, ur60⟩
      have hS := St.tr hS h60 (by decide) (by decide)
      refine Tr.sc [(0, r60)] rfl ?_
      refine Tr.if_lt (pc := 63) (tgt := 72) d_X5_beginNamed_63 rfl (fun c63 => ?_) (fun c63 => ?_)
      · refine Tr.aload_n (pc := 72) (i := 0) d_X5_beginNamed_72 rfl rfl ?_
        refine Tr.getf (pc := 73) d_X5_beginNamed_73 f_5_22 (by decide) (by decide) (ty_6 hS.1.1) ?_
        refine Tr.tp 7 ((St.kp hS (by decide) (by decide) (by decide)).trans en_6_3) ?_
        refine Tr.iload_n (pc := 76) (i := 1) d_X5_beginNamed_76 rfl rfl ?_
        refine Tr.tp 1 (by omega) ?_
        refine Tr.aload_n (pc := 77) (i := 0) d_X5_beginNamed_77 rfl rfl ?_
        refine Tr.getf (pc := 78) d_X5_beginNamed_78 f_5_18 (by decide) (by decide) (ty_6 hS.1.1) ?_
        refine Tr.tp 2 ((St.kp hS (by decide) (by decide) (by decide)).trans en_6_2) ?_
        refine Tr.getf (pc := 81) d_X5_beginNamed_81 f_5_68 (by decide) (by decide) (ty_2 hS.1.1) ?_
        refine Tr.tp 5 (fx_2_2 hS.1.1) ?_
        refine Tr.aload_n (pc := 84) (i := 0) d_X5_beginNamed_84 rfl rfl ?_
        refine Tr.getf (pc := 85) d_X5_beginNamed_85 f_5_36 (by decide) (by decide) (ty_6 hS.1.1) ?_
        refine Tr.tp r30 ((St.kp h60 (by decide) (by decide) (by decide)).trans er30) ?_
        refine Tr.iald (pc := 88) d_X5_beginNamed_88 (ty_5 hS.1.1) (by omega) (by omega) ?_
        refine Tr.tp r59 ((St.ka h60 (by decide) (by decide) (by decide)).trans er59) ?_
        refine Tr.callV (pc := 89) (as := [_, _]) d_X5_beginNamed_89 s_5_129 ok_X3_name rfl rfl (Nat.le_of_ble_eq_true rfl) (Nat.le_of_ble_eq_true rfl) (by decide) (ty_7 hS.1.1) ?_
        refine Tr.imp (Tr.deep (by decide) (sp_X3_name_7_w1 hS.1 hE 1 (by omega) r59 (by omega))) ?_
        rintro M89 _ ⟨h89, rfl⟩
        have hS := St.tr hS h89 (by decide) (by decide)
        refine Tr.sc [] rfl ?_
        refine Tr.aload_n (pc := 92) (i := 0) d_X5_beginNamed_92 rfl rfl ?_
        refine Tr.callV (pc := 93) (as := []) d_X5_beginNamed_93 s_5_74 ok_X5_goOn rfl rfl (Nat.le_of_ble_eq_true rfl) (Nat.le_of_ble_eq_true rfl) (by decide) (ty_6 hS.1.1) ?_
        refine Tr.imp (Tr.deep (by decide) (sp_X5_goOn_6 hS.1 )) ?_
        rintro M93 _ ⟨h93, r93, rfl, lr93, ur93⟩
        have hS := St.tr hS h93 (by decide) (by decide)
        refine Tr.sc [(0, r93)] rfl ?_
        exact Tr.zret (pc := 96) d_X5_beginNamed_96 rfl (by omega) ⟨hS, _, rfl, by omega, by omega⟩
      · refine Tr.aload_n (pc := 66) (i := 0) d_X5_beginNamed_66 rfl rfl ?_
        refine Tr.iconst (pc := 67) d_X5_beginNamed_67 (by decide) ?_
        refine Tr.callV (pc := 68) (as := [_]) d_X5_beginNamed_68 s_5_56 ok_X5_refuse rfl rfl (Nat.le_of_ble_eq_true rfl) (Nat.le_of_ble_eq_true rfl) (by decide) (ty_6 hS.1.1) ?_
        refine Tr.imp (Tr.deep (by decide) (sp_X5_refuse_6 hS.1 ((St.kp hS (by decide) (by decide) (by decide)).trans en_6_2) 2 (by omega))) ?_
        rintro M68 _ ⟨h68, r68, rfl, lr68, ur68⟩
        have hS := St.tr hS h68 (by decide) (by decide)
        refine Tr.sc [(0, r68)] rfl ?_
        exact Tr.zret (pc := 71) d_X5_beginNamed_71 rfl (by omega) ⟨hS, _, rfl, by omega, by omega⟩
    · refine Tr.aload_n (pc := 38) (i := 0) d_X5_beginNamed_38 rfl rfl ?_
      refine Tr.iconst (pc := 39) d_X5_beginNamed_39 (by decide) ?_
      refine Tr.callV (pc := 40) (as := [_]) d_X5_beginNamed_40 s_5_56 ok_X5_refuse rfl rfl (Nat.le_of_ble_eq_true rfl) (Nat.le_of_ble_eq_true rfl) (by decide) (ty_6 hS.1.1) ?_
      refine Tr.imp (Tr.deep (by decide) (sp_X5_refuse_6_w1 hS.1 ((St.kp hS (by decide) (by decide) (by decide)).trans en_6_2) 1 (by omega))) ?_
      rintro M40 _ ⟨h40, r40, rfl, lr40, ur40⟩
      have hS := St.tr hS h40 (by decide) (by decide)
      refine Tr.sc [(0, r40)] rfl ?_
      exact Tr.zret (pc := 43) d_X5_beginNamed_43 rfl (by omega) ⟨hS, _, rfl, by omega, by omega⟩
  · refine Tr.aload_n (pc := 11) (i := 0) d_X5_beginNamed_11 rfl rfl ?_
    refine Tr.iconst (pc := 12) d_X5_beginNamed_12 (by decide) ?_
    refine Tr.callV (pc := 13) (as := [_]) d_X5_beginNamed_13 s_5_56 ok_X5_refuse rfl rfl (Nat.le_of_ble_eq_true rfl) (Nat.le_of_ble_eq_true rfl) (by decide) (ty_6 hS.1.1) ?_
    refine Tr.imp (Tr.deep (by decide) (sp_X5_refuse_6_w2 hS.1 ((St.kp hS (by decide) (by decide) (by decide)).trans en_6_2) 5 (by omega))) ?_
    rintro M13 _ ⟨h13, r13, rfl, lr13, ur13⟩
    have hS := St.tr hS h13 (by decide) (by decide)
    refine Tr.sc [(0, r13)] rfl ?_
    exact Tr.zret (pc := 16) d_X5_beginNamed_16 rfl (by omega) ⟨hS, _, rfl, by omega, by omega⟩

def ws_X5_input_6_w1 : List (Int × Int) := [(6, 0), (6, 1), (6, 5), (8, 1)]
def as_X5_input_6_w1 : List Int := [12, 13, 14]
def q_X5_input_6_w1 (M0 M' : Mem) (r : Option PV) : Prop := St Tru ws_X5_input_6_w1 as_X5_input_6_w1 M0 M' ∧ ∃ v : Int, r = some (0, v) ∧ 0 ≤ v ∧ v ≤ 1
set_option maxRecDepth 100000 in
set_option maxHeartbeats 4000000 in
theorem sp_X5_input_6_w1 {l : Launch} {K : EC} {M0 : Mem} {xq : Int} (hI : In Tru M0) (hE : e_all K xq) (en_6_2 : rd M0 6 2 = 2) (en_6_3 : rd M0 6 3 = 7)   : Tr l K 2 mX5_input 0 [(0, (2, 6))] [] M0 (q_X5_input_6_w1 M0) := by
  have hS : St Tru ws_X5_input_6_w1 as_X5_input_6_w1 M0 M0 := St.rf hI
  refine Tr.aload_n (pc := 0) (i := 0) d_X5_input_0 rfl rfl ?_
  refine Tr.getf (pc := 1) d_X5_input_1 f_5_22 (by decide) (by decide) (ty_6 hS.1.1) ?_
  refine Tr.tp 7 ((St.kp hS (by decide) (by decide) (by decide)).trans en_6_3) ?_
  refine Tr.getf (pc := 4) d_X5_input_4 f_5_133 (by decide) (by decide) (ty_7 hS.1.1) ?_
  refine Tr.tp 8 (fx_7_4 hS.1.1) ?_
  refine Tr.iconst (pc := 7) d_X5_input_7 (by decide) ?_
  refine Tr.iald (pc := 8) d_X5_input_8 (ty_8 hS.1.1) (by omega) (by omega) ?_
  refine Tr.gen (P := fun v => 0 ≤ v ∧ v ≤ 3) (ir_8_1 hS.1.2.1) (fun r8 er8 br8 => ?_)
  refine Tr.istore_n (pc := 9) (i := 1) (ls2 := [(1, (0, r8)), (0, (2, 6))]) d_X5_input_9 rfl (by decide) rfl ?_
  refine Tr.aload_n (pc := 10) (i := 0) d_X5_input_10 rfl rfl ?_
  refine Tr.iconst (pc := 11) d_X5_input_11 (by decide) ?_
  refine Tr.callV (pc := 12) (as := [_]) d_X5_input_12 s_5_112 ok_X5_beginNamed rfl rfl (Nat.le_of_ble_eq_true rfl) (Nat.le_of_ble_eq_true rfl) (by decide) (ty_6 hS.1.1) ?_
  refine Tr.imp (Tr.deep (by decide) (sp_X5_beginNamed_6_w4 hS.1 hE ((St.kp hS (by decide) (by decide) (by decide)).trans en_6_2) ((St.kp hS (by decide) (by decide) (by decide)).trans en_6_3) 1 (by omega))) ?_
  rintro M12 _ ⟨h12, r12, rfl, lr12, ur12⟩
  have hS := St.tr hS h12 (by decide) (by decide)
  refine Tr.sc [(0, r12)] rfl ?_
  refine Tr.if_eq (pc := 15) (tgt := 23) d_X5_input_15 rfl (fun c15 => ?_) (fun c15 => ?_)
  · refine Tr.iconst (pc := 23) d_X5_input_23 (by decide) ?_
    exact Tr.zret (pc := 24) d_X5_input_24 rfl (by omega) ⟨hS, _, rfl, by omega, by omega⟩
  · refine Tr.iload_n (pc := 18) (i := 1) d_X5_input_18 rfl rfl ?_
    refine Tr.iconst (pc := 19) d_X5_input_19 (by decide) ?_
    refine Tr.icmp_lt (pc := 20) (tgt := 25) d_X5_input_20 rfl (fun c20 => ?_) (fun c20 => ?_)
    · refine Tr.aload_n (pc := 25) (i := 0) d_X5_input_25 rfl rfl ?_
      refine Tr.iconst (pc := 26) d_X5_input_26 (by decide) ?_
      refine Tr.bipush (pc := 27) d_X5_input_27 rfl (by decide) ?_
      refine Tr.callV (pc := 29) (as := [_, _]) d_X5_input_29 s_5_87 ok_X5_takeNumber rfl rfl (Nat.le_of_ble_eq_true rfl) (Nat.le_of_ble_eq_true rfl) (by decide) (ty_6 hS.1.1) ?_
      refine Tr.imp (Tr.deep (by decide) (sp_X5_takeNumber_6 hS.1 ((St.kp hS (by decide) (by decide) (by decide)).trans en_6_2) 0 (by omega) 99 (by omega))) ?_
      rintro M29 _ ⟨h29, r29, rfl, lr29, ur29⟩
      have hS := St.tr hS h29 (by decide) (by decide)
      refine Tr.sc [(0, r29)] rfl ?_
      refine Tr.istore_n (pc := 32) (i := 2) (ls2 := [(2, (0, r29)), (1, (0, r8)), (0, (2, 6))]) d_X5_input_32 rfl (by decide) rfl ?_
      refine Tr.iload_n (pc := 33) (i := 2) d_X5_input_33 rfl rfl ?_
      have J48 : ∀ (M : Mem) (q48_0 : Int), St Tru ws_X5_input_6_w1 as_X5_input_6_w1 M0 M → ((-1) ≤ q48_0 ∧ q48_0 ≤ 99) → Tr l K 2 mX5_input 48 [(0, (2, 6)), (1, (0, r8)), (2, (0, r29))] [(0, q48_0)] M (q_X5_input_6_w1 M0) := by
        intro M q48_0 hS bq48_0 
        refine Tr.istore_n (pc := 48) (i := 3) (ls2 := [(3, (0, q48_0)), (0, (2, 6)), (1, (0, r8)), (2, (0, r29))]) d_X5_input_48 rfl (by decide) rfl ?_
        refine Tr.iload_n (pc := 49) (i := 3) d_X5_input_49 rfl rfl ?_
        refine Tr.if_lt (pc := 50) (tgt := 62) d_X5_input_50 rfl (fun c50 => ?_) (fun c50 => ?_)
        · refine Tr.iconst (pc := 62) d_X5_input_62 (by decide) ?_
          exact Tr.zret (pc := 63) d_X5_input_63 rfl (by omega) ⟨hS, _, rfl, by omega, by omega⟩
        · refine Tr.aload_n (pc := 53) (i := 0) d_X5_input_53 rfl rfl ?_
          refine Tr.bipush (pc := 54) d_X5_input_54 rfl (by decide) ?_
          refine Tr.callV (pc := 56) (as := [_]) d_X5_input_56 s_5_81 ok_X5_takeSign rfl rfl (Nat.le_of_ble_eq_true rfl) (Nat.le_of_ble_eq_true rfl) (by decide) (ty_6 hS.1.1) ?_
          refine Tr.imp (Tr.deep (by decide) (sp_X5_takeSign_6 hS.1 ((St.kp hS (by decide) (by decide) (by decide)).trans en_6_2) 59 (by omega))) ?_
          rintro M56 _ ⟨h56, r56, rfl, lr56, ur56⟩
          have hS := St.tr hS h56 (by decide) (by decide)
          refine Tr.sc [(0, r56)] rfl ?_
          refine Tr.if_ne (pc := 59) (tgt := 64) d_X5_input_59 rfl (fun c59 => ?_) (fun c59 => ?_)
          · refine Tr.aload_n (pc := 64) (i := 0) d_X5_input_64 rfl rfl ?_
            refine Tr.getf (pc := 65) d_X5_input_65 f_5_22 (by decide) (by decide) (ty_6 hS.1.1) ?_
            refine Tr.tp 7 ((St.kp hS (by decide) (by decide) (by decide)).trans en_6_3) ?_
            refine Tr.getf (pc := 68) d_X5_input_68 f_5_148 (by decide) (by decide) (ty_7 hS.1.1) ?_
            refine Tr.tp 12 (fx_7_8 hS.1.1) ?_
            refine Tr.iload_n (pc := 71) (i := 1) d_X5_input_71 rfl rfl ?_
            refine Tr.iload_n (pc := 72) (i := 2) d_X5_input_72 rfl rfl ?_
            refine Tr.iastS (pc := 73) (P := St Tru ws_X5_input_6_w1 as_X5_input_6_w1 M0) d_X5_input_73 (ty_12 hS.1.1) (by omega) (by omega) (sa_12 hS (by decide) (by omega) trivial) (fun M73 hS w73 => ?_)
            refine Tr.aload_n (pc := 74) (i := 0) d_X5_input_74 rfl rfl ?_
            refine Tr.getf (pc := 75) d_X5_input_75 f_5_22 (by decide) (by decide) (ty_6 hS.1.1) ?_
            refine Tr.tp 7 ((St.kp hS (by decide) (by decide) (by decide)).trans en_6_3) ?_
            refine Tr.getf (pc := 78) d_X5_input_78 f_5_151 (by decide) (by decide) (ty_7 hS.1.1) ?_
            refine Tr.tp 13 (fx_7_9 hS.1.1) ?_
            refine Tr.iload_n (pc := 81) (i := 1) d_X5_input_81 rfl rfl ?_
            refine Tr.iload_n (pc := 82) (i := 3) d_X5_input_82 rfl rfl ?_
            refine Tr.iastS (pc := 83) (P := St Tru ws_X5_input_6_w1 as_X5_input_6_w1 M0) d_X5_input_83 (ty_13 hS.1.1) (by omega) (by omega) (sa_13 hS (by decide) (by omega) trivial) (fun M83 hS w83 => ?_)
            refine Tr.iconst (pc := 84) d_X5_input_84 (by decide) ?_
            exact Tr.zret (pc := 85) d_X5_input_85 rfl (by omega) ⟨hS, _, rfl, by omega, by omega⟩
          · refine Tr.iconst (pc := 62) d_X5_input_62 (by decide) ?_
            exact Tr.zret (pc := 63) d_X5_input_63 rfl (by omega) ⟨hS, _, rfl, by omega, by omega⟩
      refine Tr.if_ge (pc := 34) (tgt := 41) d_X5_input_34 rfl (fun c34 => ?_) (fun c34 => ?_)
      · refine Tr.aload_n (pc := 41) (i := 0) d_X5_input_41 rfl rfl ?_
        refine Tr.iload_n (pc := 42) (i := 2) d_X5_input_42 rfl rfl ?_
        refine Tr.bipush (pc := 43) d_X5_input_43 rfl (by decide) ?_
        refine Tr.callV (pc := 45) (as := [_, _]) d_X5_input_45 s_5_87 ok_X5_takeNumber rfl rfl (Nat.le_of_ble_eq_true rfl) (Nat.le_of_ble_eq_true rfl) (by decide) (ty_6 hS.1.1) ?_
        refine Tr.imp (Tr.deep (by decide) (sp_X5_takeNumber_6_w1 hS.1 ((St.kp hS (by decide) (by decide) (by decide)).trans en_6_2) r29 (by omega) 99 (by omega))) ?_
        rintro M45 _ ⟨h45, r45, rfl, lr45, ur45⟩
        have hS := St.tr hS h45 (by decide) (by decide)
        refine Tr.sc [(0, r45)] rfl ?_
        refine Tr.pick [2, 1, 0] (ls2 := [(0, (2, 6)), (1, (0, r8)), (2, (0, r29))]) rfl ?_
        exact J48 _ _ hS (by omega)
      · refine Tr.iconst (pc := 37) d_X5_input_37 (by decide) ?_
        refine Tr.goto (pc := 38) (tgt := 48) d_X5_input_38 rfl ?_
        refine Tr.pick [2, 1, 0] (ls2 := [(0, (2, 6)), (1, (0, r8)), (2, (0, r29))]) rfl ?_
        exact J48 _ _ hS (by omega)
    · refine Tr.iconst (pc := 23) d_X5_input_23 (by decide) ?_
      exact Tr.zret (pc := 24) d_X5_input_24 rfl (by omega) ⟨hS, _, rfl, by omega, by omega⟩
end
/-! 43.12 -/
section
def ws_X3_isFull_7_w2 : List (Int × Int) := []
def as_X3_isFull_7_w2 : List Int := []
def q_X3_isFull_7_w2 (M0 M' : Mem) (r : Option PV) : Prop := St Tru ws_X3_isFull_7_w2 as_X3_isFull_7_w2 M0 M' ∧ ∃ v : Int, r = some (0, v) ∧ 0 ≤ v ∧ v ≤ 1
set_option maxRecDepth 100000 in
set_option maxHeartbeats 4000000 in
theorem sp_X3_isFull_7_w2 {l : Launch} {K : EC} {M0 : Mem} {xq : Int} (hI : In Tru M0) (hE : e_all K xq)  (a1 : Int) (ha1 : 0 ≤ a1 ∧ a1 ≤ 0)  : Tr l K 0 mX3_isFull 0 [(0, (2, 7)), (1, (0, a1))] [] M0 (q_X3_isFull_7_w2 M0) := by
  have hS : St Tru ws_X3_isFull_7_w2 as_X3_isFull_7_w2 M0 M0 := St.rf hI
  refine Tr.aload_n (pc := 0) (i := 0) d_X3_isFull_0 rfl rfl ?_
  refine Tr.getf (pc := 1) d_X3_isFull_1 f_3_11 (by decide) (by decide) (ty_7 hS.1.1) ?_
  refine Tr.tp 8 (fx_7_4 hS.1.1) ?_
  refine Tr.iload_n (pc := 4) (i := 1) d_X3_isFull_4 rfl rfl ?_
  refine Tr.tp 0 (by omega) ?_
  refine Tr.iald (pc := 5) d_X3_isFull_5 (ty_8 hS.1.1) (by omega) (by omega) ?_
  refine Tr.gen (P := fun v => 0 ≤ v ∧ v ≤ 6) (ir_8_0 hS.1.2.1) (fun r5 er5 br5 => ?_)
  refine Tr.gets (pc := 6) d_X3_isFull_6 sl_3_62 hE.2.2.2.1 ?_
  refine Tr.iload_n (pc := 9) (i := 1) d_X3_isFull_9 rfl rfl ?_
  refine Tr.tp 0 (by omega) ?_
  refine Tr.xld (pc := 10) (i := 1) d_X3_isFull_10 rfl hE.1 (by omega) (by omega) ?_
  refine Tr.tp 6 (by decide) ?_
  refine Tr.icmp_lt (pc := 11) (tgt := 18) d_X3_isFull_11 rfl (fun c11 => ?_) (fun c11 => ?_)
  · refine Tr.iconst (pc := 18) d_X3_isFull_18 (by decide) ?_
    exact Tr.zret (pc := 19) d_X3_isFull_19 rfl (by omega) ⟨hS, _, rfl, by omega, by omega⟩
  · refine Tr.iconst (pc := 14) d_X3_isFull_14 (by decide) ?_
    refine Tr.goto (pc := 15) (tgt := 19) d_X3_isFull_15 rfl ?_
    exact Tr.zret (pc := 19) d_X3_isFull_19 rfl (by omega) ⟨hS, _, rfl, by omega, by omega⟩

def ws_X3_name_7_w2 : List (Int × Int) := [(8, 0)]
def as_X3_name_7_w2 : List Int := [14]
def q_X3_name_7_w2 (M0 M' : Mem) (r : Option PV) : Prop := St Tru ws_X3_name_7_w2 as_X3_name_7_w2 M0 M' ∧ r = none
set_option maxRecDepth 100000 in
set_option maxHeartbeats 4000000 in
theorem sp_X3_name_7_w2 {l : Launch} {K : EC} {M0 : Mem} {xq : Int} (hI : In Tru M0) (hE : e_all K xq)  (a1 : Int) (ha1 : 0 ≤ a1 ∧ a1 ≤ 0) (a2 : Int) (ha2 : (-2147483648) ≤ a2 ∧ a2 ≤ 2147483647)  : Tr l K 0 mX3_name 0 [(0, (2, 7)), (1, (0, a1)), (2, (0, a2))] [] M0 (q_X3_name_7_w2 M0) := by
  have hS : St Tru ws_X3_name_7_w2 as_X3_name_7_w2 M0 M0 := St.rf hI
  refine Tr.aload_n (pc := 0) (i := 0) d_X3_name_0 rfl rfl ?_
  refine Tr.getf (pc := 1) d_X3_name_1 f_3_11 (by decide) (by decide) (ty_7 hS.1.1) ?_
  refine Tr.tp 8 (fx_7_4 hS.1.1) ?_
  refine Tr.iload_n (pc := 4) (i := 1) d_X3_name_4 rfl rfl ?_
  refine Tr.tp 0 (by omega) ?_
  refine Tr.iald (pc := 5) d_X3_name_5 (ty_8 hS.1.1) (by omega) (by omega) ?_
  refine Tr.gen (P := fun v => 0 ≤ v ∧ v ≤ 6) (ir_8_0 hS.1.2.1) (fun r5 er5 br5 => ?_)
  refine Tr.gets (pc := 6) d_X3_name_6 sl_3_62 hE.2.2.2.1 ?_
  refine Tr.iload_n (pc := 9) (i := 1) d_X3_name_9 rfl rfl ?_
  refine Tr.tp 0 (by omega) ?_
  refine Tr.xld (pc := 10) (i := 1) d_X3_name_10 rfl hE.1 (by omega) (by omega) ?_
  refine Tr.tp 6 (by decide) ?_
  refine Tr.icmp_ge (pc := 11) (tgt := 42) d_X3_name_11 rfl (fun c11 => ?_) (fun c11 => ?_)
  · exact Tr.vret (pc := 42) d_X3_name_42 rfl ⟨hS, rfl⟩
  · refine Tr.aload_n (pc := 14) (i := 0) d_X3_name_14 rfl rfl ?_
    refine Tr.getf (pc := 15) d_X3_name_15 f_3_30 (by decide) (by decide) (ty_7 hS.1.1) ?_
    refine Tr.tp 14 (fx_7_10 hS.1.1) ?_
    refine Tr.gets (pc := 18) d_X3_name_18 sl_3_65 hE.2.2.2.2.1 ?_
    refine Tr.iload_n (pc := 21) (i := 1) d_X3_name_21 rfl rfl ?_
    refine Tr.tp 0 (by omega) ?_
    refine Tr.xld (pc := 22) (i := 2) d_X3_name_22 rfl hE.2.1 (by omega) (by omega) ?_
    refine Tr.tp 0 (by decide) ?_
    refine Tr.aload_n (pc := 23) (i := 0) d_X3_name_23 rfl rfl ?_
    refine Tr.getf (pc := 24) d_X3_name_24 f_3_11 (by decide) (by decide) (ty_7 hS.1.1) ?_
    refine Tr.tp 8 (fx_7_4 hS.1.1) ?_
    refine Tr.iload_n (pc := 27) (i := 1) d_X3_name_27 rfl rfl ?_
    refine Tr.tp 0 (by omega) ?_
    refine Tr.iald (pc := 28) d_X3_name_28 (ty_8 hS.1.1) (by omega) (by omega) ?_
    refine Tr.tp r5 er5 ?_
    refine Tr.iadd (pc := 29) d_X3_name_29 ?_
    refine Tr.tp r5 ((w32_id (by omega)).trans (by omega)) ?_
    refine Tr.iload_n (pc := 30) (i := 2) d_X3_name_30 rfl rfl ?_
    refine Tr.iastS (pc := 31) (P := St Tru ws_X3_name_7_w2 as_X3_name_7_w2 M0) d_X3_name_31 (ty_14 hS.1.1) (by omega) (by omega) (sa_14 hS (by decide) (by omega) trivial) (fun M31 hS w31 => ?_)
    refine Tr.aload_n (pc := 32) (i := 0) d_X3_name_32 rfl rfl ?_
    refine Tr.getf (pc := 33) d_X3_name_33 f_3_11 (by decide) (by decide) (ty_7 hS.1.1) ?_
    refine Tr.tp 8 (fx_7_4 hS.1.1) ?_
    refine Tr.iload_n (pc := 36) (i := 1) d_X3_name_36 rfl rfl ?_
    refine Tr.tp 0 (by omega) ?_
    refine Tr.dup2 (pc := 37) d_X3_name_37 ne01 ne21 ?_
    refine Tr.iald (pc := 38) d_X3_name_38 (ty_8 hS.1.1) (by omega) (by omega) ?_
    refine Tr.tp r5 ((Wr.b w31 rfl).trans er5) ?_
    refine Tr.iconst (pc := 39) d_X3_name_39 (by decide) ?_
    refine Tr.iadd (pc := 40) d_X3_name_40 ?_
    refine Tr.tp (r5 + 1) ((w32_id (by omega)).trans (by omega)) ?_
    refine Tr.iastS (pc := 41) (P := St Tru ws_X3_name_7_w2 as_X3_name_7_w2 M0) d_X3_name_41 (ty_8 hS.1.1) (by omega) (by omega) (st_8_0 hS (by decide) (by omega) trivial) (fun M41 hS w41 => ?_)
    exact Tr.vret (pc := 42) d_X3_name_42 rfl ⟨hS, rfl⟩

def ws_X5_beginNamed_6_w5 : List (Int × Int) := [(6, 0), (6, 1), (6, 5), (8, 0)]
def as_X5_beginNamed_6_w5 : List Int := [14]
def q_X5_beginNamed_6_w5 (M0 M' : Mem) (r : Option PV) : Prop := St Tru ws_X5_beginNamed_6_w5 as_X5_beginNamed_6_w5 M0 M' ∧ ∃ v : Int, r = some (0, v) ∧ 0 ≤ v ∧ v ≤ 1
set_option maxRecDepth 100000 in
set_option maxHeartbeats 4000000 in
theorem sp_X5_beginNamed_6_w5 {l : Launch} {K : EC} {M0 : Mem} {xq : Int} (hI : In Tru M0) (hE : e_all K xq) (en_6_2 : rd M0 6 2 = 2) (en_6_3 : rd M0 6 3 = 7) (a1 : Int) (ha1 : 0 ≤ a1 ∧ a1 ≤ 0)  : Tr l K 1 mX5_beginNamed 0 [(0, (2, 6)), (1, (0, a1))] [] M0 (q_X5_beginNamed_6_w5 M0) := by
  have hS : St Tru ws_X5_beginNamed_6_w5 as_X5_beginNamed_6_w5 M0 M0 := St.rf hI
  refine Tr.aload_n (pc := 0) (i := 0) d_X5_beginNamed_0 rfl rfl ?_
  refine Tr.getf (pc := 1) d_X5_beginNamed_1 f_5_22 (by decide) (by decide) (ty_6 hS.1.1) ?_
  refine Tr.tp 7 ((St.kp hS (by decide) (by decide) (by decide)).trans en_6_3) ?_
  refine Tr.iload_n (pc := 4) (i := 1) d_X5_beginNamed_4 rfl rfl ?_
  refine Tr.tp 0 (by omega) ?_
  refine Tr.callV (pc := 5) (as := [_]) d_X5_beginNamed_5 s_5_126 ok_X3_isFull rfl rfl (Nat.le_of_ble_eq_true rfl) (Nat.le_of_ble_eq_true rfl) (by decide) (ty_7 hS.1.1) ?_
  refine Tr.imp (Tr.deep (by decide) (sp_X3_isFull_7_w2 hS.1 hE 0 (by omega))) ?_
  rintro M5 _ ⟨h5, r5, rfl, lr5, ur5⟩
  have hS := St.tr hS h5 (by decide) (by decide)
  refine Tr.sc [(0, r5)] rfl ?_
  refine Tr.if_eq (pc := 8) (tgt := 17) d_X5_beginNamed_8 rfl (fun c8 => ?_) (fun c8 => ?_)
  · refine Tr.aload_n (pc := 17) (i := 0) d_X5_beginNamed_17 rfl rfl ?_
    refine Tr.callV (pc := 18) (as := []) d_X5_beginNamed_18 s_5_74 ok_X5_goOn rfl rfl (Nat.le_of_ble_eq_true rfl) (Nat.le_of_ble_eq_true rfl) (by decide) (ty_6 hS.1.1) ?_
    refine Tr.imp (Tr.deep (by decide) (sp_X5_goOn_6 hS.1 )) ?_
    rintro M18 _ ⟨h18, r18, rfl, lr18, ur18⟩
    have hS := St.tr hS h18 (by decide) (by decide)
    refine Tr.sc [(0, r18)] rfl ?_
    refine Tr.pop (pc := 21) d_X5_beginNamed_21 ne01 ?_
    refine Tr.aload_n (pc := 22) (i := 0) d_X5_beginNamed_22 rfl rfl ?_
    refine Tr.getf (pc := 23) d_X5_beginNamed_23 f_5_18 (by decide) (by decide) (ty_6 hS.1.1) ?_
    refine Tr.tp 2 ((St.kp hS (by decide) (by decide) (by decide)).trans en_6_2) ?_
    refine Tr.getf (pc := 26) d_X5_beginNamed_26 f_5_50 (by decide) (by decide) (ty_2 hS.1.1) ?_
    refine Tr.tp 3 (fx_2_0 hS.1.1) ?_
    refine Tr.aload_n (pc := 29) (i := 0) d_X5_beginNamed_29 rfl rfl ?_
    refine Tr.getf (pc := 30) d_X5_beginNamed_30 f_5_36 (by decide) (by decide) (ty_6 hS.1.1) ?_
    refine Tr.gen (P := fun v => 0 ≤ v ∧ v ≤ 900) (ir_6_5 hS.1.2.1) (fun r30 er30 br30 => ?_)
    refine Tr.iald (pc := 33) d_X5_beginNamed_33 (ty_3 hS.1.1) (by omega) (by omega) ?_
    refine Tr.gen (P := fun v => (-2147483648) ≤ v ∧ v ≤ 2147483647) (ar_3 hS.1.2.1 _) (fun r33 er33 br33 => ?_)
    refine Tr.iconst (pc := 34) d_X5_beginNamed_34 (by decide) ?_
    refine Tr.icmp_eq (pc := 35) (tgt := 44) d_X5_beginNamed_35 rfl (fun c35 => ?_) (fun c35 => ?_)
    · refine Tr.aload_n (pc := 44) (i := 0) d_X5_beginNamed_44 rfl rfl ?_
      refine Tr.getf (pc := 45) d_X5_beginNamed_45 f_5_22 (by decide) (by decide) (ty_6 hS.1.1) ?_
      refine Tr.tp 7 ((St.kp hS (by decide) (by decide) (by decide)).trans en_6_3) ?_
      refine Tr.aload_n (pc := 48) (i := 0) d_X5_beginNamed_48 rfl rfl ?_
      refine Tr.getf (pc := 49) d_X5_beginNamed_49 f_5_18 (by decide) (by decide) (ty_6 hS.1.1) ?_
      refine Tr.tp 2 ((St.kp hS (by decide) (by decide) (by decide)).trans en_6_2) ?_
      refine Tr.getf (pc := 52) d_X5_beginNamed_52 f_5_68 (by decide) (by decide) (ty_2 hS.1.1) ?_
      refine Tr.tp 5 (fx_2_2 hS.1.1) ?_
      refine Tr.aload_n (pc := 55) (i := 0) d_X5_beginNamed_55 rfl rfl ?_
      refine Tr.getf (pc := 56) d_X5_beginNamed_56 f_5_36 (by decide) (by decide) (ty_6 hS.1.1) ?_
      refine Tr.tp r30 er30 ?_
      refine Tr.iald (pc := 59) d_X5_beginNamed_59 (ty_5 hS.1.1) (by omega) (by omega) ?_
      refine Tr.gen (P := fun v => (-2147483648) ≤ v ∧ v ≤ 2147483647) (ar_5 hS.1.2.1 _) (fun r59 er59 br59 => ?_)
      refine Tr.callV (pc := 60) (as := [_]) d_X5_beginNamed_60 s_5_91 ok_X3_find rfl rfl (Nat.le_of_ble_eq_true rfl) (Nat.le_of_ble_eq_true rfl) (by decide) (ty_7 hS.1.1) ?_
      refine Tr.imp (Tr.deep (by decide) (sp_X3_find_7 hS.1 r59 (by omega))) ?_
      rintro M60 _ ⟨h60, r60, rfl, lr60, ur60⟩
      have hS := St.tr hS h60 (by decide) (by decide)
      refine Tr.sc [(0, r60)] rfl ?_
      refine Tr.if_lt (pc := 63) (tgt := 72) d_X5_beginNamed_63 rfl (fun c63 => ?_) (fun c63 => ?_)
      · refine Tr.aload_n (pc := 72) (i := 0) d_X5_beginNamed_72 rfl rfl ?_
        refine Tr.getf (pc := 73) d_X5_beginNamed_73 f_5_22 (by decide) (by decide) (ty_6 hS.1.1) ?_
        refine Tr.tp 7 ((St.kp hS (by decide) (by decide) (by decide)).trans en_6_3) ?_
        refine Tr.iload_n (pc := 76) (i := 1) d_X5_beginNamed_76 rfl rfl ?_
        refine Tr.tp 0 (by omega) ?_
        refine Tr.aload_n (pc := 77) (i := 0) d_X5_beginNamed_77 rfl rfl ?_
        refine Tr.getf (pc := 78) d_X5_beginNamed_78 f_5_18 (by decide) (by decide) (ty_6 hS.1.1) ?_
        refine Tr.tp 2 ((St.kp hS (by decide) (by decide) (by decide)).trans en_6_2) ?_
        refine Tr.getf (pc := 81) d_X5_beginNamed_81 f_5_68 (by decide) (by decide) (ty_2 hS.1.1) ?_
        refine Tr.tp 5 (fx_2_2 hS.1.1) ?_
        refine Tr.aload_n (pc := 84) (i := 0) d_X5_beginNamed_84 rfl rfl ?_
        refine Tr.getf (pc := 85) d_X5_beginNamed_85 f_5_36 (by decide) (by decide) (ty_6 hS.1.1) ?_
        refine Tr.tp r30 ((St.kp h60 (by decide) (by decide) (by decide)).trans er30) ?_
        refine Tr.iald (pc := 88) d_X5_beginNamed_88 (ty_5 hS.1.1) (by omega) (by omega) ?_
        refine Tr.tp r59 ((St.ka h60 (by decide) (by decide) (by decide)).trans er59) ?_
        refine Tr.callV (pc := 89) (as := [_, _]) d_X5_beginNamed_89 s_5_129 ok_X3_name rfl rfl (Nat.le_of_ble_eq_true rfl) (Nat.le_of_ble_eq_true rfl) (by decide) (ty_7 hS.1.1) ?_
        refine Tr.imp (Tr.deep (by decide) (sp_X3_name_7_w2 hS.1 hE 0 (by omega) r59 (by omega))) ?_
        rintro M89 _ ⟨h89, rfl⟩
        have hS := St.tr hS h89 (by decide) (by decide)
        refine Tr.sc [] rfl ?_
        refine Tr.aload_n (pc := 92) (i := 0) d_X5_beginNamed_92 rfl rfl ?_
        refine Tr.callV (pc := 93) (as := []) d_X5_beginNamed_93 s_5_74 ok_X5_goOn rfl rfl (Nat.le_of_ble_eq_true rfl) (Nat.le_of_ble_eq_true rfl) (by decide) (ty_6 hS.1.1) ?_
        refine Tr.imp (Tr.deep (by decide) (sp_X5_goOn_6 hS.1 )) ?_
        rintro M93 _ ⟨h93, r93, rfl, lr93, ur93⟩
        have hS := St.tr hS h93 (by decide) (by decide)
        refine Tr.sc [(0, r93)] rfl ?_
        exact Tr.zret (pc := 96) d_X5_beginNamed_96 rfl (by omega) ⟨hS, _, rfl, by omega, by omega⟩
      · refine Tr.aload_n (pc := 66) (i := 0) d_X5_beginNamed_66 rfl rfl ?_
        refine Tr.iconst (pc := 67) d_X5_beginNamed_67 (by decide) ?_
        refine Tr.callV (pc := 68) (as := [_]) d_X5_beginNamed_68 s_5_56 ok_X5_refuse rfl rfl (Nat.le_of_ble_eq_true rfl) (Nat.le_of_ble_eq_true rfl) (by decide) (ty_6 hS.1.1) ?_
        refine Tr.imp (Tr.deep (by decide) (sp_X5_refuse_6 hS.1 ((St.kp hS (by decide) (by decide) (by decide)).trans en_6_2) 2 (by omega))) ?_
        rintro M68 _ ⟨h68, r68, rfl, lr68, ur68⟩
        have hS := St.tr hS h68 (by decide) (by decide)
        refine Tr.sc [(0, r68)] rfl ?_
        exact Tr.zret (pc := 71) d_X5_beginNamed_71 rfl (by omega) ⟨hS, _, rfl, by omega, by omega⟩
    · refine Tr.aload_n (pc := 38) (i := 0) d_X5_beginNamed_38 rfl rfl ?_
      refine Tr.iconst (pc := 39) d_X5_beginNamed_39 (by decide) ?_
      refine Tr.callV (pc := 40) (as := [_]) d_X5_beginNamed_40 s_5_56 ok_X5_refuse rfl rfl (Nat.le_of_ble_eq_true rfl) (Nat.le_of_ble_eq_true rfl) (by decide) (ty_6 hS.1.1) ?_
      refine Tr.imp (Tr.deep (by decide) (sp_X5_refuse_6_w1 hS.1 ((St.kp hS (by decide) (by decide) (by decide)).trans en_6_2) 1 (by omega))) ?_
      rintro M40 _ ⟨h40, r40, rfl, lr40, ur40⟩
      have hS := St.tr hS h40 (by decide) (by decide)
      refine Tr.sc [(0, r40)] rfl ?_
      exact Tr.zret (pc := 43) d_X5_beginNamed_43 rfl (by omega) ⟨hS, _, rfl, by omega, by omega⟩
  · refine Tr.aload_n (pc := 11) (i := 0) d_X5_beginNamed_11 rfl rfl ?_
    refine Tr.iconst (pc := 12) d_X5_beginNamed_12 (by decide) ?_
    refine Tr.callV (pc := 13) (as := [_]) d_X5_beginNamed_13 s_5_56 ok_X5_refuse rfl rfl (Nat.le_of_ble_eq_true rfl) (Nat.le_of_ble_eq_true rfl) (by decide) (ty_6 hS.1.1) ?_
    refine Tr.imp (Tr.deep (by decide) (sp_X5_refuse_6_w2 hS.1 ((St.kp hS (by decide) (by decide) (by decide)).trans en_6_2) 5 (by omega))) ?_
    rintro M13 _ ⟨h13, r13, rfl, lr13, ur13⟩
    have hS := St.tr hS h13 (by decide) (by decide)
    refine Tr.sc [(0, r13)] rfl ?_
    exact Tr.zret (pc := 16) d_X5_beginNamed_16 rfl (by omega) ⟨hS, _, rfl, by omega, by omega⟩

def ws_X5_part_6_w1 : List (Int × Int) := [(6, 0), (6, 1), (6, 5), (8, 0)]
def as_X5_part_6_w1 : List Int := [9, 10, 11, 14]
def q_X5_part_6_w1 (M0 M' : Mem) (r : Option PV) : Prop := St Tru ws_X5_part_6_w1 as_X5_part_6_w1 M0 M' ∧ ∃ v : Int, r = some (0, v) ∧ 0 ≤ v ∧ v ≤ 1
set_option maxRecDepth 100000 in
set_option maxHeartbeats 4000000 in
theorem sp_X5_part_6_w1 {l : Launch} {K : EC} {M0 : Mem} {xq : Int} (hI : In Tru M0) (hE : e_all K xq) (en_6_2 : rd M0 6 2 = 2) (en_6_3 : rd M0 6 3 = 7)   : Tr l K 3 mX5_part 0 [(0, (2, 6))] [] M0 (q_X5_part_6_w1 M0) := by
  have hS : St Tru ws_X5_part_6_w1 as_X5_part_6_w1 M0 M0 := St.rf hI
  refine Tr.aload_n (pc := 0) (i := 0) d_X5_part_0 rfl rfl ?_
  refine Tr.getf (pc := 1) d_X5_part_1 f_5_22 (by decide) (by decide) (ty_6 hS.1.1) ?_
  refine Tr.tp 7 ((St.kp hS (by decide) (by decide) (by decide)).trans en_6_3) ?_
  refine Tr.getf (pc := 4) d_X5_part_4 f_5_133 (by decide) (by decide) (ty_7 hS.1.1) ?_
  refine Tr.tp 8 (fx_7_4 hS.1.1) ?_
  refine Tr.iconst (pc := 7) d_X5_part_7 (by decide) ?_
  refine Tr.iald (pc := 8) d_X5_part_8 (ty_8 hS.1.1) (by omega) (by omega) ?_
  refine Tr.gen (P := fun v => 0 ≤ v ∧ v ≤ 6) (ir_8_0 hS.1.2.1) (fun r8 er8 br8 => ?_)
  refine Tr.istore_n (pc := 9) (i := 1) (ls2 := [(1, (0, r8)), (0, (2, 6))]) d_X5_part_9 rfl (by decide) rfl ?_
  refine Tr.aload_n (pc := 10) (i := 0) d_X5_part_10 rfl rfl ?_
  refine Tr.iconst (pc := 11) d_X5_part_11 (by decide) ?_
  refine Tr.callV (pc := 12) (as := [_]) d_X5_part_12 s_5_112 ok_X5_beginNamed rfl rfl (Nat.le_of_ble_eq_true rfl) (Nat.le_of_ble_eq_true rfl) (by decide) (ty_6 hS.1.1) ?_
  refine Tr.imp (Tr.deep (by decide) (sp_X5_beginNamed_6_w5 hS.1 hE ((St.kp hS (by decide) (by decide) (by decide)).trans en_6_2) ((St.kp hS (by decide) (by decide) (by decide)).trans en_6_3) 0 (by omega))) ?_
  rintro M12 _ ⟨h12, r12, rfl, lr12, ur12⟩
  have hS := St.tr hS h12 (by decide) (by decide)
  refine Tr.sc [(0, r12)] rfl ?_
  refine Tr.if_eq (pc := 15) (tgt := 24) d_X5_part_15 rfl (fun c15 => ?_) (fun c15 => ?_)
  · refine Tr.iconst (pc := 24) d_X5_part_24 (by decide) ?_
    exact Tr.zret (pc := 25) d_X5_part_25 rfl (by omega) ⟨hS, _, rfl, by omega, by omega⟩
  · refine Tr.iload_n (pc := 18) (i := 1) d_X5_part_18 rfl rfl ?_
    refine Tr.bipush (pc := 19) d_X5_part_19 rfl (by decide) ?_
    refine Tr.icmp_lt (pc := 21) (tgt := 26) d_X5_part_21 rfl (fun c21 => ?_) (fun c21 => ?_)
    · refine Tr.aload_n (pc := 26) (i := 0) d_X5_part_26 rfl rfl ?_
      refine Tr.bipush (pc := 27) d_X5_part_27 rfl (by decide) ?_
      refine Tr.sipush (pc := 29) d_X5_part_29 rfl (by decide) ?_
      refine Tr.callV (pc := 32) (as := [_, _]) d_X5_part_32 s_5_136 ok_X5_takeTold rfl rfl (Nat.le_of_ble_eq_true rfl) (Nat.le_of_ble_eq_true rfl) (by decide) (ty_6 hS.1.1) ?_
      refine Tr.imp (Tr.deep (by decide) (sp_X5_takeTold_6 hS.1 ((St.kp hS (by decide) (by decide) (by decide)).trans en_6_2) 14 (by omega) 999 (by omega))) ?_
      rintro M32 _ ⟨h32, r32, rfl, lr32, ur32⟩
      have hS := St.tr hS h32 (by decide) (by decide)
      refine Tr.sc [(0, r32)] rfl ?_
      refine Tr.istore_n (pc := 35) (i := 2) (ls2 := [(2, (0, r32)), (1, (0, r8)), (0, (2, 6))]) d_X5_part_35 rfl (by decide) rfl ?_
      refine Tr.iload_n (pc := 36) (i := 2) d_X5_part_36 rfl rfl ?_
      have J52 : ∀ (M : Mem) (q52_0 : Int), St Tru ws_X5_part_6_w1 as_X5_part_6_w1 M0 M → ((-1) ≤ q52_0 ∧ q52_0 ≤ 20) → Tr l K 3 mX5_part 52 [(0, (2, 6)), (1, (0, r8)), (2, (0, r32))] [(0, q52_0)] M (q_X5_part_6_w1 M0) := by
        intro M q52_0 hS bq52_0 
        refine Tr.istore_n (pc := 52) (i := 3) (ls2 := [(3, (0, q52_0)), (0, (2, 6)), (1, (0, r8)), (2, (0, r32))]) d_X5_part_52 rfl (by decide) rfl ?_
        refine Tr.iload_n (pc := 53) (i := 3) d_X5_part_53 rfl rfl ?_
        have J69 : ∀ (M : Mem) (q69_0 : Int), St Tru ws_X5_part_6_w1 as_X5_part_6_w1 M0 M → ((-1) ≤ q69_0 ∧ q69_0 ≤ 999) → Tr l K 3 mX5_part 69 [(0, (2, 6)), (1, (0, r8)), (2, (0, r32)), (3, (0, q52_0))] [(0, q69_0)] M (q_X5_part_6_w1 M0) := by
          intro M q69_0 hS bq69_0 
          refine Tr.istore (pc := 69) (i := 4) (ls2 := [(4, (0, q69_0)), (0, (2, 6)), (1, (0, r8)), (2, (0, r32)), (3, (0, q52_0))]) d_X5_part_69 (by decide) rfl ?_
          refine Tr.iload (pc := 71) (i := 4) d_X5_part_71 rfl ?_
          have J89 : ∀ (M : Mem) (q89_0 : Int), St Tru ws_X5_part_6_w1 as_X5_part_6_w1 M0 M → ((-1) ≤ q89_0 ∧ q89_0 ≤ 999) → Tr l K 3 mX5_part 89 [(0, (2, 6)), (1, (0, r8)), (2, (0, r32)), (3, (0, q52_0)), (4, (0, q69_0))] [(0, q89_0)] M (q_X5_part_6_w1 M0) := by
            intro M q89_0 hS bq89_0 
            refine Tr.istore (pc := 89) (i := 5) (ls2 := [(5, (0, q89_0)), (0, (2, 6)), (1, (0, r8)), (2, (0, r32)), (3, (0, q52_0)), (4, (0, q69_0))]) d_X5_part_89 (by decide) rfl ?_
            refine Tr.iload (pc := 91) (i := 5) d_X5_part_91 rfl ?_
            have J109 : ∀ (M : Mem) (q109_0 : Int), St Tru ws_X5_part_6_w1 as_X5_part_6_w1 M0 M → ((-1) ≤ q109_0 ∧ q109_0 ≤ 999) → Tr l K 3 mX5_part 109 [(0, (2, 6)), (1, (0, r8)), (2, (0, r32)), (3, (0, q52_0)), (4, (0, q69_0)), (5, (0, q89_0))] [(0, q109_0)] M (q_X5_part_6_w1 M0) := by
              intro M q109_0 hS bq109_0 
              refine Tr.istore (pc := 109) (i := 6) (ls2 := [(6, (0, q109_0)), (0, (2, 6)), (1, (0, r8)), (2, (0, r32)), (3, (0, q52_0)), (4, (0, q69_0)), (5, (0, q89_0))]) d_X5_part_109 (by decide) rfl ?_
              refine Tr.iload (pc := 111) (i := 6) d_X5_part_111 rfl ?_
              have J128 : ∀ (M : Mem) (q128_0 : Int), St Tru ws_X5_part_6_w1 as_X5_part_6_w1 M0 M → ((-1) ≤ q128_0 ∧ q128_0 ≤ 50) → Tr l K 3 mX5_part 128 [(0, (2, 6)), (1, (0, r8)), (2, (0, r32)), (3, (0, q52_0)), (4, (0, q69_0)), (5, (0, q89_0)), (6, (0, q109_0))] [(0, q128_0)] M (q_X5_part_6_w1 M0) := by
                intro M q128_0 hS bq128_0 
                refine Tr.istore (pc := 128) (i := 7) (ls2 := [(7, (0, q128_0)), (0, (2, 6)), (1, (0, r8)), (2, (0, r32)), (3, (0, q52_0)), (4, (0, q69_0)), (5, (0, q89_0)), (6, (0, q109_0))]) d_X5_part_128 (by decide) rfl ?_
                refine Tr.iload (pc := 130) (i := 7) d_X5_part_130 rfl ?_
                refine Tr.if_lt (pc := 132) (tgt := 144) d_X5_part_132 rfl (fun c132 => ?_) (fun c132 => ?_)
                · refine Tr.iconst (pc := 144) d_X5_part_144 (by decide) ?_
                  exact Tr.zret (pc := 145) d_X5_part_145 rfl (by omega) ⟨hS, _, rfl, by omega, by omega⟩
                · refine Tr.aload_n (pc := 135) (i := 0) d_X5_part_135 rfl rfl ?_
                  refine Tr.bipush (pc := 136) d_X5_part_136 rfl (by decide) ?_
                  refine Tr.callV (pc := 138) (as := [_]) d_X5_part_138 s_5_81 ok_X5_takeSign rfl rfl (Nat.le_of_ble_eq_true rfl) (Nat.le_of_ble_eq_true rfl) (by decide) (ty_6 hS.1.1) ?_
                  refine Tr.imp (Tr.deep (by decide) (sp_X5_takeSign_6 hS.1 ((St.kp hS (by decide) (by decide) (by decide)).trans en_6_2) 59 (by omega))) ?_
                  rintro M138 _ ⟨h138, r138, rfl, lr138, ur138⟩
                  have hS := St.tr hS h138 (by decide) (by decide)
                  refine Tr.sc [(0, r138)] rfl ?_
                  refine Tr.if_ne (pc := 141) (tgt := 146) d_X5_part_141 rfl (fun c141 => ?_) (fun c141 => ?_)
                  · refine Tr.aload_n (pc := 146) (i := 0) d_X5_part_146 rfl rfl ?_
                    refine Tr.getf (pc := 147) d_X5_part_147 f_5_22 (by decide) (by decide) (ty_6 hS.1.1) ?_
                    refine Tr.tp 7 ((St.kp hS (by decide) (by decide) (by decide)).trans en_6_3) ?_
                    refine Tr.getf (pc := 150) d_X5_part_150 f_5_139 (by decide) (by decide) (ty_7 hS.1.1) ?_
                    refine Tr.tp 9 (fx_7_5 hS.1.1) ?_
                    refine Tr.iload_n (pc := 153) (i := 1) d_X5_part_153 rfl rfl ?_
                    refine Tr.iconst (pc := 154) d_X5_part_154 (by decide) ?_
                    refine Tr.imul (pc := 155) d_X5_part_155 ?_
                    refine Tr.tp (4 * r8) ((w32_id (by omega)).trans (by omega)) ?_
                    refine Tr.iconst (pc := 156) d_X5_part_156 (by decide) ?_
                    refine Tr.iadd (pc := 157) d_X5_part_157 ?_
                    refine Tr.tp (4 * r8) ((w32_id (by omega)).trans (by omega)) ?_
                    refine Tr.iload_n (pc := 158) (i := 2) d_X5_part_158 rfl rfl ?_
                    refine Tr.iastS (pc := 159) (P := St Tru ws_X5_part_6_w1 as_X5_part_6_w1 M0) d_X5_part_159 (ty_9 hS.1.1) (by omega) (by omega) (sa_9 hS (by decide) (by omega) trivial) (fun M159 hS w159 => ?_)
                    refine Tr.aload_n (pc := 160) (i := 0) d_X5_part_160 rfl rfl ?_
                    refine Tr.getf (pc := 161) d_X5_part_161 f_5_22 (by decide) (by decide) (ty_6 hS.1.1) ?_
                    refine Tr.tp 7 ((St.kp hS (by decide) (by decide) (by decide)).trans en_6_3) ?_
                    refine Tr.getf (pc := 164) d_X5_part_164 f_5_139 (by decide) (by decide) (ty_7 hS.1.1) ?_
                    refine Tr.tp 9 (fx_7_5 hS.1.1) ?_
                    refine Tr.iload_n (pc := 167) (i := 1) d_X5_part_167 rfl rfl ?_
                    refine Tr.iconst (pc := 168) d_X5_part_168 (by decide) ?_
                    refine Tr.imul (pc := 169) d_X5_part_169 ?_
                    refine Tr.tp (4 * r8) ((w32_id (by omega)).trans (by omega)) ?_
                    refine Tr.iconst (pc := 170) d_X5_part_170 (by decide) ?_
                    refine Tr.iadd (pc := 171) d_X5_part_171 ?_
                    refine Tr.tp (4 * r8 + 1) ((w32_id (by omega)).trans (by omega)) ?_
                    refine Tr.iload (pc := 172) (i := 4) d_X5_part_172 rfl ?_
                    refine Tr.iastS (pc := 174) (P := St Tru ws_X5_part_6_w1 as_X5_part_6_w1 M0) d_X5_part_174 (ty_9 hS.1.1) (by omega) (by omega) (sa_9 hS (by decide) (by omega) trivial) (fun M174 hS w174 => ?_)
                    refine Tr.aload_n (pc := 175) (i := 0) d_X5_part_175 rfl rfl ?_
                    refine Tr.getf (pc := 176) d_X5_part_176 f_5_22 (by decide) (by decide) (ty_6 hS.1.1) ?_
                    refine Tr.tp 7 ((St.kp hS (by decide) (by decide) (by decide)).trans en_6_3) ?_
                    refine Tr.getf (pc := 179) d_X5_part_179 f_5_139 (by decide) (by decide) (ty_7 hS.1.1) ?_
                    refine Tr.tp 9 (fx_7_5 hS.1.1) ?_
                    refine Tr.iload_n (pc := 182) (i := 1) d_X5_part_182 rfl rfl ?_
                    refine Tr.iconst (pc := 183) d_X5_part_183 (by decide) ?_
                    refine Tr.imul (pc := 184) d_X5_part_184 ?_
                    refine Tr.tp (4 * r8) ((w32_id (by omega)).trans (by omega)) ?_
                    refine Tr.iconst (pc := 185) d_X5_part_185 (by decide) ?_
                    refine Tr.iadd (pc := 186) d_X5_part_186 ?_
                    refine Tr.tp (4 * r8 + 2) ((w32_id (by omega)).trans (by omega)) ?_
                    refine Tr.iload (pc := 187) (i := 5) d_X5_part_187 rfl ?_
                    refine Tr.iastS (pc := 189) (P := St Tru ws_X5_part_6_w1 as_X5_part_6_w1 M0) d_X5_part_189 (ty_9 hS.1.1) (by omega) (by omega) (sa_9 hS (by decide) (by omega) trivial) (fun M189 hS w189 => ?_)
                    refine Tr.aload_n (pc := 190) (i := 0) d_X5_part_190 rfl rfl ?_
                    refine Tr.getf (pc := 191) d_X5_part_191 f_5_22 (by decide) (by decide) (ty_6 hS.1.1) ?_
                    refine Tr.tp 7 ((St.kp hS (by decide) (by decide) (by decide)).trans en_6_3) ?_
                    refine Tr.getf (pc := 194) d_X5_part_194 f_5_139 (by decide) (by decide) (ty_7 hS.1.1) ?_
                    refine Tr.tp 9 (fx_7_5 hS.1.1) ?_
                    refine Tr.iload_n (pc := 197) (i := 1) d_X5_part_197 rfl rfl ?_
                    refine Tr.iconst (pc := 198) d_X5_part_198 (by decide) ?_
                    refine Tr.imul (pc := 199) d_X5_part_199 ?_
                    refine Tr.tp (4 * r8) ((w32_id (by omega)).trans (by omega)) ?_
                    refine Tr.iconst (pc := 200) d_X5_part_200 (by decide) ?_
                    refine Tr.iadd (pc := 201) d_X5_part_201 ?_
                    refine Tr.tp (4 * r8 + 3) ((w32_id (by omega)).trans (by omega)) ?_
                    refine Tr.iload (pc := 202) (i := 6) d_X5_part_202 rfl ?_
                    refine Tr.iastS (pc := 204) (P := St Tru ws_X5_part_6_w1 as_X5_part_6_w1 M0) d_X5_part_204 (ty_9 hS.1.1) (by omega) (by omega) (sa_9 hS (by decide) (by omega) trivial) (fun M204 hS w204 => ?_)
                    refine Tr.aload_n (pc := 205) (i := 0) d_X5_part_205 rfl rfl ?_
                    refine Tr.getf (pc := 206) d_X5_part_206 f_5_22 (by decide) (by decide) (ty_6 hS.1.1) ?_
                    refine Tr.tp 7 ((St.kp hS (by decide) (by decide) (by decide)).trans en_6_3) ?_
                    refine Tr.getf (pc := 209) d_X5_part_209 f_5_142 (by decide) (by decide) (ty_7 hS.1.1) ?_
                    refine Tr.tp 10 (fx_7_6 hS.1.1) ?_
                    refine Tr.iload_n (pc := 212) (i := 1) d_X5_part_212 rfl rfl ?_
                    refine Tr.iload_n (pc := 213) (i := 3) d_X5_part_213 rfl rfl ?_
                    refine Tr.iastS (pc := 214) (P := St Tru ws_X5_part_6_w1 as_X5_part_6_w1 M0) d_X5_part_214 (ty_10 hS.1.1) (by omega) (by omega) (sa_10 hS (by decide) (by omega) trivial) (fun M214 hS w214 => ?_)
                    refine Tr.aload_n (pc := 215) (i := 0) d_X5_part_215 rfl rfl ?_
                    refine Tr.getf (pc := 216) d_X5_part_216 f_5_22 (by decide) (by decide) (ty_6 hS.1.1) ?_
                    refine Tr.tp 7 ((St.kp hS (by decide) (by decide) (by decide)).trans en_6_3) ?_
                    refine Tr.getf (pc := 219) d_X5_part_219 f_5_145 (by decide) (by decide) (ty_7 hS.1.1) ?_
                    refine Tr.tp 11 (fx_7_7 hS.1.1) ?_
                    refine Tr.iload_n (pc := 222) (i := 1) d_X5_part_222 rfl rfl ?_
                    refine Tr.iload (pc := 223) (i := 7) d_X5_part_223 rfl ?_
                    refine Tr.iastS (pc := 225) (P := St Tru ws_X5_part_6_w1 as_X5_part_6_w1 M0) d_X5_part_225 (ty_11 hS.1.1) (by omega) (by omega) (sa_11 hS (by decide) (by omega) trivial) (fun M225 hS w225 => ?_)
                    refine Tr.iconst (pc := 226) d_X5_part_226 (by decide) ?_
                    exact Tr.zret (pc := 227) d_X5_part_227 rfl (by omega) ⟨hS, _, rfl, by omega, by omega⟩
                  · refine Tr.iconst (pc := 144) d_X5_part_144 (by decide) ?_
                    exact Tr.zret (pc := 145) d_X5_part_145 rfl (by omega) ⟨hS, _, rfl, by omega, by omega⟩
              refine Tr.if_ge (pc := 113) (tgt := 120) d_X5_part_113 rfl (fun c113 => ?_) (fun c113 => ?_)
              · refine Tr.aload_n (pc := 120) (i := 0) d_X5_part_120 rfl rfl ?_
                refine Tr.bipush (pc := 121) d_X5_part_121 rfl (by decide) ?_
                refine Tr.bipush (pc := 123) d_X5_part_123 rfl (by decide) ?_
                refine Tr.callV (pc := 125) (as := [_, _]) d_X5_part_125 s_5_136 ok_X5_takeTold rfl rfl (Nat.le_of_ble_eq_true rfl) (Nat.le_of_ble_eq_true rfl) (by decide) (ty_6 hS.1.1) ?_
                refine Tr.imp (Tr.deep (by decide) (sp_X5_takeTold_6_w4 hS.1 ((St.kp hS (by decide) (by decide) (by decide)).trans en_6_2) 18 (by omega) 50 (by omega))) ?_
                rintro M125 _ ⟨h125, r125, rfl, lr125, ur125⟩
                have hS := St.tr hS h125 (by decide) (by decide)
                refine Tr.sc [(0, r125)] rfl ?_
                refine Tr.pick [1, 2, 3, 4, 5, 6, 0] (ls2 := [(0, (2, 6)), (1, (0, r8)), (2, (0, r32)), (3, (0, q52_0)), (4, (0, q69_0)), (5, (0, q89_0)), (6, (0, q109_0))]) rfl ?_
                exact J128 _ _ hS (by omega)
              · refine Tr.iconst (pc := 116) d_X5_part_116 (by decide) ?_
                refine Tr.goto (pc := 117) (tgt := 128) d_X5_part_117 rfl ?_
                refine Tr.pick [1, 2, 3, 4, 5, 6, 0] (ls2 := [(0, (2, 6)), (1, (0, r8)), (2, (0, r32)), (3, (0, q52_0)), (4, (0, q69_0)), (5, (0, q89_0)), (6, (0, q109_0))]) rfl ?_
                exact J128 _ _ hS (by omega)
            refine Tr.if_ge (pc := 93) (tgt := 100) d_X5_part_93 rfl (fun c93 => ?_) (fun c93 => ?_)
            · refine Tr.aload_n (pc := 100) (i := 0) d_X5_part_100 rfl rfl ?_
              refine Tr.bipush (pc := 101) d_X5_part_101 rfl (by decide) ?_
              refine Tr.sipush (pc := 103) d_X5_part_103 rfl (by decide) ?_
              refine Tr.callV (pc := 106) (as := [_, _]) d_X5_part_106 s_5_136 ok_X5_takeTold rfl rfl (Nat.le_of_ble_eq_true rfl) (Nat.le_of_ble_eq_true rfl) (by decide) (ty_6 hS.1.1) ?_
              refine Tr.imp (Tr.deep (by decide) (sp_X5_takeTold_6_w3 hS.1 ((St.kp hS (by decide) (by decide) (by decide)).trans en_6_2) 17 (by omega) 999 (by omega))) ?_
              rintro M106 _ ⟨h106, r106, rfl, lr106, ur106⟩
              have hS := St.tr hS h106 (by decide) (by decide)
              refine Tr.sc [(0, r106)] rfl ?_
              refine Tr.pick [1, 2, 3, 4, 5, 0] (ls2 := [(0, (2, 6)), (1, (0, r8)), (2, (0, r32)), (3, (0, q52_0)), (4, (0, q69_0)), (5, (0, q89_0))]) rfl ?_
              exact J109 _ _ hS (by omega)
            · refine Tr.iconst (pc := 96) d_X5_part_96 (by decide) ?_
              refine Tr.goto (pc := 97) (tgt := 109) d_X5_part_97 rfl ?_
              refine Tr.pick [1, 2, 3, 4, 5, 0] (ls2 := [(0, (2, 6)), (1, (0, r8)), (2, (0, r32)), (3, (0, q52_0)), (4, (0, q69_0)), (5, (0, q89_0))]) rfl ?_
              exact J109 _ _ hS (by omega)
          refine Tr.if_ge (pc := 73) (tgt := 80) d_X5_part_73 rfl (fun c73 => ?_) (fun c73 => ?_)
          · refine Tr.aload_n (pc := 80) (i := 0) d_X5_part_80 rfl rfl ?_
            refine Tr.bipush (pc := 81) d_X5_part_81 rfl (by decide) ?_
            refine Tr.sipush (pc := 83) d_X5_part_83 rfl (by decide) ?_
            refine Tr.callV (pc := 86) (as := [_, _]) d_X5_part_86 s_5_136 ok_X5_takeTold rfl rfl (Nat.le_of_ble_eq_true rfl) (Nat.le_of_ble_eq_true rfl) (by decide) (ty_6 hS.1.1) ?_
            refine Tr.imp (Tr.deep (by decide) (sp_X5_takeTold_6_w2 hS.1 ((St.kp hS (by decide) (by decide) (by decide)).trans en_6_2) 16 (by omega) 999 (by omega))) ?_
            rintro M86 _ ⟨h86, r86, rfl, lr86, ur86⟩
            have hS := St.tr hS h86 (by decide) (by decide)
            refine Tr.sc [(0, r86)] rfl ?_
            refine Tr.pick [1, 2, 3, 4, 0] (ls2 := [(0, (2, 6)), (1, (0, r8)), (2, (0, r32)), (3, (0, q52_0)), (4, (0, q69_0))]) rfl ?_
            exact J89 _ _ hS (by omega)
          · refine Tr.iconst (pc := 76) d_X5_part_76 (by decide) ?_
            refine Tr.goto (pc := 77) (tgt := 89) d_X5_part_77 rfl ?_
            refine Tr.pick [1, 2, 3, 4, 0] (ls2 := [(0, (2, 6)), (1, (0, r8)), (2, (0, r32)), (3, (0, q52_0)), (4, (0, q69_0))]) rfl ?_
            exact J89 _ _ hS (by omega)
        refine Tr.if_ge (pc := 54) (tgt := 61) d_X5_part_54 rfl (fun c54 => ?_) (fun c54 => ?_)
        · refine Tr.aload_n (pc := 61) (i := 0) d_X5_part_61 rfl rfl ?_
          refine Tr.iconst (pc := 62) d_X5_part_62 (by decide) ?_
          refine Tr.sipush (pc := 63) d_X5_part_63 rfl (by decide) ?_
          refine Tr.callV (pc := 66) (as := [_, _]) d_X5_part_66 s_5_87 ok_X5_takeNumber rfl rfl (Nat.le_of_ble_eq_true rfl) (Nat.le_of_ble_eq_true rfl) (by decide) (ty_6 hS.1.1) ?_
          refine Tr.imp (Tr.deep (by decide) (sp_X5_takeNumber_6_w2 hS.1 ((St.kp hS (by decide) (by decide) (by decide)).trans en_6_2) 0 (by omega) 999 (by omega))) ?_
          rintro M66 _ ⟨h66, r66, rfl, lr66, ur66⟩
          have hS := St.tr hS h66 (by decide) (by decide)
          refine Tr.sc [(0, r66)] rfl ?_
          refine Tr.pick [1, 2, 3, 0] (ls2 := [(0, (2, 6)), (1, (0, r8)), (2, (0, r32)), (3, (0, q52_0))]) rfl ?_
          exact J69 _ _ hS (by omega)
        · refine Tr.iconst (pc := 57) d_X5_part_57 (by decide) ?_
          refine Tr.goto (pc := 58) (tgt := 69) d_X5_part_58 rfl ?_
          refine Tr.pick [1, 2, 3, 0] (ls2 := [(0, (2, 6)), (1, (0, r8)), (2, (0, r32)), (3, (0, q52_0))]) rfl ?_
          exact J69 _ _ hS (by omega)
      refine Tr.if_ge (pc := 37) (tgt := 44) d_X5_part_37 rfl (fun c37 => ?_) (fun c37 => ?_)
      · refine Tr.aload_n (pc := 44) (i := 0) d_X5_part_44 rfl rfl ?_
        refine Tr.bipush (pc := 45) d_X5_part_45 rfl (by decide) ?_
        refine Tr.bipush (pc := 47) d_X5_part_47 rfl (by decide) ?_
        refine Tr.callV (pc := 49) (as := [_, _]) d_X5_part_49 s_5_136 ok_X5_takeTold rfl rfl (Nat.le_of_ble_eq_true rfl) (Nat.le_of_ble_eq_true rfl) (by decide) (ty_6 hS.1.1) ?_
        refine Tr.imp (Tr.deep (by decide) (sp_X5_takeTold_6_w1 hS.1 ((St.kp hS (by decide) (by decide) (by decide)).trans en_6_2) 15 (by omega) 20 (by omega))) ?_
        rintro M49 _ ⟨h49, r49, rfl, lr49, ur49⟩
        have hS := St.tr hS h49 (by decide) (by decide)
        refine Tr.sc [(0, r49)] rfl ?_
        refine Tr.pick [2, 1, 0] (ls2 := [(0, (2, 6)), (1, (0, r8)), (2, (0, r32))]) rfl ?_
        exact J52 _ _ hS (by omega)
      · refine Tr.iconst (pc := 40) d_X5_part_40 (by decide) ?_
        refine Tr.goto (pc := 41) (tgt := 52) d_X5_part_41 rfl ?_
        refine Tr.pick [2, 1, 0] (ls2 := [(0, (2, 6)), (1, (0, r8)), (2, (0, r32))]) rfl ?_
        exact J52 _ _ hS (by omega)
    · refine Tr.iconst (pc := 24) d_X5_part_24 (by decide) ?_
      exact Tr.zret (pc := 25) d_X5_part_25 rfl (by omega) ⟨hS, _, rfl, by omega, by omega⟩

def ws_X5_cache_6_w1 : List (Int × Int) := [(6, 0), (6, 1), (6, 5), (7, 1), (7, 2), (7, 3)]
def as_X5_cache_6_w1 : List Int := []
def q_X5_cache_6_w1 (M0 M' : Mem) (r : Option PV) : Prop := St Tru ws_X5_cache_6_w1 as_X5_cache_6_w1 M0 M' ∧ ∃ v : Int, r = some (0, v) ∧ 0 ≤ v ∧ v ≤ 1
set_option maxRecDepth 100000 in
set_option maxHeartbeats 4000000 in
theorem sp_X5_cache_6_w1 {l : Launch} {K : EC} {M0 : Mem} (hI : In Tru M0) (en_6_2 : rd M0 6 2 = 2) (en_6_3 : rd M0 6 3 = 7)   : Tr l K 2 mX5_cache 0 [(0, (2, 6))] [] M0 (q_X5_cache_6_w1 M0) := by
  have hS : St Tru ws_X5_cache_6_w1 as_X5_cache_6_w1 M0 M0 := St.rf hI
  refine Tr.aload_n (pc := 0) (i := 0) d_X5_cache_0 rfl rfl ?_
  refine Tr.callV (pc := 1) (as := []) d_X5_cache_1 s_5_74 ok_X5_goOn rfl rfl (Nat.le_of_ble_eq_true rfl) (Nat.le_of_ble_eq_true rfl) (by decide) (ty_6 hS.1.1) ?_
  refine Tr.imp (Tr.deep (by decide) (sp_X5_goOn_6 hS.1 )) ?_
  rintro M1 _ ⟨h1, r1, rfl, lr1, ur1⟩
  have hS := St.tr hS h1 (by decide) (by decide)
  refine Tr.sc [(0, r1)] rfl ?_
  refine Tr.pop (pc := 4) d_X5_cache_4 ne01 ?_
  refine Tr.aload_n (pc := 5) (i := 0) d_X5_cache_5 rfl rfl ?_
  refine Tr.iconst (pc := 6) d_X5_cache_6 (by decide) ?_
  refine Tr.bipush (pc := 7) d_X5_cache_7 rfl (by decide) ?_
  refine Tr.callV (pc := 9) (as := [_, _]) d_X5_cache_9 s_5_87 ok_X5_takeNumber rfl rfl (Nat.le_of_ble_eq_true rfl) (Nat.le_of_ble_eq_true rfl) (by decide) (ty_6 hS.1.1) ?_
  refine Tr.imp (Tr.deep (by decide) (sp_X5_takeNumber_6_w5 hS.1 ((St.kp hS (by decide) (by decide) (by decide)).trans en_6_2) 1 (by omega) 8 (by omega))) ?_
  rintro M9 _ ⟨h9, r9, rfl, lr9, ur9⟩
  have hS := St.tr hS h9 (by decide) (by decide)
  refine Tr.sc [(0, r9)] rfl ?_
  refine Tr.istore_n (pc := 12) (i := 1) (ls2 := [(1, (0, r9)), (0, (2, 6))]) d_X5_cache_12 rfl (by decide) rfl ?_
  refine Tr.iload_n (pc := 13) (i := 1) d_X5_cache_13 rfl rfl ?_
  have J28 : ∀ (M : Mem) (q28_0 : Int), St Tru ws_X5_cache_6_w1 as_X5_cache_6_w1 M0 M → ((-1) ≤ q28_0 ∧ q28_0 ≤ 8) → Tr l K 2 mX5_cache 28 [(0, (2, 6)), (1, (0, r9))] [(0, q28_0)] M (q_X5_cache_6_w1 M0) := by
    intro M q28_0 hS bq28_0 
    refine Tr.istore_n (pc := 28) (i := 2) (ls2 := [(2, (0, q28_0)), (0, (2, 6)), (1, (0, r9))]) d_X5_cache_28 rfl (by decide) rfl ?_
    refine Tr.iload_n (pc := 29) (i := 2) d_X5_cache_29 rfl rfl ?_
    have J44 : ∀ (M : Mem) (q44_0 : Int), St Tru ws_X5_cache_6_w1 as_X5_cache_6_w1 M0 M → ((-1) ≤ q44_0 ∧ q44_0 ≤ 20) → Tr l K 2 mX5_cache 44 [(0, (2, 6)), (1, (0, r9)), (2, (0, q28_0))] [(0, q44_0)] M (q_X5_cache_6_w1 M0) := by
      intro M q44_0 hS bq44_0 
      refine Tr.istore_n (pc := 44) (i := 3) (ls2 := [(3, (0, q44_0)), (0, (2, 6)), (1, (0, r9)), (2, (0, q28_0))]) d_X5_cache_44 rfl (by decide) rfl ?_
      refine Tr.aload_n (pc := 45) (i := 0) d_X5_cache_45 rfl rfl ?_
      refine Tr.getf (pc := 46) d_X5_cache_46 f_5_22 (by decide) (by decide) (ty_6 hS.1.1) ?_
      refine Tr.tp 7 ((St.kp hS (by decide) (by decide) (by decide)).trans en_6_3) ?_
      refine Tr.iload_n (pc := 49) (i := 1) d_X5_cache_49 rfl rfl ?_
      refine Tr.putfS (pc := 50) (P := St Tru ws_X5_cache_6_w1 as_X5_cache_6_w1 M0) d_X5_cache_50 f_5_117 (by decide) (by decide) (ty_7 hS.1.1) (st_7_1 hS (by decide) (by omega) trivial) (fun M50 hS w50 => ?_)
      refine Tr.aload_n (pc := 53) (i := 0) d_X5_cache_53 rfl rfl ?_
      refine Tr.getf (pc := 54) d_X5_cache_54 f_5_22 (by decide) (by decide) (ty_6 hS.1.1) ?_
      refine Tr.tp 7 ((St.kp hS (by decide) (by decide) (by decide)).trans en_6_3) ?_
      refine Tr.iload_n (pc := 57) (i := 2) d_X5_cache_57 rfl rfl ?_
      refine Tr.putfS (pc := 58) (P := St Tru ws_X5_cache_6_w1 as_X5_cache_6_w1 M0) d_X5_cache_58 f_5_120 (by decide) (by decide) (ty_7 hS.1.1) (st_7_2 hS (by decide) (by omega) trivial) (fun M58 hS w58 => ?_)
      refine Tr.aload_n (pc := 61) (i := 0) d_X5_cache_61 rfl rfl ?_
      refine Tr.getf (pc := 62) d_X5_cache_62 f_5_22 (by decide) (by decide) (ty_6 hS.1.1) ?_
      refine Tr.tp 7 ((St.kp hS (by decide) (by decide) (by decide)).trans en_6_3) ?_
      refine Tr.iload_n (pc := 65) (i := 3) d_X5_cache_65 rfl rfl ?_
      refine Tr.putfS (pc := 66) (P := St Tru ws_X5_cache_6_w1 as_X5_cache_6_w1 M0) d_X5_cache_66 f_5_123 (by decide) (by decide) (ty_7 hS.1.1) (st_7_3 hS (by decide) (by omega) trivial) (fun M66 hS w66 => ?_)
      refine Tr.iload_n (pc := 69) (i := 3) d_X5_cache_69 rfl rfl ?_
      refine Tr.if_lt (pc := 70) (tgt := 86) d_X5_cache_70 rfl (fun c70 => ?_) (fun c70 => ?_)
      · refine Tr.iconst (pc := 86) d_X5_cache_86 (by decide) ?_
        exact Tr.zret (pc := 87) d_X5_cache_87 rfl (by omega) ⟨hS, _, rfl, by omega, by omega⟩
      · refine Tr.aload_n (pc := 73) (i := 0) d_X5_cache_73 rfl rfl ?_
        refine Tr.bipush (pc := 74) d_X5_cache_74 rfl (by decide) ?_
        refine Tr.callV (pc := 76) (as := [_]) d_X5_cache_76 s_5_81 ok_X5_takeSign rfl rfl (Nat.le_of_ble_eq_true rfl) (Nat.le_of_ble_eq_true rfl) (by decide) (ty_6 hS.1.1) ?_
        refine Tr.imp (Tr.deep (by decide) (sp_X5_takeSign_6 hS.1 ((St.kp hS (by decide) (by decide) (by decide)).trans en_6_2) 59 (by omega))) ?_
        rintro M76 _ ⟨h76, r76, rfl, lr76, ur76⟩
        have hS := St.tr hS h76 (by decide) (by decide)
        refine Tr.sc [(0, r76)] rfl ?_
        refine Tr.if_eq (pc := 79) (tgt := 86) d_X5_cache_79 rfl (fun c79 => ?_) (fun c79 => ?_)
        · refine Tr.iconst (pc := 86) d_X5_cache_86 (by decide) ?_
          exact Tr.zret (pc := 87) d_X5_cache_87 rfl (by omega) ⟨hS, _, rfl, by omega, by omega⟩
        · refine Tr.iconst (pc := 82) d_X5_cache_82 (by decide) ?_
          refine Tr.goto (pc := 83) (tgt := 87) d_X5_cache_83 rfl ?_
          exact Tr.zret (pc := 87) d_X5_cache_87 rfl (by omega) ⟨hS, _, rfl, by omega, by omega⟩
    refine Tr.if_ge (pc := 30) (tgt := 37) d_X5_cache_30 rfl (fun c30 => ?_) (fun c30 => ?_)
    · refine Tr.aload_n (pc := 37) (i := 0) d_X5_cache_37 rfl rfl ?_
      refine Tr.iconst (pc := 38) d_X5_cache_38 (by decide) ?_
      refine Tr.bipush (pc := 39) d_X5_cache_39 rfl (by decide) ?_
      refine Tr.callV (pc := 41) (as := [_, _]) d_X5_cache_41 s_5_87 ok_X5_takeNumber rfl rfl (Nat.le_of_ble_eq_true rfl) (Nat.le_of_ble_eq_true rfl) (by decide) (ty_6 hS.1.1) ?_
      refine Tr.imp (Tr.deep (by decide) (sp_X5_takeNumber_6_w3 hS.1 ((St.kp hS (by decide) (by decide) (by decide)).trans en_6_2) 0 (by omega) 20 (by omega))) ?_
      rintro M41 _ ⟨h41, r41, rfl, lr41, ur41⟩
      have hS := St.tr hS h41 (by decide) (by decide)
      refine Tr.sc [(0, r41)] rfl ?_
      refine Tr.pick [1, 2, 0] (ls2 := [(0, (2, 6)), (1, (0, r9)), (2, (0, q28_0))]) rfl ?_
      exact J44 _ _ hS (by omega)
    · refine Tr.iconst (pc := 33) d_X5_cache_33 (by decide) ?_
      refine Tr.goto (pc := 34) (tgt := 44) d_X5_cache_34 rfl ?_
      refine Tr.pick [1, 2, 0] (ls2 := [(0, (2, 6)), (1, (0, r9)), (2, (0, q28_0))]) rfl ?_
      exact J44 _ _ hS (by omega)
  refine Tr.if_ge (pc := 14) (tgt := 21) d_X5_cache_14 rfl (fun c14 => ?_) (fun c14 => ?_)
  · refine Tr.aload_n (pc := 21) (i := 0) d_X5_cache_21 rfl rfl ?_
    refine Tr.iconst (pc := 22) d_X5_cache_22 (by decide) ?_
    refine Tr.bipush (pc := 23) d_X5_cache_23 rfl (by decide) ?_
    refine Tr.callV (pc := 25) (as := [_, _]) d_X5_cache_25 s_5_87 ok_X5_takeNumber rfl rfl (Nat.le_of_ble_eq_true rfl) (Nat.le_of_ble_eq_true rfl) (by decide) (ty_6 hS.1.1) ?_
    refine Tr.imp (Tr.deep (by decide) (sp_X5_takeNumber_6_w5 hS.1 ((St.kp hS (by decide) (by decide) (by decide)).trans en_6_2) 1 (by omega) 8 (by omega))) ?_
    rintro M25 _ ⟨h25, r25, rfl, lr25, ur25⟩
    have hS := St.tr hS h25 (by decide) (by decide)
    refine Tr.sc [(0, r25)] rfl ?_
    refine Tr.pick [1, 0] (ls2 := [(0, (2, 6)), (1, (0, r9))]) rfl ?_
    exact J28 _ _ hS (by omega)
  · refine Tr.iconst (pc := 17) d_X5_cache_17 (by decide) ?_
    refine Tr.goto (pc := 18) (tgt := 28) d_X5_cache_18 rfl ?_
    refine Tr.pick [1, 0] (ls2 := [(0, (2, 6)), (1, (0, r9))]) rfl ?_
    exact J28 _ _ hS (by omega)

def ws_X5_heart_6_w1 : List (Int × Int) := [(6, 0), (6, 1), (6, 5), (7, 0)]
def as_X5_heart_6_w1 : List Int := []
def q_X5_heart_6_w1 (M0 M' : Mem) (r : Option PV) : Prop := St Tru ws_X5_heart_6_w1 as_X5_heart_6_w1 M0 M' ∧ ∃ v : Int, r = some (0, v) ∧ 0 ≤ v ∧ v ≤ 1
set_option maxRecDepth 100000 in
set_option maxHeartbeats 4000000 in
theorem sp_X5_heart_6_w1 {l : Launch} {K : EC} {M0 : Mem} (hI : In Tru M0) (en_6_2 : rd M0 6 2 = 2) (en_6_3 : rd M0 6 3 = 7)   : Tr l K 2 mX5_heart 0 [(0, (2, 6))] [] M0 (q_X5_heart_6_w1 M0) := by
  have hS : St Tru ws_X5_heart_6_w1 as_X5_heart_6_w1 M0 M0 := St.rf hI
  refine Tr.aload_n (pc := 0) (i := 0) d_X5_heart_0 rfl rfl ?_
  refine Tr.callV (pc := 1) (as := []) d_X5_heart_1 s_5_74 ok_X5_goOn rfl rfl (Nat.le_of_ble_eq_true rfl) (Nat.le_of_ble_eq_true rfl) (by decide) (ty_6 hS.1.1) ?_
  refine Tr.imp (Tr.deep (by decide) (sp_X5_goOn_6 hS.1 )) ?_
  rintro M1 _ ⟨h1, r1, rfl, lr1, ur1⟩
  have hS := St.tr hS h1 (by decide) (by decide)
  refine Tr.sc [(0, r1)] rfl ?_
  refine Tr.pop (pc := 4) d_X5_heart_4 ne01 ?_
  refine Tr.aload_n (pc := 5) (i := 0) d_X5_heart_5 rfl rfl ?_
  refine Tr.iconst (pc := 6) d_X5_heart_6 (by decide) ?_
  refine Tr.sipush (pc := 7) d_X5_heart_7 rfl (by decide) ?_
  refine Tr.callV (pc := 10) (as := [_, _]) d_X5_heart_10 s_5_87 ok_X5_takeNumber rfl rfl (Nat.le_of_ble_eq_true rfl) (Nat.le_of_ble_eq_true rfl) (by decide) (ty_6 hS.1.1) ?_
  refine Tr.imp (Tr.deep (by decide) (sp_X5_takeNumber_6_w2 hS.1 ((St.kp hS (by decide) (by decide) (by decide)).trans en_6_2) 0 (by omega) 999 (by omega))) ?_
  rintro M10 _ ⟨h10, r10, rfl, lr10, ur10⟩
  have hS := St.tr hS h10 (by decide) (by decide)
  refine Tr.sc [(0, r10)] rfl ?_
  refine Tr.istore_n (pc := 13) (i := 1) (ls2 := [(1, (0, r10)), (0, (2, 6))]) d_X5_heart_13 rfl (by decide) rfl ?_
  refine Tr.aload_n (pc := 14) (i := 0) d_X5_heart_14 rfl rfl ?_
  refine Tr.getf (pc := 15) d_X5_heart_15 f_5_22 (by decide) (by decide) (ty_6 hS.1.1) ?_
  refine Tr.tp 7 ((St.kp hS (by decide) (by decide) (by decide)).trans en_6_3) ?_
  refine Tr.iload_n (pc := 18) (i := 1) d_X5_heart_18 rfl rfl ?_
  refine Tr.putfS (pc := 19) (P := St Tru ws_X5_heart_6_w1 as_X5_heart_6_w1 M0) d_X5_heart_19 f_5_115 (by decide) (by decide) (ty_7 hS.1.1) (st_7_0 hS (by decide) (by omega) trivial) (fun M19 hS w19 => ?_)
  refine Tr.iload_n (pc := 22) (i := 1) d_X5_heart_22 rfl rfl ?_
  refine Tr.if_lt (pc := 23) (tgt := 39) d_X5_heart_23 rfl (fun c23 => ?_) (fun c23 => ?_)
  · refine Tr.iconst (pc := 39) d_X5_heart_39 (by decide) ?_
    exact Tr.zret (pc := 40) d_X5_heart_40 rfl (by omega) ⟨hS, _, rfl, by omega, by omega⟩
  · refine Tr.aload_n (pc := 26) (i := 0) d_X5_heart_26 rfl rfl ?_
    refine Tr.bipush (pc := 27) d_X5_heart_27 rfl (by decide) ?_
    refine Tr.callV (pc := 29) (as := [_]) d_X5_heart_29 s_5_81 ok_X5_takeSign rfl rfl (Nat.le_of_ble_eq_true rfl) (Nat.le_of_ble_eq_true rfl) (by decide) (ty_6 hS.1.1) ?_
    refine Tr.imp (Tr.deep (by decide) (sp_X5_takeSign_6 hS.1 ((St.kp hS (by decide) (by decide) (by decide)).trans en_6_2) 59 (by omega))) ?_
    rintro M29 _ ⟨h29, r29, rfl, lr29, ur29⟩
    have hS := St.tr hS h29 (by decide) (by decide)
    refine Tr.sc [(0, r29)] rfl ?_
    refine Tr.if_eq (pc := 32) (tgt := 39) d_X5_heart_32 rfl (fun c32 => ?_) (fun c32 => ?_)
    · refine Tr.iconst (pc := 39) d_X5_heart_39 (by decide) ?_
      exact Tr.zret (pc := 40) d_X5_heart_40 rfl (by omega) ⟨hS, _, rfl, by omega, by omega⟩
    · refine Tr.iconst (pc := 35) d_X5_heart_35 (by decide) ?_
      refine Tr.goto (pc := 36) (tgt := 40) d_X5_heart_36 rfl ?_
      exact Tr.zret (pc := 40) d_X5_heart_40 rfl (by omega) ⟨hS, _, rfl, by omega, by omega⟩

def ws_X5_declaration_6_w1 : List (Int × Int) := [(6, 0), (6, 1), (6, 5), (7, 0), (7, 1), (7, 2), (7, 3), (8, 0), (8, 1), (8, 2)]
def as_X5_declaration_6_w1 : List Int := [9, 10, 11, 12, 13, 14]
def q_X5_declaration_6_w1 (M0 M' : Mem) (r : Option PV) : Prop := St Tru ws_X5_declaration_6_w1 as_X5_declaration_6_w1 M0 M' ∧ ∃ v : Int, r = some (0, v) ∧ 0 ≤ v ∧ v ≤ 1
set_option maxRecDepth 100000 in
set_option maxHeartbeats 4000000 in
theorem sp_X5_declaration_6_w1 {l : Launch} {K : EC} {M0 : Mem} {xq : Int} (hI : In Tru M0) (hE : e_all K xq) (en_6_2 : rd M0 6 2 = 2) (en_6_3 : rd M0 6 3 = 7) (a1 : Int) (ha1 : (-2147483648) ≤ a1 ∧ a1 ≤ 5)  : Tr l K 4 mX5_declaration 0 [(0, (2, 6)), (1, (0, a1))] [] M0 (q_X5_declaration_6_w1 M0) := by
  have hS : St Tru ws_X5_declaration_6_w1 as_X5_declaration_6_w1 M0 M0 := St.rf hI
  refine Tr.iload_n (pc := 0) (i := 1) d_X5_declaration_0 rfl rfl ?_
  rcases (show (a1 < 0 ∨ 3 < a1) ∨ a1 = 0 ∨ a1 = 1 ∨ a1 = 2 ∨ a1 = 3 by omega) with c1 | c1 | c1 | c1 | c1
  · refine Tr.tswOut (pc := 1) (tgt := 52) d_X5_declaration_1 c1 rfl ?_
    refine Tr.aload_n (pc := 52) (i := 0) d_X5_declaration_52 rfl rfl ?_
    refine Tr.iconst (pc := 53) d_X5_declaration_53 (by decide) ?_
    refine Tr.callV (pc := 54) (as := [_]) d_X5_declaration_54 s_5_112 ok_X5_beginNamed rfl rfl (Nat.le_of_ble_eq_true rfl) (Nat.le_of_ble_eq_true rfl) (by decide) (ty_6 hS.1.1) ?_
    refine Tr.imp (Tr.deep (by decide) (sp_X5_beginNamed_6_w3 hS.1 hE ((St.kp hS (by decide) (by decide) (by decide)).trans en_6_2) ((St.kp hS (by decide) (by decide) (by decide)).trans en_6_3) 2 (by omega))) ?_
    rintro M54 _ ⟨h54, r54, rfl, lr54, ur54⟩
    have hS := St.tr hS h54 (by decide) (by decide)
    refine Tr.sc [(0, r54)] rfl ?_
    refine Tr.if_eq (pc := 57) (tgt := 73) d_X5_declaration_57 rfl (fun c57 => ?_) (fun c57 => ?_)
    · refine Tr.iconst (pc := 73) d_X5_declaration_73 (by decide) ?_
      exact Tr.zret (pc := 74) d_X5_declaration_74 rfl (by omega) ⟨hS, _, rfl, by omega, by omega⟩
    · refine Tr.aload_n (pc := 60) (i := 0) d_X5_declaration_60 rfl rfl ?_
      refine Tr.bipush (pc := 61) d_X5_declaration_61 rfl (by decide) ?_
      refine Tr.callV (pc := 63) (as := [_]) d_X5_declaration_63 s_5_81 ok_X5_takeSign rfl rfl (Nat.le_of_ble_eq_true rfl) (Nat.le_of_ble_eq_true rfl) (by decide) (ty_6 hS.1.1) ?_
      refine Tr.imp (Tr.deep (by decide) (sp_X5_takeSign_6 hS.1 ((St.kp hS (by decide) (by decide) (by decide)).trans en_6_2) 59 (by omega))) ?_
      rintro M63 _ ⟨h63, r63, rfl, lr63, ur63⟩
      have hS := St.tr hS h63 (by decide) (by decide)
      refine Tr.sc [(0, r63)] rfl ?_
      refine Tr.if_eq (pc := 66) (tgt := 73) d_X5_declaration_66 rfl (fun c66 => ?_) (fun c66 => ?_)
      · refine Tr.iconst (pc := 73) d_X5_declaration_73 (by decide) ?_
        exact Tr.zret (pc := 74) d_X5_declaration_74 rfl (by omega) ⟨hS, _, rfl, by omega, by omega⟩
      · refine Tr.iconst (pc := 69) d_X5_declaration_69 (by decide) ?_
        refine Tr.goto (pc := 70) (tgt := 74) d_X5_declaration_70 rfl ?_
        exact Tr.zret (pc := 74) d_X5_declaration_74 rfl (by omega) ⟨hS, _, rfl, by omega, by omega⟩
  · refine Tr.tp 0 c1 ?_
    refine Tr.tswIn (pc := 1) (off := 31) (tgt := 32) d_X5_declaration_1 (by decide) (by decide) rfl rfl ?_
    refine Tr.aload_n (pc := 32) (i := 0) d_X5_declaration_32 rfl rfl ?_
    refine Tr.callV (pc := 33) (as := []) d_X5_declaration_33 s_5_100 ok_X5_heart rfl rfl (Nat.le_of_ble_eq_true rfl) (Nat.le_of_ble_eq_true rfl) (by decide) (ty_6 hS.1.1) ?_
    refine Tr.imp (Tr.deep (by decide) (sp_X5_heart_6_w1 hS.1 ((St.kp hS (by decide) (by decide) (by decide)).trans en_6_2) ((St.kp hS (by decide) (by decide) (by decide)).trans en_6_3))) ?_
    rintro M33 _ ⟨h33, r33, rfl, lr33, ur33⟩
    have hS := St.tr hS h33 (by decide) (by decide)
    refine Tr.sc [(0, r33)] rfl ?_
    exact Tr.zret (pc := 36) d_X5_declaration_36 rfl (by omega) ⟨hS, _, rfl, by omega, by omega⟩
  · refine Tr.tp 1 c1 ?_
    refine Tr.tswIn (pc := 1) (off := 36) (tgt := 37) d_X5_declaration_1 (by decide) (by decide) rfl rfl ?_
    refine Tr.aload_n (pc := 37) (i := 0) d_X5_declaration_37 rfl rfl ?_
    refine Tr.callV (pc := 38) (as := []) d_X5_declaration_38 s_5_103 ok_X5_cache rfl rfl (Nat.le_of_ble_eq_true rfl) (Nat.le_of_ble_eq_true rfl) (by decide) (ty_6 hS.1.1) ?_
    refine Tr.imp (Tr.deep (by decide) (sp_X5_cache_6_w1 hS.1 ((St.kp hS (by decide) (by decide) (by decide)).trans en_6_2) ((St.kp hS (by decide) (by decide) (by decide)).trans en_6_3))) ?_
    rintro M38 _ ⟨h38, r38, rfl, lr38, ur38⟩
    have hS := St.tr hS h38 (by decide) (by decide)
    refine Tr.sc [(0, r38)] rfl ?_
    exact Tr.zret (pc := 41) d_X5_declaration_41 rfl (by omega) ⟨hS, _, rfl, by omega, by omega⟩
  · refine Tr.tp 2 c1 ?_
    refine Tr.tswIn (pc := 1) (off := 41) (tgt := 42) d_X5_declaration_1 (by decide) (by decide) rfl rfl ?_
    refine Tr.aload_n (pc := 42) (i := 0) d_X5_declaration_42 rfl rfl ?_
    refine Tr.callV (pc := 43) (as := []) d_X5_declaration_43 s_5_106 ok_X5_part rfl rfl (Nat.le_of_ble_eq_true rfl) (Nat.le_of_ble_eq_true rfl) (by decide) (ty_6 hS.1.1) ?_
    refine Tr.imp (Tr.deep (by decide) (sp_X5_part_6_w1 hS.1 hE ((St.kp hS (by decide) (by decide) (by decide)).trans en_6_2) ((St.kp hS (by decide) (by decide) (by decide)).trans en_6_3))) ?_
    rintro M43 _ ⟨h43, r43, rfl, lr43, ur43⟩
    have hS := St.tr hS h43 (by decide) (by decide)
    refine Tr.sc [(0, r43)] rfl ?_
    exact Tr.zret (pc := 46) d_X5_declaration_46 rfl (by omega) ⟨hS, _, rfl, by omega, by omega⟩
  · refine Tr.tp 3 c1 ?_
    refine Tr.tswIn (pc := 1) (off := 46) (tgt := 47) d_X5_declaration_1 (by decide) (by decide) rfl rfl ?_
    refine Tr.aload_n (pc := 47) (i := 0) d_X5_declaration_47 rfl rfl ?_
    refine Tr.callV (pc := 48) (as := []) d_X5_declaration_48 s_5_109 ok_X5_input rfl rfl (Nat.le_of_ble_eq_true rfl) (Nat.le_of_ble_eq_true rfl) (by decide) (ty_6 hS.1.1) ?_
    refine Tr.imp (Tr.deep (by decide) (sp_X5_input_6_w1 hS.1 hE ((St.kp hS (by decide) (by decide) (by decide)).trans en_6_2) ((St.kp hS (by decide) (by decide) (by decide)).trans en_6_3))) ?_
    rintro M48 _ ⟨h48, r48, rfl, lr48, ur48⟩
    have hS := St.tr hS h48 (by decide) (by decide)
    refine Tr.sc [(0, r48)] rfl ?_
    exact Tr.zret (pc := 51) d_X5_declaration_51 rfl (by omega) ⟨hS, _, rfl, by omega, by omega⟩

def ws_X5_declarations_6_w1 : List (Int × Int) := [(6, 0), (6, 1), (6, 5), (7, 0), (7, 1), (7, 2), (7, 3), (8, 0), (8, 1), (8, 2)]
def as_X5_declarations_6_w1 : List Int := [9, 10, 11, 12, 13, 14]
def q_X5_declarations_6_w1 (M0 M' : Mem) (r : Option PV) : Prop := St Tru ws_X5_declarations_6_w1 as_X5_declarations_6_w1 M0 M' ∧ ∃ v : Int, r = some (0, v) ∧ 0 ≤ v ∧ v ≤ 1
set_option maxRecDepth 100000 in
set_option maxHeartbeats 4000000 in
theorem sp_X5_declarations_6_w1 {l : Launch} {K : EC} {M0 : Mem} {xq : Int} (hI : In Tru M0) (hE : e_all K xq) (en_6_2 : rd M0 6 2 = 2) (en_6_3 : rd M0 6 3 = 7)   : Tr l K 5 mX5_declarations 0 [(0, (2, 6))] [] M0 (q_X5_declarations_6_w1 M0) := by
  have hS : St Tru ws_X5_declarations_6_w1 as_X5_declarations_6_w1 M0 M0 := St.rf hI
  refine Tr.iconst (pc := 0) d_X5_declarations_0 (by decide) ?_
  refine Tr.istore_n (pc := 1) (i := 1) (ls2 := [(1, (0, 1)), (0, (2, 6))]) d_X5_declarations_1 rfl (by decide) rfl ?_
  refine Tr.iconst (pc := 2) d_X5_declarations_2 (by decide) ?_
  refine Tr.istore_n (pc := 3) (i := 2) (ls2 := [(2, (0, 0)), (1, (0, 1)), (0, (2, 6))]) d_X5_declarations_3 rfl (by decide) rfl ?_
  have J4 : ∀ (n4 : Nat) (M : Mem) (p4_1 p4_2 : Int), St Tru ws_X5_declarations_6_w1 as_X5_declarations_6_w1 M0 M → (0 ≤ p4_1 ∧ p4_1 ≤ 1) → (0 ≤ p4_2 ∧ p4_2 ≤ 900) → (900 - p4_2).toNat < n4 → Tr l K 5 mX5_declarations 4 [(0, (2, 6)), (1, (0, p4_1)), (2, (0, p4_2))] [] M (q_X5_declarations_6_w1 M0) := by
    intro n4
    induction n4 with
    | zero => intro M p4_1 p4_2 hS bp4_1 bp4_2  hm4; exact absurd hm4 (Nat.not_lt_zero _)
    | succ n4 J4 =>
      intro M p4_1 p4_2 hS bp4_1 bp4_2  hm4
      refine Tr.iload_n (pc := 4) (i := 2) d_X5_declarations_4 rfl rfl ?_
      refine Tr.sipush (pc := 5) d_X5_declarations_5 rfl (by decide) ?_
      refine Tr.icmp_ge (pc := 8) (tgt := 70) d_X5_declarations_8 rfl (fun c8 => ?_) (fun c8 => ?_)
      · refine Tr.iload_n (pc := 70) (i := 1) d_X5_declarations_70 rfl rfl ?_
        exact Tr.zret (pc := 71) d_X5_declarations_71 rfl (by omega) ⟨hS, _, rfl, by omega, by omega⟩
      · refine Tr.iload_n (pc := 11) (i := 1) d_X5_declarations_11 rfl rfl ?_
        refine Tr.if_eq (pc := 12) (tgt := 70) d_X5_declarations_12 rfl (fun c12 => ?_) (fun c12 => ?_)
        · refine Tr.iload_n (pc := 70) (i := 1) d_X5_declarations_70 rfl rfl ?_
          exact Tr.zret (pc := 71) d_X5_declarations_71 rfl (by omega) ⟨hS, _, rfl, by omega, by omega⟩
        · refine Tr.aload_n (pc := 15) (i := 0) d_X5_declarations_15 rfl rfl ?_
          refine Tr.getf (pc := 16) d_X5_declarations_16 f_5_18 (by decide) (by decide) (ty_6 hS.1.1) ?_
          refine Tr.tp 2 ((St.kp hS (by decide) (by decide) (by decide)).trans en_6_2) ?_
          refine Tr.getf (pc := 19) d_X5_declarations_19 f_5_50 (by decide) (by decide) (ty_2 hS.1.1) ?_
          refine Tr.tp 3 (fx_2_0 hS.1.1) ?_
          refine Tr.aload_n (pc := 22) (i := 0) d_X5_declarations_22 rfl rfl ?_
          refine Tr.getf (pc := 23) d_X5_declarations_23 f_5_36 (by decide) (by decide) (ty_6 hS.1.1) ?_
          refine Tr.gen (P := fun v => 0 ≤ v ∧ v ≤ 900) (ir_6_5 hS.1.2.1) (fun r23 er23 br23 => ?_)
          refine Tr.iald (pc := 26) d_X5_declarations_26 (ty_3 hS.1.1) (by omega) (by omega) ?_
          refine Tr.gen (P := fun v => (-2147483648) ≤ v ∧ v ≤ 2147483647) (ar_3 hS.1.2.1 _) (fun r26 er26 br26 => ?_)
          refine Tr.iconst (pc := 27) d_X5_declarations_27 (by decide) ?_
          refine Tr.icmp_ne (pc := 28) (tgt := 70) d_X5_declarations_28 rfl (fun c28 => ?_) (fun c28 => ?_)
          · refine Tr.iload_n (pc := 70) (i := 1) d_X5_declarations_70 rfl rfl ?_
            exact Tr.zret (pc := 71) d_X5_declarations_71 rfl (by omega) ⟨hS, _, rfl, by omega, by omega⟩
          · refine Tr.aload_n (pc := 31) (i := 0) d_X5_declarations_31 rfl rfl ?_
            refine Tr.getf (pc := 32) d_X5_declarations_32 f_5_18 (by decide) (by decide) (ty_6 hS.1.1) ?_
            refine Tr.tp 2 ((St.kp hS (by decide) (by decide) (by decide)).trans en_6_2) ?_
            refine Tr.getf (pc := 35) d_X5_declarations_35 f_5_68 (by decide) (by decide) (ty_2 hS.1.1) ?_
            refine Tr.tp 5 (fx_2_2 hS.1.1) ?_
            refine Tr.aload_n (pc := 38) (i := 0) d_X5_declarations_38 rfl rfl ?_
            refine Tr.getf (pc := 39) d_X5_declarations_39 f_5_36 (by decide) (by decide) (ty_6 hS.1.1) ?_
            refine Tr.tp r23 er23 ?_
            refine Tr.iald (pc := 42) d_X5_declarations_42 (ty_5 hS.1.1) (by omega) (by omega) ?_
            refine Tr.gen (P := fun v => (-2147483648) ≤ v ∧ v ≤ 2147483647) (ar_5 hS.1.2.1 _) (fun r42 er42 br42 => ?_)
            refine Tr.iconst (pc := 43) d_X5_declarations_43 (by decide) ?_
            refine Tr.icmp_gt (pc := 44) (tgt := 70) d_X5_declarations_44 rfl (fun c44 => ?_) (fun c44 => ?_)
            · refine Tr.iload_n (pc := 70) (i := 1) d_X5_declarations_70 rfl rfl ?_
              exact Tr.zret (pc := 71) d_X5_declarations_71 rfl (by omega) ⟨hS, _, rfl, by omega, by omega⟩
            · refine Tr.aload_n (pc := 47) (i := 0) d_X5_declarations_47 rfl rfl ?_
              refine Tr.aload_n (pc := 48) (i := 0) d_X5_declarations_48 rfl rfl ?_
              refine Tr.getf (pc := 49) d_X5_declarations_49 f_5_18 (by decide) (by decide) (ty_6 hS.1.1) ?_
              refine Tr.tp 2 ((St.kp hS (by decide) (by decide) (by decide)).trans en_6_2) ?_
              refine Tr.getf (pc := 52) d_X5_declarations_52 f_5_68 (by decide) (by decide) (ty_2 hS.1.1) ?_
              refine Tr.tp 5 (fx_2_2 hS.1.1) ?_
              refine Tr.aload_n (pc := 55) (i := 0) d_X5_declarations_55 rfl rfl ?_
              refine Tr.getf (pc := 56) d_X5_declarations_56 f_5_36 (by decide) (by decide) (ty_6 hS.1.1) ?_
              refine Tr.tp r23 er23 ?_
              refine Tr.iald (pc := 59) d_X5_declarations_59 (ty_5 hS.1.1) (by omega) (by omega) ?_
              refine Tr.tp r42 er42 ?_
              refine Tr.callV (pc := 60) (as := [_]) d_X5_declarations_60 s_5_97 ok_X5_declaration rfl rfl (Nat.le_of_ble_eq_true rfl) (Nat.le_of_ble_eq_true rfl) (by decide) (ty_6 hS.1.1) ?_
              refine Tr.imp (Tr.deep (by decide) (sp_X5_declaration_6_w1 hS.1 hE ((St.kp hS (by decide) (by decide) (by decide)).trans en_6_2) ((St.kp hS (by decide) (by decide) (by decide)).trans en_6_3) r42 (by omega))) ?_
              rintro M60 _ ⟨h60, r60, rfl, lr60, ur60⟩
              have hS := St.tr hS h60 (by decide) (by decide)
              refine Tr.sc [(0, r60)] rfl ?_
              refine Tr.istore_n (pc := 63) (i := 1) (ls2 := [(1, (0, r60)), (0, (2, 6)), (2, (0, p4_2))]) d_X5_declarations_63 rfl (by decide) rfl ?_
              refine Tr.iincV (pc := 64) (n2 := (p4_2 + 1)) (ls2 := [(2, (0, (p4_2 + 1))), (1, (0, r60)), (0, (2, 6))]) d_X5_declarations_64 rfl (by decide) ((w32_id (by omega)).trans (by omega)) rfl ?_
              refine Tr.goto (pc := 67) (tgt := 4) d_X5_declarations_67 rfl ?_
              refine Tr.pick [2, 1, 0] (ls2 := [(0, (2, 6)), (1, (0, r60)), (2, (0, (p4_2 + 1)))]) rfl ?_
              exact J4 _ _ _ hS (by omega) (by omega) (by omega)
  refine Tr.pick [2, 1, 0] (ls2 := [(0, (2, 6)), (1, (0, 1)), (2, (0, 0))]) rfl ?_
  exact J4 _ _ _ _ hS (by omega) (by omega) (Nat.lt_succ_self _)

def ws_X4_open_15 : List (Int × Int) := [(15, 0)]
def as_X4_open_15 : List Int := [16, 17, 18, 19, 20, 21, 22]
def q_X4_open_15 (M0 M' : Mem) (r : Option PV) : Prop := St Tru ws_X4_open_15 as_X4_open_15 M0 M' ∧ ∃ v : Int, r = some (0, v) ∧ 0 ≤ v ∧ v ≤ 59
set_option maxRecDepth 100000 in
set_option maxHeartbeats 4000000 in
theorem sp_X4_open_15 {l : Launch} {K : EC} {M0 : Mem} (hI : In Tru M0)  (a1 : Int) (ha1 : (-2147483648) ≤ a1 ∧ a1 ≤ 2147483647) (a2 : Int) (ha2 : (-1) ≤ a2 ∧ a2 ≤ (-1))  (hpm : rd M0 15 0 ≤ 59) : Tr l K 0 mX4_open 0 [(0, (2, 15)), (1, (0, a1)), (2, (0, a2))] [] M0 (q_X4_open_15 M0) := by
  have hS : St Tru ws_X4_open_15 as_X4_open_15 M0 M0 := St.rf hI
  refine Tr.aload_n (pc := 0) (i := 0) d_X4_open_0 rfl rfl ?_
  refine Tr.getf (pc := 1) d_X4_open_1 f_4_45 (by decide) (by decide) (ty_15 hS.1.1) ?_
  refine Tr.gen (P := fun v => 0 ≤ v ∧ v ≤ 59) (by have h8 := ir_15_0 hS.1.2.1; exact ⟨h8.1, hpm⟩) (fun r1 er1 br1 => ?_)
  refine Tr.istore_n (pc := 4) (i := 3) (ls2 := [(3, (0, r1)), (0, (2, 15)), (1, (0, a1)), (2, (0, a2))]) d_X4_open_4 rfl (by decide) rfl ?_
  refine Tr.aload_n (pc := 5) (i := 0) d_X4_open_5 rfl rfl ?_
  refine Tr.getf (pc := 6) d_X4_open_6 f_4_9 (by decide) (by decide) (ty_15 hS.1.1) ?_
  refine Tr.tp 16 (fx_15_1 hS.1.1) ?_
  refine Tr.iload_n (pc := 9) (i := 3) d_X4_open_9 rfl rfl ?_
  refine Tr.iload_n (pc := 10) (i := 1) d_X4_open_10 rfl rfl ?_
  refine Tr.iastS (pc := 11) (P := St Tru ws_X4_open_15 as_X4_open_15 M0) d_X4_open_11 (ty_16 hS.1.1) (by omega) (by omega) (sa_16 hS (by decide) (by omega) trivial) (fun M11 hS w11 => ?_)
  refine Tr.aload_n (pc := 12) (i := 0) d_X4_open_12 rfl rfl ?_
  refine Tr.getf (pc := 13) d_X4_open_13 f_4_15 (by decide) (by decide) (ty_15 hS.1.1) ?_
  refine Tr.tp 17 (fx_15_2 hS.1.1) ?_
  refine Tr.iload_n (pc := 16) (i := 3) d_X4_open_16 rfl rfl ?_
  refine Tr.iconst (pc := 17) d_X4_open_17 (by decide) ?_
  refine Tr.iastS (pc := 18) (P := St Tru ws_X4_open_15 as_X4_open_15 M0) d_X4_open_18 (ty_17 hS.1.1) (by omega) (by omega) (sa_17 hS (by decide) (by omega) trivial) (fun M18 hS w18 => ?_)
  refine Tr.aload_n (pc := 19) (i := 0) d_X4_open_19 rfl rfl ?_
  refine Tr.getf (pc := 20) d_X4_open_20 f_4_18 (by decide) (by decide) (ty_15 hS.1.1) ?_
  refine Tr.tp 18 (fx_15_3 hS.1.1) ?_
  refine Tr.iload_n (pc := 23) (i := 3) d_X4_open_23 rfl rfl ?_
  refine Tr.aload_n (pc := 24) (i := 0) d_X4_open_24 rfl rfl ?_
  refine Tr.getf (pc := 25) d_X4_open_25 f_4_49 (by decide) (by decide) (ty_15 hS.1.1) ?_
  refine Tr.gen (P := fun v => 0 ≤ v ∧ v ≤ 900) (ir_15_11 hS.1.2.1) (fun r25 er25 br25 => ?_)
  refine Tr.iastS (pc := 28) (P := St Tru ws_X4_open_15 as_X4_open_15 M0) d_X4_open_28 (ty_18 hS.1.1) (by omega) (by omega) (sa_18 hS (by decide) (by omega) trivial) (fun M28 hS w28 => ?_)
  refine Tr.aload_n (pc := 29) (i := 0) d_X4_open_29 rfl rfl ?_
  refine Tr.getf (pc := 30) d_X4_open_30 f_4_21 (by decide) (by decide) (ty_15 hS.1.1) ?_
  refine Tr.tp 19 (fx_15_4 hS.1.1) ?_
  refine Tr.iload_n (pc := 33) (i := 3) d_X4_open_33 rfl rfl ?_
  refine Tr.iconst (pc := 34) d_X4_open_34 (by decide) ?_
  refine Tr.iastS (pc := 35) (P := St Tru ws_X4_open_15 as_X4_open_15 M0) d_X4_open_35 (ty_19 hS.1.1) (by omega) (by omega) (sa_19 hS (by decide) (by omega) trivial) (fun M35 hS w35 => ?_)
  refine Tr.aload_n (pc := 36) (i := 0) d_X4_open_36 rfl rfl ?_
  refine Tr.getf (pc := 37) d_X4_open_37 f_4_24 (by decide) (by decide) (ty_15 hS.1.1) ?_
  refine Tr.tp 20 (fx_15_5 hS.1.1) ?_
  refine Tr.iload_n (pc := 40) (i := 3) d_X4_open_40 rfl rfl ?_
  refine Tr.iconst (pc := 41) d_X4_open_41 (by decide) ?_
  refine Tr.iastS (pc := 42) (P := St Tru ws_X4_open_15 as_X4_open_15 M0) d_X4_open_42 (ty_20 hS.1.1) (by omega) (by omega) (sa_20 hS (by decide) (by omega) trivial) (fun M42 hS w42 => ?_)
  refine Tr.aload_n (pc := 43) (i := 0) d_X4_open_43 rfl rfl ?_
  refine Tr.getf (pc := 44) d_X4_open_44 f_4_27 (by decide) (by decide) (ty_15 hS.1.1) ?_
  refine Tr.tp 21 (fx_15_6 hS.1.1) ?_
  refine Tr.iload_n (pc := 47) (i := 3) d_X4_open_47 rfl rfl ?_
  refine Tr.iconst (pc := 48) d_X4_open_48 (by decide) ?_
  refine Tr.iastS (pc := 49) (P := St Tru ws_X4_open_15 as_X4_open_15 M0) d_X4_open_49 (ty_21 hS.1.1) (by omega) (by omega) (sa_21 hS (by decide) (by omega) trivial) (fun M49 hS w49 => ?_)
  refine Tr.aload_n (pc := 50) (i := 0) d_X4_open_50 rfl rfl ?_
  refine Tr.getf (pc := 51) d_X4_open_51 f_4_30 (by decide) (by decide) (ty_15 hS.1.1) ?_
  refine Tr.tp 22 (fx_15_7 hS.1.1) ?_
  refine Tr.iload_n (pc := 54) (i := 3) d_X4_open_54 rfl rfl ?_
  refine Tr.iload_n (pc := 55) (i := 2) d_X4_open_55 rfl rfl ?_
  refine Tr.tp (-1) (by omega) ?_
  refine Tr.iastS (pc := 56) (P := St Tru ws_X4_open_15 as_X4_open_15 M0) d_X4_open_56 (ty_22 hS.1.1) (by omega) (by omega) (sa_22 hS (by decide) (by omega) trivial) (fun M56 hS w56 => ?_)
  refine Tr.aload_n (pc := 57) (i := 0) d_X4_open_57 rfl rfl ?_
  refine Tr.dup (pc := 58) d_X4_open_58 ne21 ?_
  refine Tr.getf (pc := 59) d_X4_open_59 f_4_45 (by decide) (by decide) (ty_15 hS.1.1) ?_
  refine Tr.tp r1 ((Wr.b w56 rfl).trans ((Wr.b w49 rfl).trans ((Wr.b w42 rfl).trans ((Wr.b w35 rfl).trans ((Wr.b w28 rfl).trans ((Wr.b w18 rfl).trans ((Wr.b w11 rfl).trans er1))))))) ?_
  refine Tr.iconst (pc := 62) d_X4_open_62 (by decide) ?_
  refine Tr.iadd (pc := 63) d_X4_open_63 ?_
  refine Tr.tp (r1 + 1) ((w32_id (by omega)).trans (by omega)) ?_
  refine Tr.putfS (pc := 64) (P := St Tru ws_X4_open_15 as_X4_open_15 M0) d_X4_open_64 f_4_45 (by decide) (by decide) (ty_15 hS.1.1) (st_15_0 hS (by decide) (by omega) trivial) (fun M64 hS w64 => ?_)
  refine Tr.iload_n (pc := 67) (i := 3) d_X4_open_67 rfl rfl ?_
  exact Tr.iret (pc := 68) d_X4_open_68 rfl ⟨hS, _, rfl, by omega, by omega⟩
end
/-! 43.13 -/
section
def ws_X4_emit_15 : List (Int × Int) := [(15, 11)]
def as_X4_emit_15 : List Int := [24, 25]
def q_X4_emit_15 (M0 M' : Mem) (r : Option PV) : Prop := St Tru ws_X4_emit_15 as_X4_emit_15 M0 M' ∧ r = none
set_option maxRecDepth 100000 in
set_option maxHeartbeats 4000000 in
theorem sp_X4_emit_15 {l : Launch} {K : EC} {M0 : Mem} (hI : In Tru M0)  (a1 : Int) (ha1 : 3 ≤ a1 ∧ a1 ≤ 3) (a2 : Int) (ha2 : 0 ≤ a2 ∧ a2 ≤ 0) (hp0 : (a1 = 1 → 0 ≤ a2 ∧ a2 ≤ 2) ∧ (a1 = 2 ∨ a1 = 4 → 0 ≤ a2 ∧ a2 ≤ 5)) : Tr l K 0 mX4_emit 0 [(0, (2, 15)), (1, (0, a1)), (2, (0, a2))] [] M0 (q_X4_emit_15 M0) := by
  have hS : St Tru ws_X4_emit_15 as_X4_emit_15 M0 M0 := St.rf hI
  refine Tr.aload_n (pc := 0) (i := 0) d_X4_emit_0 rfl rfl ?_
  refine Tr.getf (pc := 1) d_X4_emit_1 f_4_49 (by decide) (by decide) (ty_15 hS.1.1) ?_
  refine Tr.gen (P := fun v => 0 ≤ v ∧ v ≤ 900) (ir_15_11 hS.1.2.1) (fun r1 er1 br1 => ?_)
  refine Tr.sipush (pc := 4) d_X4_emit_4 rfl (by decide) ?_
  refine Tr.icmp_ge (pc := 7) (tgt := 40) d_X4_emit_7 rfl (fun c7 => ?_) (fun c7 => ?_)
  · exact Tr.vret (pc := 40) d_X4_emit_40 rfl ⟨hS, rfl⟩
  · refine Tr.aload_n (pc := 10) (i := 0) d_X4_emit_10 rfl rfl ?_
    refine Tr.getf (pc := 11) d_X4_emit_11 f_4_36 (by decide) (by decide) (ty_15 hS.1.1) ?_
    refine Tr.tp 24 (fx_15_9 hS.1.1) ?_
    refine Tr.aload_n (pc := 14) (i := 0) d_X4_emit_14 rfl rfl ?_
    refine Tr.getf (pc := 15) d_X4_emit_15 f_4_49 (by decide) (by decide) (ty_15 hS.1.1) ?_
    refine Tr.tp r1 er1 ?_
    refine Tr.iload_n (pc := 18) (i := 1) d_X4_emit_18 rfl rfl ?_
    refine Tr.iast (pc := 19) d_X4_emit_19 (ty_24 hS.1.1) (by omega) (by omega) ?_
    refine Tr.aload_n (pc := 20) (i := 0) d_X4_emit_20 rfl rfl ?_
    refine Tr.getf (pc := 21) d_X4_emit_21 f_4_39 (by decide) (by decide) (show mT (wr M0 24 r1 a1) 15 = (4, 13) from ty_15 (M := M0) hS.1.1) ?_
    refine Tr.tp 25 ((rd_wb _ rfl).trans (fx_15_10 (M := M0) hS.1.1)) ?_
    refine Tr.aload_n (pc := 24) (i := 0) d_X4_emit_24 rfl rfl ?_
    refine Tr.getf (pc := 25) d_X4_emit_25 f_4_49 (by decide) (by decide) (show mT (wr M0 24 r1 a1) 15 = (4, 13) from ty_15 (M := M0) hS.1.1) ?_
    refine Tr.tp r1 ((rd_wb _ rfl).trans er1) ?_
    refine Tr.iload_n (pc := 28) (i := 2) d_X4_emit_28 rfl rfl ?_
    refine Tr.iastS (pc := 29) (P := St Tru ws_X4_emit_15 as_X4_emit_15 M0) d_X4_emit_29 (show mT (wr M0 24 r1 a1) 25 = (20, 900) from ty_25 (M := M0) hS.1.1) (by omega) (by omega) (St.two (x := 24) (y := 25) 18 19 hS (by decide) hp0 (by decide) (by decide) rfl (by decide +kernel) (by decide +kernel) (by decide +kernel) (by omega) rfl (by decide +kernel) (by decide +kernel) (by decide +kernel) (by omega) trivial) (fun M29 hS w29 => ?_)
    refine Tr.aload_n (pc := 30) (i := 0) d_X4_emit_30 rfl rfl ?_
    refine Tr.dup (pc := 31) d_X4_emit_31 ne21 ?_
    refine Tr.getf (pc := 32) d_X4_emit_32 f_4_49 (by decide) (by decide) (ty_15 hS.1.1) ?_
    refine Tr.tp r1 ((Wr.b w29 rfl).trans ((rd_wb _ rfl).trans er1)) ?_
    refine Tr.iconst (pc := 35) d_X4_emit_35 (by decide) ?_
    refine Tr.iadd (pc := 36) d_X4_emit_36 ?_
    refine Tr.tp (r1 + 1) ((w32_id (by omega)).trans (by omega)) ?_
    refine Tr.putfS (pc := 37) (P := St Tru ws_X4_emit_15 as_X4_emit_15 M0) d_X4_emit_37 f_4_49 (by decide) (by decide) (ty_15 hS.1.1) (st_15_11 hS (by decide) (by omega) trivial) (fun M37 hS w37 => ?_)
    exact Tr.vret (pc := 40) d_X4_emit_40 rfl ⟨hS, rfl⟩

def ws_X3_which_7_v1 : List (Int × Int) := []
def as_X3_which_7_v1 : List Int := []
def q_X3_which_7_v1 (a2 : Int) (M0 M' : Mem) (r : Option PV) : Prop := St Tru ws_X3_which_7_v1 as_X3_which_7_v1 M0 M' ∧ ∃ v : Int, r = some (0, v) ∧ (-1) ≤ v ∧ v ≤ 2 ∧ ((v = a2 - 6 ∧ 0 ≤ v ∧ v < rd M' 8 1) ∨ (v = -1 ∧ (a2 < 6 ∨ rd M' 8 1 ≤ a2 - 6)))
set_option maxRecDepth 100000 in
set_option maxHeartbeats 4000000 in
theorem sp_X3_which_7_v1 {l : Launch} {K : EC} {M0 : Mem} {xq : Int} (hI : In Tru M0) (hE : e_all K xq)  (a2 : Int) (ha2 : 0 ≤ a2 ∧ a2 ≤ 15)  : Tr l K 0 mX3_which 0 [(0, (2, 7)), (1, (0, 1)), (2, (0, a2))] [] M0 (q_X3_which_7_v1 a2 M0) := by
  have hS : St Tru ws_X3_which_7_v1 as_X3_which_7_v1 M0 M0 := St.rf hI
  obtain ⟨g8_1, eg8_1⟩ : ∃ v, rd M0 8 1 = v := ⟨_, rfl⟩
  have bg8_1 : 0 ≤ g8_1 ∧ g8_1 ≤ 3 := by rw [← eg8_1]; exact ir_8_1 hI.2.1
  refine Tr.iload_n (pc := 0) (i := 2) d_X3_which_0 rfl rfl ?_
  refine Tr.gets (pc := 1) d_X3_which_1 sl_3_65 hE.2.2.2.2.1 ?_
  refine Tr.iload_n (pc := 4) (i := 1) d_X3_which_4 rfl rfl ?_
  refine Tr.xld (pc := 5) (i := 2) d_X3_which_5 rfl hE.2.1 (by omega) (by omega) ?_
  refine Tr.tp 6 (by decide) ?_
  refine Tr.isub (pc := 6) d_X3_which_6 ?_
  refine Tr.tp (a2 - 6) ((w32_id (by omega)).trans (by omega)) ?_
  refine Tr.istore_n (pc := 7) (i := 3) (ls2 := [(3, (0, (a2 - 6))), (0, (2, 7)), (1, (0, 1)), (2, (0, a2))]) d_X3_which_7 rfl (by decide) rfl ?_
  refine Tr.iload_n (pc := 8) (i := 3) d_X3_which_8 rfl rfl ?_
  refine Tr.if_lt (pc := 9) (tgt := 26) d_X3_which_9 rfl (fun c9 => ?_) (fun c9 => ?_)
  · refine Tr.iconst (pc := 26) d_X3_which_26 (by decide) ?_
    have kr_8_1 : rd M0 8 1 = g8_1 := eg8_1
    exact Tr.iret (pc := 27) d_X3_which_27 rfl ⟨hS, _, rfl, by omega, by omega, by omega⟩
  · refine Tr.iload_n (pc := 12) (i := 3) d_X3_which_12 rfl rfl ?_
    refine Tr.aload_n (pc := 13) (i := 0) d_X3_which_13 rfl rfl ?_
    refine Tr.getf (pc := 14) d_X3_which_14 f_3_11 (by decide) (by decide) (ty_7 hS.1.1) ?_
    refine Tr.tp 8 (fx_7_4 hS.1.1) ?_
    refine Tr.iload_n (pc := 17) (i := 1) d_X3_which_17 rfl rfl ?_
    refine Tr.iald (pc := 18) d_X3_which_18 (ty_8 hS.1.1) (by omega) (by omega) ?_
    refine Tr.tp g8_1 eg8_1 ?_
    refine Tr.icmp_ge (pc := 19) (tgt := 26) d_X3_which_19 rfl (fun c19 => ?_) (fun c19 => ?_)
    · refine Tr.iconst (pc := 26) d_X3_which_26 (by decide) ?_
      have kr_8_1 : rd M0 8 1 = g8_1 := eg8_1
      exact Tr.iret (pc := 27) d_X3_which_27 rfl ⟨hS, _, rfl, by omega, by omega, by omega⟩
    · refine Tr.iload_n (pc := 22) (i := 3) d_X3_which_22 rfl rfl ?_
      refine Tr.goto (pc := 23) (tgt := 27) d_X3_which_23 rfl ?_
      have kr_8_1 : rd M0 8 1 = g8_1 := eg8_1
      exact Tr.iret (pc := 27) d_X3_which_27 rfl ⟨hS, _, rfl, by omega, by omega, by omega⟩

def ws_X4_emit_15_w1 : List (Int × Int) := [(15, 11)]
def as_X4_emit_15_w1 : List Int := [24, 25]
def q_X4_emit_15_w1 (M0 M' : Mem) (r : Option PV) : Prop := St Tru ws_X4_emit_15_w1 as_X4_emit_15_w1 M0 M' ∧ r = none
set_option maxRecDepth 100000 in
set_option maxHeartbeats 4000000 in
theorem sp_X4_emit_15_w1 {l : Launch} {K : EC} {M0 : Mem} (hI : In Tru M0)  (a1 : Int) (ha1 : 1 ≤ a1 ∧ a1 ≤ 1) (a2 : Int) (ha2 : (-1) ≤ a2 ∧ a2 ≤ 2) (hp0 : (a1 = 1 → 0 ≤ a2 ∧ a2 ≤ 2) ∧ (a1 = 2 ∨ a1 = 4 → 0 ≤ a2 ∧ a2 ≤ 5)) : Tr l K 0 mX4_emit 0 [(0, (2, 15)), (1, (0, a1)), (2, (0, a2))] [] M0 (q_X4_emit_15_w1 M0) := by
  have hS : St Tru ws_X4_emit_15_w1 as_X4_emit_15_w1 M0 M0 := St.rf hI
  refine Tr.aload_n (pc := 0) (i := 0) d_X4_emit_0 rfl rfl ?_
  refine Tr.getf (pc := 1) d_X4_emit_1 f_4_49 (by decide) (by decide) (ty_15 hS.1.1) ?_
  refine Tr.gen (P := fun v => 0 ≤ v ∧ v ≤ 900) (ir_15_11 hS.1.2.1) (fun r1 er1 br1 => ?_)
  refine Tr.sipush (pc := 4) d_X4_emit_4 rfl (by decide) ?_
  refine Tr.icmp_ge (pc := 7) (tgt := 40) d_X4_emit_7 rfl (fun c7 => ?_) (fun c7 => ?_)
  · exact Tr.vret (pc := 40) d_X4_emit_40 rfl ⟨hS, rfl⟩
  · refine Tr.aload_n (pc := 10) (i := 0) d_X4_emit_10 rfl rfl ?_
    refine Tr.getf (pc := 11) d_X4_emit_11 f_4_36 (by decide) (by decide) (ty_15 hS.1.1) ?_
    refine Tr.tp 24 (fx_15_9 hS.1.1) ?_
    refine Tr.aload_n (pc := 14) (i := 0) d_X4_emit_14 rfl rfl ?_
    refine Tr.getf (pc := 15) d_X4_emit_15 f_4_49 (by decide) (by decide) (ty_15 hS.1.1) ?_
    refine Tr.tp r1 er1 ?_
    refine Tr.iload_n (pc := 18) (i := 1) d_X4_emit_18 rfl rfl ?_
    refine Tr.iast (pc := 19) d_X4_emit_19 (ty_24 hS.1.1) (by omega) (by omega) ?_
    refine Tr.aload_n (pc := 20) (i := 0) d_X4_emit_20 rfl rfl ?_
    refine Tr.getf (pc := 21) d_X4_emit_21 f_4_39 (by decide) (by decide) (show mT (wr M0 24 r1 a1) 15 = (4, 13) from ty_15 (M := M0) hS.1.1) ?_
    refine Tr.tp 25 ((rd_wb _ rfl).trans (fx_15_10 (M := M0) hS.1.1)) ?_
    refine Tr.aload_n (pc := 24) (i := 0) d_X4_emit_24 rfl rfl ?_
    refine Tr.getf (pc := 25) d_X4_emit_25 f_4_49 (by decide) (by decide) (show mT (wr M0 24 r1 a1) 15 = (4, 13) from ty_15 (M := M0) hS.1.1) ?_
    refine Tr.tp r1 ((rd_wb _ rfl).trans er1) ?_
    refine Tr.iload_n (pc := 28) (i := 2) d_X4_emit_28 rfl rfl ?_
    refine Tr.iastS (pc := 29) (P := St Tru ws_X4_emit_15_w1 as_X4_emit_15_w1 M0) d_X4_emit_29 (show mT (wr M0 24 r1 a1) 25 = (20, 900) from ty_25 (M := M0) hS.1.1) (by omega) (by omega) (St.two (x := 24) (y := 25) 18 19 hS (by decide) hp0 (by decide) (by decide) rfl (by decide +kernel) (by decide +kernel) (by decide +kernel) (by omega) rfl (by decide +kernel) (by decide +kernel) (by decide +kernel) (by omega) trivial) (fun M29 hS w29 => ?_)
    refine Tr.aload_n (pc := 30) (i := 0) d_X4_emit_30 rfl rfl ?_
    refine Tr.dup (pc := 31) d_X4_emit_31 ne21 ?_
    refine Tr.getf (pc := 32) d_X4_emit_32 f_4_49 (by decide) (by decide) (ty_15 hS.1.1) ?_
    refine Tr.tp r1 ((Wr.b w29 rfl).trans ((rd_wb _ rfl).trans er1)) ?_
    refine Tr.iconst (pc := 35) d_X4_emit_35 (by decide) ?_
    refine Tr.iadd (pc := 36) d_X4_emit_36 ?_
    refine Tr.tp (r1 + 1) ((w32_id (by omega)).trans (by omega)) ?_
    refine Tr.putfS (pc := 37) (P := St Tru ws_X4_emit_15_w1 as_X4_emit_15_w1 M0) d_X4_emit_37 f_4_49 (by decide) (by decide) (ty_15 hS.1.1) (st_15_11 hS (by decide) (by omega) trivial) (fun M37 hS w37 => ?_)
    exact Tr.vret (pc := 40) d_X4_emit_40 rfl ⟨hS, rfl⟩

def ws_X3_which_7_v2 : List (Int × Int) := []
def as_X3_which_7_v2 : List Int := []
def q_X3_which_7_v2 (a2 : Int) (M0 M' : Mem) (r : Option PV) : Prop := St Tru ws_X3_which_7_v2 as_X3_which_7_v2 M0 M' ∧ ∃ v : Int, r = some (0, v) ∧ (-1) ≤ v ∧ v ≤ 5 ∧ ((v = a2 - 9 ∧ 0 ≤ v ∧ v < rd M' 8 2) ∨ (v = -1 ∧ (a2 < 9 ∨ rd M' 8 2 ≤ a2 - 9)))
set_option maxRecDepth 100000 in
set_option maxHeartbeats 4000000 in
theorem sp_X3_which_7_v2 {l : Launch} {K : EC} {M0 : Mem} {xq : Int} (hI : In Tru M0) (hE : e_all K xq)  (a2 : Int) (ha2 : 0 ≤ a2 ∧ a2 ≤ 15)  : Tr l K 0 mX3_which 0 [(0, (2, 7)), (1, (0, 2)), (2, (0, a2))] [] M0 (q_X3_which_7_v2 a2 M0) := by
  have hS : St Tru ws_X3_which_7_v2 as_X3_which_7_v2 M0 M0 := St.rf hI
  obtain ⟨g8_2, eg8_2⟩ : ∃ v, rd M0 8 2 = v := ⟨_, rfl⟩
  have bg8_2 : 0 ≤ g8_2 ∧ g8_2 ≤ 6 := by rw [← eg8_2]; exact ir_8_2 hI.2.1
  refine Tr.iload_n (pc := 0) (i := 2) d_X3_which_0 rfl rfl ?_
  refine Tr.gets (pc := 1) d_X3_which_1 sl_3_65 hE.2.2.2.2.1 ?_
  refine Tr.iload_n (pc := 4) (i := 1) d_X3_which_4 rfl rfl ?_
  refine Tr.xld (pc := 5) (i := 2) d_X3_which_5 rfl hE.2.1 (by omega) (by omega) ?_
  refine Tr.tp 9 (by decide) ?_
  refine Tr.isub (pc := 6) d_X3_which_6 ?_
  refine Tr.tp (a2 - 9) ((w32_id (by omega)).trans (by omega)) ?_
  refine Tr.istore_n (pc := 7) (i := 3) (ls2 := [(3, (0, (a2 - 9))), (0, (2, 7)), (1, (0, 2)), (2, (0, a2))]) d_X3_which_7 rfl (by decide) rfl ?_
  refine Tr.iload_n (pc := 8) (i := 3) d_X3_which_8 rfl rfl ?_
  refine Tr.if_lt (pc := 9) (tgt := 26) d_X3_which_9 rfl (fun c9 => ?_) (fun c9 => ?_)
  · refine Tr.iconst (pc := 26) d_X3_which_26 (by decide) ?_
    have kr_8_2 : rd M0 8 2 = g8_2 := eg8_2
    exact Tr.iret (pc := 27) d_X3_which_27 rfl ⟨hS, _, rfl, by omega, by omega, by omega⟩
  · refine Tr.iload_n (pc := 12) (i := 3) d_X3_which_12 rfl rfl ?_
    refine Tr.aload_n (pc := 13) (i := 0) d_X3_which_13 rfl rfl ?_
    refine Tr.getf (pc := 14) d_X3_which_14 f_3_11 (by decide) (by decide) (ty_7 hS.1.1) ?_
    refine Tr.tp 8 (fx_7_4 hS.1.1) ?_
    refine Tr.iload_n (pc := 17) (i := 1) d_X3_which_17 rfl rfl ?_
    refine Tr.iald (pc := 18) d_X3_which_18 (ty_8 hS.1.1) (by omega) (by omega) ?_
    refine Tr.tp g8_2 eg8_2 ?_
    refine Tr.icmp_ge (pc := 19) (tgt := 26) d_X3_which_19 rfl (fun c19 => ?_) (fun c19 => ?_)
    · refine Tr.iconst (pc := 26) d_X3_which_26 (by decide) ?_
      have kr_8_2 : rd M0 8 2 = g8_2 := eg8_2
      exact Tr.iret (pc := 27) d_X3_which_27 rfl ⟨hS, _, rfl, by omega, by omega, by omega⟩
    · refine Tr.iload_n (pc := 22) (i := 3) d_X3_which_22 rfl rfl ?_
      refine Tr.goto (pc := 23) (tgt := 27) d_X3_which_23 rfl ?_
      have kr_8_2 : rd M0 8 2 = g8_2 := eg8_2
      exact Tr.iret (pc := 27) d_X3_which_27 rfl ⟨hS, _, rfl, by omega, by omega, by omega⟩

def ws_X5_takeName_6_v2_w1 : List (Int × Int) := [(6, 0), (6, 1), (6, 5)]
def as_X5_takeName_6_v2_w1 : List Int := []
def q_X5_takeName_6_v2_w1 (M0 M' : Mem) (r : Option PV) : Prop := St Tru ws_X5_takeName_6_v2_w1 as_X5_takeName_6_v2_w1 M0 M' ∧ ∃ v : Int, r = some (0, v) ∧ (-1) ≤ v ∧ v ≤ 5
set_option maxRecDepth 100000 in
set_option maxHeartbeats 4000000 in
theorem sp_X5_takeName_6_v2_w1 {l : Launch} {K : EC} {M0 : Mem} {xq : Int} (hI : In Tru M0) (hE : e_all K xq) (en_6_2 : rd M0 6 2 = 2) (en_6_3 : rd M0 6 3 = 7)   : Tr l K 1 mX5_takeName 0 [(0, (2, 6)), (1, (0, 2))] [] M0 (q_X5_takeName_6_v2_w1 M0) := by
  have hS : St Tru ws_X5_takeName_6_v2_w1 as_X5_takeName_6_v2_w1 M0 M0 := St.rf hI
  refine Tr.aload_n (pc := 0) (i := 0) d_X5_takeName_0 rfl rfl ?_
  refine Tr.getf (pc := 1) d_X5_takeName_1 f_5_18 (by decide) (by decide) (ty_6 hS.1.1) ?_
  refine Tr.tp 2 ((St.kp hS (by decide) (by decide) (by decide)).trans en_6_2) ?_
  refine Tr.getf (pc := 4) d_X5_takeName_4 f_5_50 (by decide) (by decide) (ty_2 hS.1.1) ?_
  refine Tr.tp 3 (fx_2_0 hS.1.1) ?_
  refine Tr.aload_n (pc := 7) (i := 0) d_X5_takeName_7 rfl rfl ?_
  refine Tr.getf (pc := 8) d_X5_takeName_8 f_5_36 (by decide) (by decide) (ty_6 hS.1.1) ?_
  refine Tr.gen (P := fun v => 0 ≤ v ∧ v ≤ 900) (ir_6_5 hS.1.2.1) (fun r8 er8 br8 => ?_)
  refine Tr.iald (pc := 11) d_X5_takeName_11 (ty_3 hS.1.1) (by omega) (by omega) ?_
  refine Tr.gen (P := fun v => (-2147483648) ≤ v ∧ v ≤ 2147483647) (ar_3 hS.1.2.1 _) (fun r11 er11 br11 => ?_)
  refine Tr.iconst (pc := 12) d_X5_takeName_12 (by decide) ?_
  refine Tr.icmp_eq (pc := 13) (tgt := 24) d_X5_takeName_13 rfl (fun c13 => ?_) (fun c13 => ?_)
  · refine Tr.aload_n (pc := 24) (i := 0) d_X5_takeName_24 rfl rfl ?_
    refine Tr.getf (pc := 25) d_X5_takeName_25 f_5_22 (by decide) (by decide) (ty_6 hS.1.1) ?_
    refine Tr.tp 7 ((St.kp hS (by decide) (by decide) (by decide)).trans en_6_3) ?_
    refine Tr.aload_n (pc := 28) (i := 0) d_X5_takeName_28 rfl rfl ?_
    refine Tr.getf (pc := 29) d_X5_takeName_29 f_5_18 (by decide) (by decide) (ty_6 hS.1.1) ?_
    refine Tr.tp 2 ((St.kp hS (by decide) (by decide) (by decide)).trans en_6_2) ?_
    refine Tr.getf (pc := 32) d_X5_takeName_32 f_5_68 (by decide) (by decide) (ty_2 hS.1.1) ?_
    refine Tr.tp 5 (fx_2_2 hS.1.1) ?_
    refine Tr.aload_n (pc := 35) (i := 0) d_X5_takeName_35 rfl rfl ?_
    refine Tr.getf (pc := 36) d_X5_takeName_36 f_5_36 (by decide) (by decide) (ty_6 hS.1.1) ?_
    refine Tr.tp r8 er8 ?_
    refine Tr.iald (pc := 39) d_X5_takeName_39 (ty_5 hS.1.1) (by omega) (by omega) ?_
    refine Tr.gen (P := fun v => (-2147483648) ≤ v ∧ v ≤ 2147483647) (ar_5 hS.1.2.1 _) (fun r39 er39 br39 => ?_)
    refine Tr.callV (pc := 40) (as := [_]) d_X5_takeName_40 s_5_91 ok_X3_find rfl rfl (Nat.le_of_ble_eq_true rfl) (Nat.le_of_ble_eq_true rfl) (by decide) (ty_7 hS.1.1) ?_
    refine Tr.imp (Tr.deep (by decide) (sp_X3_find_7 hS.1 r39 (by omega))) ?_
    rintro M40 _ ⟨h40, r40, rfl, lr40, ur40⟩
    have hS := St.tr hS h40 (by decide) (by decide)
    refine Tr.sc [(0, r40)] rfl ?_
    refine Tr.istore_n (pc := 43) (i := 2) (ls2 := [(2, (0, r40)), (0, (2, 6)), (1, (0, 2))]) d_X5_takeName_43 rfl (by decide) rfl ?_
    refine Tr.iload_n (pc := 44) (i := 2) d_X5_takeName_44 rfl rfl ?_
    have J61 : ∀ (M : Mem) (q61_0 : Int), St Tru ws_X5_takeName_6_v2_w1 as_X5_takeName_6_v2_w1 M0 M → ((-1) ≤ q61_0 ∧ q61_0 ≤ 5) → rd M 3 r8 = r11 → rd M 5 r8 = r39 → rd M 6 5 = r8 → Tr l K 1 mX5_takeName 61 [(0, (2, 6))] [(0, q61_0)] M (q_X5_takeName_6_v2_w1 M0) := by
      intro M q61_0 hS bq61_0 k61_3_r810 k61_5_r810 k61_6_5
      refine Tr.istore_n (pc := 61) (i := 3) (ls2 := [(3, (0, q61_0)), (0, (2, 6))]) d_X5_takeName_61 rfl (by decide) rfl ?_
      refine Tr.iload_n (pc := 62) (i := 3) d_X5_takeName_62 rfl rfl ?_
      refine Tr.if_ge (pc := 63) (tgt := 74) d_X5_takeName_63 rfl (fun c63 => ?_) (fun c63 => ?_)
      · refine Tr.aload_n (pc := 74) (i := 0) d_X5_takeName_74 rfl rfl ?_
        refine Tr.callV (pc := 75) (as := []) d_X5_takeName_75 s_5_74 ok_X5_goOn rfl rfl (Nat.le_of_ble_eq_true rfl) (Nat.le_of_ble_eq_true rfl) (by decide) (ty_6 hS.1.1) ?_
        refine Tr.imp (Tr.deep (by decide) (sp_X5_goOn_6 hS.1 )) ?_
        rintro M75 _ ⟨h75, r75, rfl, lr75, ur75⟩
        have hS := St.tr hS h75 (by decide) (by decide)
        refine Tr.sc [(0, r75)] rfl ?_
        refine Tr.pop (pc := 78) d_X5_takeName_78 ne01 ?_
        refine Tr.iload_n (pc := 79) (i := 3) d_X5_takeName_79 rfl rfl ?_
        exact Tr.iret (pc := 80) d_X5_takeName_80 rfl ⟨hS, _, rfl, by omega, by omega⟩
      · refine Tr.aload_n (pc := 66) (i := 0) d_X5_takeName_66 rfl rfl ?_
        refine Tr.iconst (pc := 67) d_X5_takeName_67 (by decide) ?_
        refine Tr.callV (pc := 68) (as := [_]) d_X5_takeName_68 s_5_56 ok_X5_refuse rfl rfl (Nat.le_of_ble_eq_true rfl) (Nat.le_of_ble_eq_true rfl) (by decide) (ty_6 hS.1.1) ?_
        refine Tr.imp (Tr.deep (by decide) (sp_X5_refuse_6_w3 hS.1 ((St.kp hS (by decide) (by decide) (by decide)).trans en_6_2) 3 (by omega))) ?_
        rintro M68 _ ⟨h68, r68, rfl, lr68, ur68⟩
        have hS := St.tr hS h68 (by decide) (by decide)
        refine Tr.sc [(0, r68)] rfl ?_
        refine Tr.pop (pc := 71) d_X5_takeName_71 ne01 ?_
        refine Tr.iconst (pc := 72) d_X5_takeName_72 (by decide) ?_
        exact Tr.iret (pc := 73) d_X5_takeName_73 rfl ⟨hS, _, rfl, by omega, by omega⟩
    refine Tr.if_ge (pc := 45) (tgt := 52) d_X5_takeName_45 rfl (fun c45 => ?_) (fun c45 => ?_)
    · refine Tr.aload_n (pc := 52) (i := 0) d_X5_takeName_52 rfl rfl ?_
      refine Tr.getf (pc := 53) d_X5_takeName_53 f_5_22 (by decide) (by decide) (ty_6 hS.1.1) ?_
      refine Tr.tp 7 ((St.kp hS (by decide) (by decide) (by decide)).trans en_6_3) ?_
      refine Tr.iload_n (pc := 56) (i := 1) d_X5_takeName_56 rfl rfl ?_
      refine Tr.iload_n (pc := 57) (i := 2) d_X5_takeName_57 rfl rfl ?_
      refine Tr.callV (pc := 58) (as := [_, _]) d_X5_takeName_58 s_5_94 ok_X3_which rfl rfl (Nat.le_of_ble_eq_true rfl) (Nat.le_of_ble_eq_true rfl) (by decide) (ty_7 hS.1.1) ?_
      refine Tr.imp (Tr.deep (by decide) (sp_X3_which_7_v2 hS.1 hE r40 (by omega))) ?_
      rintro M58 _ ⟨h58, r58, rfl, lr58, ur58, z58_0⟩
      have hS := St.tr hS h58 (by decide) (by decide)
      obtain ⟨w58_8_2, ew58_8_2⟩ : ∃ v, rd M58 8 2 = v := ⟨_, rfl⟩
      have bw58_8_2 : 0 ≤ w58_8_2 ∧ w58_8_2 ≤ 6 := by rw [← ew58_8_2]; exact ir_8_2 hS.1.2.1
      have ka58_8_2 : rd M58 8 2 = w58_8_2 := ew58_8_2
      refine Tr.sc [(0, r58)] rfl ?_
      refine Tr.pick [1] (ls2 := [(0, (2, 6))]) rfl ?_
      exact J61 _ _ hS (by omega) ((St.ka h58 (by decide) (by decide) (by decide)).trans ((St.ka h40 (by decide) (by decide) (by decide)).trans er11)) ((St.ka h58 (by decide) (by decide) (by decide)).trans ((St.ka h40 (by decide) (by decide) (by decide)).trans er39)) ((St.kp h58 (by decide) (by decide) (by decide)).trans ((St.kp h40 (by decide) (by decide) (by decide)).trans er8))
    · refine Tr.iconst (pc := 48) d_X5_takeName_48 (by decide) ?_
      refine Tr.goto (pc := 49) (tgt := 61) d_X5_takeName_49 rfl ?_
      refine Tr.pick [1] (ls2 := [(0, (2, 6))]) rfl ?_
      exact J61 _ _ hS (by omega) ((St.ka h40 (by decide) (by decide) (by decide)).trans er11) ((St.ka h40 (by decide) (by decide) (by decide)).trans er39) ((St.kp h40 (by decide) (by decide) (by decide)).trans er8)
  · refine Tr.aload_n (pc := 16) (i := 0) d_X5_takeName_16 rfl rfl ?_
    refine Tr.iconst (pc := 17) d_X5_takeName_17 (by decide) ?_
    refine Tr.callV (pc := 18) (as := [_]) d_X5_takeName_18 s_5_56 ok_X5_refuse rfl rfl (Nat.le_of_ble_eq_true rfl) (Nat.le_of_ble_eq_true rfl) (by decide) (ty_6 hS.1.1) ?_
    refine Tr.imp (Tr.deep (by decide) (sp_X5_refuse_6_w1 hS.1 ((St.kp hS (by decide) (by decide) (by decide)).trans en_6_2) 1 (by omega))) ?_
    rintro M18 _ ⟨h18, r18, rfl, lr18, ur18⟩
    have hS := St.tr hS h18 (by decide) (by decide)
    refine Tr.sc [(0, r18)] rfl ?_
    refine Tr.pop (pc := 21) d_X5_takeName_21 ne01 ?_
    refine Tr.iconst (pc := 22) d_X5_takeName_22 (by decide) ?_
    exact Tr.iret (pc := 23) d_X5_takeName_23 rfl ⟨hS, _, rfl, by omega, by omega⟩

def ws_X4_emit_15_w2 : List (Int × Int) := [(15, 11)]
def as_X4_emit_15_w2 : List Int := [24, 25]
def q_X4_emit_15_w2 (M0 M' : Mem) (r : Option PV) : Prop := St Tru ws_X4_emit_15_w2 as_X4_emit_15_w2 M0 M' ∧ r = none
set_option maxRecDepth 100000 in
set_option maxHeartbeats 4000000 in
theorem sp_X4_emit_15_w2 {l : Launch} {K : EC} {M0 : Mem} (hI : In Tru M0)  (a1 : Int) (ha1 : 2 ≤ a1 ∧ a1 ≤ 2) (a2 : Int) (ha2 : 0 ≤ a2 ∧ a2 ≤ 5) (hp0 : (a1 = 1 → 0 ≤ a2 ∧ a2 ≤ 2) ∧ (a1 = 2 ∨ a1 = 4 → 0 ≤ a2 ∧ a2 ≤ 5)) : Tr l K 0 mX4_emit 0 [(0, (2, 15)), (1, (0, a1)), (2, (0, a2))] [] M0 (q_X4_emit_15_w2 M0) := by
  have hS : St Tru ws_X4_emit_15_w2 as_X4_emit_15_w2 M0 M0 := St.rf hI
  refine Tr.aload_n (pc := 0) (i := 0) d_X4_emit_0 rfl rfl ?_
  refine Tr.getf (pc := 1) d_X4_emit_1 f_4_49 (by decide) (by decide) (ty_15 hS.1.1) ?_
  refine Tr.gen (P := fun v => 0 ≤ v ∧ v ≤ 900) (ir_15_11 hS.1.2.1) (fun r1 er1 br1 => ?_)
  refine Tr.sipush (pc := 4) d_X4_emit_4 rfl (by decide) ?_
  refine Tr.icmp_ge (pc := 7) (tgt := 40) d_X4_emit_7 rfl (fun c7 => ?_) (fun c7 => ?_)
  · exact Tr.vret (pc := 40) d_X4_emit_40 rfl ⟨hS, rfl⟩
  · refine Tr.aload_n (pc := 10) (i := 0) d_X4_emit_10 rfl rfl ?_
    refine Tr.getf (pc := 11) d_X4_emit_11 f_4_36 (by decide) (by decide) (ty_15 hS.1.1) ?_
    refine Tr.tp 24 (fx_15_9 hS.1.1) ?_
    refine Tr.aload_n (pc := 14) (i := 0) d_X4_emit_14 rfl rfl ?_
    refine Tr.getf (pc := 15) d_X4_emit_15 f_4_49 (by decide) (by decide) (ty_15 hS.1.1) ?_
    refine Tr.tp r1 er1 ?_
    refine Tr.iload_n (pc := 18) (i := 1) d_X4_emit_18 rfl rfl ?_
    refine Tr.iast (pc := 19) d_X4_emit_19 (ty_24 hS.1.1) (by omega) (by omega) ?_
    refine Tr.aload_n (pc := 20) (i := 0) d_X4_emit_20 rfl rfl ?_
    refine Tr.getf (pc := 21) d_X4_emit_21 f_4_39 (by decide) (by decide) (show mT (wr M0 24 r1 a1) 15 = (4, 13) from ty_15 (M := M0) hS.1.1) ?_
    refine Tr.tp 25 ((rd_wb _ rfl).trans (fx_15_10 (M := M0) hS.1.1)) ?_
    refine Tr.aload_n (pc := 24) (i := 0) d_X4_emit_24 rfl rfl ?_
    refine Tr.getf (pc := 25) d_X4_emit_25 f_4_49 (by decide) (by decide) (show mT (wr M0 24 r1 a1) 15 = (4, 13) from ty_15 (M := M0) hS.1.1) ?_
    refine Tr.tp r1 ((rd_wb _ rfl).trans er1) ?_
    refine Tr.iload_n (pc := 28) (i := 2) d_X4_emit_28 rfl rfl ?_
    refine Tr.iastS (pc := 29) (P := St Tru ws_X4_emit_15_w2 as_X4_emit_15_w2 M0) d_X4_emit_29 (show mT (wr M0 24 r1 a1) 25 = (20, 900) from ty_25 (M := M0) hS.1.1) (by omega) (by omega) (St.two (x := 24) (y := 25) 18 19 hS (by decide) hp0 (by decide) (by decide) rfl (by decide +kernel) (by decide +kernel) (by decide +kernel) (by omega) rfl (by decide +kernel) (by decide +kernel) (by decide +kernel) (by omega) trivial) (fun M29 hS w29 => ?_)
    refine Tr.aload_n (pc := 30) (i := 0) d_X4_emit_30 rfl rfl ?_
    refine Tr.dup (pc := 31) d_X4_emit_31 ne21 ?_
    refine Tr.getf (pc := 32) d_X4_emit_32 f_4_49 (by decide) (by decide) (ty_15 hS.1.1) ?_
    refine Tr.tp r1 ((Wr.b w29 rfl).trans ((rd_wb _ rfl).trans er1)) ?_
    refine Tr.iconst (pc := 35) d_X4_emit_35 (by decide) ?_
    refine Tr.iadd (pc := 36) d_X4_emit_36 ?_
    refine Tr.tp (r1 + 1) ((w32_id (by omega)).trans (by omega)) ?_
    refine Tr.putfS (pc := 37) (P := St Tru ws_X4_emit_15_w2 as_X4_emit_15_w2 M0) d_X4_emit_37 f_4_49 (by decide) (by decide) (ty_15 hS.1.1) (st_15_11 hS (by decide) (by omega) trivial) (fun M37 hS w37 => ?_)
    exact Tr.vret (pc := 40) d_X4_emit_40 rfl ⟨hS, rfl⟩

def ws_X5_namedPiece_6_w1 : List (Int × Int) := [(6, 0), (6, 1), (6, 5), (15, 11)]
def as_X5_namedPiece_6_w1 : List Int := [24, 25]
def q_X5_namedPiece_6_w1 (M0 M' : Mem) (r : Option PV) : Prop := St Tru ws_X5_namedPiece_6_w1 as_X5_namedPiece_6_w1 M0 M' ∧ ∃ v : Int, r = some (0, v) ∧ 0 ≤ v ∧ v ≤ 1
set_option maxRecDepth 100000 in
set_option maxHeartbeats 4000000 in
theorem sp_X5_namedPiece_6_w1 {l : Launch} {K : EC} {M0 : Mem} {xq : Int} (hI : In Tru M0) (hE : e_all K xq) (en_6_2 : rd M0 6 2 = 2) (en_6_3 : rd M0 6 3 = 7) (en_6_4 : rd M0 6 4 = 15)   : Tr l K 2 mX5_namedPiece 0 [(0, (2, 6))] [] M0 (q_X5_namedPiece_6_w1 M0) := by
  have hS : St Tru ws_X5_namedPiece_6_w1 as_X5_namedPiece_6_w1 M0 M0 := St.rf hI
  refine Tr.aload_n (pc := 0) (i := 0) d_X5_namedPiece_0 rfl rfl ?_
  refine Tr.getf (pc := 1) d_X5_namedPiece_1 f_5_22 (by decide) (by decide) (ty_6 hS.1.1) ?_
  refine Tr.tp 7 ((St.kp hS (by decide) (by decide) (by decide)).trans en_6_3) ?_
  refine Tr.aload_n (pc := 4) (i := 0) d_X5_namedPiece_4 rfl rfl ?_
  refine Tr.getf (pc := 5) d_X5_namedPiece_5 f_5_18 (by decide) (by decide) (ty_6 hS.1.1) ?_
  refine Tr.tp 2 ((St.kp hS (by decide) (by decide) (by decide)).trans en_6_2) ?_
  refine Tr.getf (pc := 8) d_X5_namedPiece_8 f_5_68 (by decide) (by decide) (ty_2 hS.1.1) ?_
  refine Tr.tp 5 (fx_2_2 hS.1.1) ?_
  refine Tr.aload_n (pc := 11) (i := 0) d_X5_namedPiece_11 rfl rfl ?_
  refine Tr.getf (pc := 12) d_X5_namedPiece_12 f_5_36 (by decide) (by decide) (ty_6 hS.1.1) ?_
  refine Tr.gen (P := fun v => 0 ≤ v ∧ v ≤ 900) (ir_6_5 hS.1.2.1) (fun r12 er12 br12 => ?_)
  refine Tr.iald (pc := 15) d_X5_namedPiece_15 (ty_5 hS.1.1) (by omega) (by omega) ?_
  refine Tr.gen (P := fun v => (-2147483648) ≤ v ∧ v ≤ 2147483647) (ar_5 hS.1.2.1 _) (fun r15 er15 br15 => ?_)
  refine Tr.callV (pc := 16) (as := [_]) d_X5_namedPiece_16 s_5_91 ok_X3_find rfl rfl (Nat.le_of_ble_eq_true rfl) (Nat.le_of_ble_eq_true rfl) (by decide) (ty_7 hS.1.1) ?_
  refine Tr.imp (Tr.deep (by decide) (sp_X3_find_7 hS.1 r15 (by omega))) ?_
  rintro M16 _ ⟨h16, r16, rfl, lr16, ur16⟩
  have hS := St.tr hS h16 (by decide) (by decide)
  refine Tr.sc [(0, r16)] rfl ?_
  refine Tr.istore_n (pc := 19) (i := 1) (ls2 := [(1, (0, r16)), (0, (2, 6))]) d_X5_namedPiece_19 rfl (by decide) rfl ?_
  refine Tr.iload_n (pc := 20) (i := 1) d_X5_namedPiece_20 rfl rfl ?_
  have J58 : ∀ (M : Mem), St Tru ws_X5_namedPiece_6_w1 as_X5_namedPiece_6_w1 M0 M → rd M 5 r12 = r15 → rd M 6 5 = r12 → Tr l K 2 mX5_namedPiece 58 [(0, (2, 6))] [] M (q_X5_namedPiece_6_w1 M0) := by
    intro M  hS  k58_5_r1210 k58_6_5
    refine Tr.aload_n (pc := 58) (i := 0) d_X5_namedPiece_58 rfl rfl ?_
    refine Tr.iconst (pc := 59) d_X5_namedPiece_59 (by decide) ?_
    refine Tr.callV (pc := 60) (as := [_]) d_X5_namedPiece_60 s_5_186 ok_X5_takeName rfl rfl (Nat.le_of_ble_eq_true rfl) (Nat.le_of_ble_eq_true rfl) (by decide) (ty_6 hS.1.1) ?_
    refine Tr.imp (Tr.deep (by decide) (sp_X5_takeName_6_v2_w1 hS.1 hE ((St.kp hS (by decide) (by decide) (by decide)).trans en_6_2) ((St.kp hS (by decide) (by decide) (by decide)).trans en_6_3))) ?_
    rintro M60 _ ⟨h60, r60, rfl, lr60, ur60⟩
    have hS := St.tr hS h60 (by decide) (by decide)
    refine Tr.sc [(0, r60)] rfl ?_
    refine Tr.istore_n (pc := 63) (i := 2) (ls2 := [(2, (0, r60)), (0, (2, 6))]) d_X5_namedPiece_63 rfl (by decide) rfl ?_
    refine Tr.aload_n (pc := 64) (i := 0) d_X5_namedPiece_64 rfl rfl ?_
    refine Tr.getf (pc := 65) d_X5_namedPiece_65 f_5_32 (by decide) (by decide) (ty_6 hS.1.1) ?_
    refine Tr.tp 15 ((St.kp hS (by decide) (by decide) (by decide)).trans en_6_4) ?_
    refine Tr.iconst (pc := 68) d_X5_namedPiece_68 (by decide) ?_
    refine Tr.iload_n (pc := 69) (i := 2) d_X5_namedPiece_69 rfl rfl ?_
    refine Tr.iconst (pc := 70) d_X5_namedPiece_70 (by decide) ?_
    refine Tr.mmax (pc := 71) d_X5_namedPiece_71 ml_5_192 mw_mmax (Nat.le_of_ble_eq_true rfl) ?_
    refine Tr.gen (P := fun v => (v = r60 ∧ 0 ≤ r60) ∨ (v = 0 ∧ r60 ≤ 0)) (f_max_p _ _) (fun r71 er71 br71 => ?_)
    refine Tr.callV (pc := 74) (as := [_, _]) d_X5_namedPiece_74 s_5_215 ok_X4_emit rfl rfl (Nat.le_of_ble_eq_true rfl) (Nat.le_of_ble_eq_true rfl) (by decide) (ty_15 hS.1.1) ?_
    refine Tr.imp (Tr.deep (by decide) (sp_X4_emit_15_w2 hS.1.wk 2 (by omega) r71 (by omega) (by omega))) ?_
    rintro M74 _ ⟨h74, rfl⟩
    have hS := St.tr hS h74 (by decide) (by decide)
    refine Tr.sc [] rfl ?_
    refine Tr.iload_n (pc := 77) (i := 2) d_X5_namedPiece_77 rfl rfl ?_
    refine Tr.if_lt (pc := 78) (tgt := 85) d_X5_namedPiece_78 rfl (fun c78 => ?_) (fun c78 => ?_)
    · refine Tr.iconst (pc := 85) d_X5_namedPiece_85 (by decide) ?_
      exact Tr.zret (pc := 86) d_X5_namedPiece_86 rfl (by omega) ⟨hS, _, rfl, by omega, by omega⟩
    · refine Tr.iconst (pc := 81) d_X5_namedPiece_81 (by decide) ?_
      refine Tr.goto (pc := 82) (tgt := 86) d_X5_namedPiece_82 rfl ?_
      exact Tr.zret (pc := 86) d_X5_namedPiece_86 rfl (by omega) ⟨hS, _, rfl, by omega, by omega⟩
  refine Tr.if_lt (pc := 21) (tgt := 58) d_X5_namedPiece_21 rfl (fun c21 => ?_) (fun c21 => ?_)
  · refine Tr.pick [1] (ls2 := [(0, (2, 6))]) rfl ?_
    exact J58 _ hS ((St.ka h16 (by decide) (by decide) (by decide)).trans er15) ((St.kp h16 (by decide) (by decide) (by decide)).trans er12)
  · refine Tr.aload_n (pc := 24) (i := 0) d_X5_namedPiece_24 rfl rfl ?_
    refine Tr.getf (pc := 25) d_X5_namedPiece_25 f_5_22 (by decide) (by decide) (ty_6 hS.1.1) ?_
    refine Tr.tp 7 ((St.kp hS (by decide) (by decide) (by decide)).trans en_6_3) ?_
    refine Tr.iconst (pc := 28) d_X5_namedPiece_28 (by decide) ?_
    refine Tr.iload_n (pc := 29) (i := 1) d_X5_namedPiece_29 rfl rfl ?_
    refine Tr.callV (pc := 30) (as := [_, _]) d_X5_namedPiece_30 s_5_94 ok_X3_which rfl rfl (Nat.le_of_ble_eq_true rfl) (Nat.le_of_ble_eq_true rfl) (by decide) (ty_7 hS.1.1) ?_
    refine Tr.imp (Tr.deep (by decide) (sp_X3_which_7_v1 hS.1 hE r16 (by omega))) ?_
    rintro M30 _ ⟨h30, r30, rfl, lr30, ur30, z30_0⟩
    have hS := St.tr hS h30 (by decide) (by decide)
    obtain ⟨w30_8_1, ew30_8_1⟩ : ∃ v, rd M30 8 1 = v := ⟨_, rfl⟩
    have bw30_8_1 : 0 ≤ w30_8_1 ∧ w30_8_1 ≤ 3 := by rw [← ew30_8_1]; exact ir_8_1 hS.1.2.1
    have ka30_8_1 : rd M30 8 1 = w30_8_1 := ew30_8_1
    refine Tr.sc [(0, r30)] rfl ?_
    refine Tr.if_lt (pc := 33) (tgt := 58) d_X5_namedPiece_33 rfl (fun c33 => ?_) (fun c33 => ?_)
    · refine Tr.pick [1] (ls2 := [(0, (2, 6))]) rfl ?_
      exact J58 _ hS ((St.ka h30 (by decide) (by decide) (by decide)).trans ((St.ka h16 (by decide) (by decide) (by decide)).trans er15)) ((St.kp h30 (by decide) (by decide) (by decide)).trans ((St.kp h16 (by decide) (by decide) (by decide)).trans er12))
    · refine Tr.aload_n (pc := 36) (i := 0) d_X5_namedPiece_36 rfl rfl ?_
      refine Tr.getf (pc := 37) d_X5_namedPiece_37 f_5_32 (by decide) (by decide) (ty_6 hS.1.1) ?_
      refine Tr.tp 15 ((St.kp hS (by decide) (by decide) (by decide)).trans en_6_4) ?_
      refine Tr.iconst (pc := 40) d_X5_namedPiece_40 (by decide) ?_
      refine Tr.aload_n (pc := 41) (i := 0) d_X5_namedPiece_41 rfl rfl ?_
      refine Tr.getf (pc := 42) d_X5_namedPiece_42 f_5_22 (by decide) (by decide) (ty_6 hS.1.1) ?_
      refine Tr.tp 7 ((St.kp hS (by decide) (by decide) (by decide)).trans en_6_3) ?_
      refine Tr.iconst (pc := 45) d_X5_namedPiece_45 (by decide) ?_
      refine Tr.iload_n (pc := 46) (i := 1) d_X5_namedPiece_46 rfl rfl ?_
      refine Tr.callV (pc := 47) (as := [_, _]) d_X5_namedPiece_47 s_5_94 ok_X3_which rfl rfl (Nat.le_of_ble_eq_true rfl) (Nat.le_of_ble_eq_true rfl) (by decide) (ty_7 hS.1.1) ?_
      refine Tr.imp (Tr.deep (by decide) (sp_X3_which_7_v1 hS.1 hE r16 (by omega))) ?_
      rintro M47 _ ⟨h47, r47, rfl, lr47, ur47, z47_0⟩
      have hS := St.tr hS h47 (by decide) (by decide)
      have ka47_8_1 : rd M47 8 1 = w30_8_1 := ((St.kp h47 (by decide) (by decide) (by decide)).trans ew30_8_1)
      refine Tr.sc [(0, r47), (0, 1), (2, 15)] rfl ?_
      refine Tr.callV (pc := 50) (as := [_, _]) d_X5_namedPiece_50 s_5_215 ok_X4_emit rfl rfl (Nat.le_of_ble_eq_true rfl) (Nat.le_of_ble_eq_true rfl) (by decide) (ty_15 hS.1.1) ?_
      refine Tr.imp (Tr.deep (by decide) (sp_X4_emit_15_w1 hS.1.wk 1 (by omega) r47 (by omega) (by omega))) ?_
      rintro M50 _ ⟨h50, rfl⟩
      have hS := St.tr hS h50 (by decide) (by decide)
      refine Tr.sc [] rfl ?_
      refine Tr.aload_n (pc := 53) (i := 0) d_X5_namedPiece_53 rfl rfl ?_
      refine Tr.callV (pc := 54) (as := []) d_X5_namedPiece_54 s_5_74 ok_X5_goOn rfl rfl (Nat.le_of_ble_eq_true rfl) (Nat.le_of_ble_eq_true rfl) (by decide) (ty_6 hS.1.1) ?_
      refine Tr.imp (Tr.deep (by decide) (sp_X5_goOn_6 hS.1 )) ?_
      rintro M54 _ ⟨h54, r54, rfl, lr54, ur54⟩
      have hS := St.tr hS h54 (by decide) (by decide)
      refine Tr.sc [(0, r54)] rfl ?_
      exact Tr.zret (pc := 57) d_X5_namedPiece_57 rfl (by omega) ⟨hS, _, rfl, by omega, by omega⟩

def ws_X4_emit_15_w3 : List (Int × Int) := [(15, 11)]
def as_X4_emit_15_w3 : List Int := [24, 25]
def q_X4_emit_15_w3 (M0 M' : Mem) (r : Option PV) : Prop := St Tru ws_X4_emit_15_w3 as_X4_emit_15_w3 M0 M' ∧ r = none
set_option maxRecDepth 100000 in
set_option maxHeartbeats 4000000 in
theorem sp_X4_emit_15_w3 {l : Launch} {K : EC} {M0 : Mem} (hI : In Tru M0)  (a1 : Int) (ha1 : 0 ≤ a1 ∧ a1 ≤ 0) (a2 : Int) (ha2 : (-1) ≤ a2 ∧ a2 ≤ 999) (hp0 : (a1 = 1 → 0 ≤ a2 ∧ a2 ≤ 2) ∧ (a1 = 2 ∨ a1 = 4 → 0 ≤ a2 ∧ a2 ≤ 5)) : Tr l K 0 mX4_emit 0 [(0, (2, 15)), (1, (0, a1)), (2, (0, a2))] [] M0 (q_X4_emit_15_w3 M0) := by
  have hS : St Tru ws_X4_emit_15_w3 as_X4_emit_15_w3 M0 M0 := St.rf hI
  refine Tr.aload_n (pc := 0) (i := 0) d_X4_emit_0 rfl rfl ?_
  refine Tr.getf (pc := 1) d_X4_emit_1 f_4_49 (by decide) (by decide) (ty_15 hS.1.1) ?_
  refine Tr.gen (P := fun v => 0 ≤ v ∧ v ≤ 900) (ir_15_11 hS.1.2.1) (fun r1 er1 br1 => ?_)
  refine Tr.sipush (pc := 4) d_X4_emit_4 rfl (by decide) ?_
  refine Tr.icmp_ge (pc := 7) (tgt := 40) d_X4_emit_7 rfl (fun c7 => ?_) (fun c7 => ?_)
  · exact Tr.vret (pc := 40) d_X4_emit_40 rfl ⟨hS, rfl⟩
  · refine Tr.aload_n (pc := 10) (i := 0) d_X4_emit_10 rfl rfl ?_
    refine Tr.getf (pc := 11) d_X4_emit_11 f_4_36 (by decide) (by decide) (ty_15 hS.1.1) ?_
    refine Tr.tp 24 (fx_15_9 hS.1.1) ?_
    refine Tr.aload_n (pc := 14) (i := 0) d_X4_emit_14 rfl rfl ?_
    refine Tr.getf (pc := 15) d_X4_emit_15 f_4_49 (by decide) (by decide) (ty_15 hS.1.1) ?_
    refine Tr.tp r1 er1 ?_
    refine Tr.iload_n (pc := 18) (i := 1) d_X4_emit_18 rfl rfl ?_
    refine Tr.iast (pc := 19) d_X4_emit_19 (ty_24 hS.1.1) (by omega) (by omega) ?_
    refine Tr.aload_n (pc := 20) (i := 0) d_X4_emit_20 rfl rfl ?_
    refine Tr.getf (pc := 21) d_X4_emit_21 f_4_39 (by decide) (by decide) (show mT (wr M0 24 r1 a1) 15 = (4, 13) from ty_15 (M := M0) hS.1.1) ?_
    refine Tr.tp 25 ((rd_wb _ rfl).trans (fx_15_10 (M := M0) hS.1.1)) ?_
    refine Tr.aload_n (pc := 24) (i := 0) d_X4_emit_24 rfl rfl ?_
    refine Tr.getf (pc := 25) d_X4_emit_25 f_4_49 (by decide) (by decide) (show mT (wr M0 24 r1 a1) 15 = (4, 13) from ty_15 (M := M0) hS.1.1) ?_
    refine Tr.tp r1 ((rd_wb _ rfl).trans er1) ?_
    refine Tr.iload_n (pc := 28) (i := 2) d_X4_emit_28 rfl rfl ?_
    refine Tr.iastS (pc := 29) (P := St Tru ws_X4_emit_15_w3 as_X4_emit_15_w3 M0) d_X4_emit_29 (show mT (wr M0 24 r1 a1) 25 = (20, 900) from ty_25 (M := M0) hS.1.1) (by omega) (by omega) (St.two (x := 24) (y := 25) 18 19 hS (by decide) hp0 (by decide) (by decide) rfl (by decide +kernel) (by decide +kernel) (by decide +kernel) (by omega) rfl (by decide +kernel) (by decide +kernel) (by decide +kernel) (by omega) trivial) (fun M29 hS w29 => ?_)
    refine Tr.aload_n (pc := 30) (i := 0) d_X4_emit_30 rfl rfl ?_
    refine Tr.dup (pc := 31) d_X4_emit_31 ne21 ?_
    refine Tr.getf (pc := 32) d_X4_emit_32 f_4_49 (by decide) (by decide) (ty_15 hS.1.1) ?_
    refine Tr.tp r1 ((Wr.b w29 rfl).trans ((rd_wb _ rfl).trans er1)) ?_
    refine Tr.iconst (pc := 35) d_X4_emit_35 (by decide) ?_
    refine Tr.iadd (pc := 36) d_X4_emit_36 ?_
    refine Tr.tp (r1 + 1) ((w32_id (by omega)).trans (by omega)) ?_
    refine Tr.putfS (pc := 37) (P := St Tru ws_X4_emit_15_w3 as_X4_emit_15_w3 M0) d_X4_emit_37 f_4_49 (by decide) (by decide) (ty_15 hS.1.1) (st_15_11 hS (by decide) (by omega) trivial) (fun M37 hS w37 => ?_)
    exact Tr.vret (pc := 40) d_X4_emit_40 rfl ⟨hS, rfl⟩

def ws_X4_emit_15_w4 : List (Int × Int) := [(15, 11)]
def as_X4_emit_15_w4 : List Int := [24, 25]
def q_X4_emit_15_w4 (M0 M' : Mem) (r : Option PV) : Prop := St Tru ws_X4_emit_15_w4 as_X4_emit_15_w4 M0 M' ∧ r = none
set_option maxRecDepth 100000 in
set_option maxHeartbeats 4000000 in
theorem sp_X4_emit_15_w4 {l : Launch} {K : EC} {M0 : Mem} (hI : In Tru M0)  (a1 : Int) (ha1 : 10 ≤ a1 ∧ a1 ≤ 15) (a2 : Int) (ha2 : 0 ≤ a2 ∧ a2 ≤ 0) (hp0 : (a1 = 1 → 0 ≤ a2 ∧ a2 ≤ 2) ∧ (a1 = 2 ∨ a1 = 4 → 0 ≤ a2 ∧ a2 ≤ 5)) : Tr l K 0 mX4_emit 0 [(0, (2, 15)), (1, (0, a1)), (2, (0, a2))] [] M0 (q_X4_emit_15_w4 M0) := by
  have hS : St Tru ws_X4_emit_15_w4 as_X4_emit_15_w4 M0 M0 := St.rf hI
  refine Tr.aload_n (pc := 0) (i := 0) d_X4_emit_0 rfl rfl ?_
  refine Tr.getf (pc := 1) d_X4_emit_1 f_4_49 (by decide) (by decide) (ty_15 hS.1.1) ?_
  refine Tr.gen (P := fun v => 0 ≤ v ∧ v ≤ 900) (ir_15_11 hS.1.2.1) (fun r1 er1 br1 => ?_)
  refine Tr.sipush (pc := 4) d_X4_emit_4 rfl (by decide) ?_
  refine Tr.icmp_ge (pc := 7) (tgt := 40) d_X4_emit_7 rfl (fun c7 => ?_) (fun c7 => ?_)
  · exact Tr.vret (pc := 40) d_X4_emit_40 rfl ⟨hS, rfl⟩
  · refine Tr.aload_n (pc := 10) (i := 0) d_X4_emit_10 rfl rfl ?_
    refine Tr.getf (pc := 11) d_X4_emit_11 f_4_36 (by decide) (by decide) (ty_15 hS.1.1) ?_
    refine Tr.tp 24 (fx_15_9 hS.1.1) ?_
    refine Tr.aload_n (pc := 14) (i := 0) d_X4_emit_14 rfl rfl ?_
    refine Tr.getf (pc := 15) d_X4_emit_15 f_4_49 (by decide) (by decide) (ty_15 hS.1.1) ?_
    refine Tr.tp r1 er1 ?_
    refine Tr.iload_n (pc := 18) (i := 1) d_X4_emit_18 rfl rfl ?_
    refine Tr.iast (pc := 19) d_X4_emit_19 (ty_24 hS.1.1) (by omega) (by omega) ?_
    refine Tr.aload_n (pc := 20) (i := 0) d_X4_emit_20 rfl rfl ?_
    refine Tr.getf (pc := 21) d_X4_emit_21 f_4_39 (by decide) (by decide) (show mT (wr M0 24 r1 a1) 15 = (4, 13) from ty_15 (M := M0) hS.1.1) ?_
    refine Tr.tp 25 ((rd_wb _ rfl).trans (fx_15_10 (M := M0) hS.1.1)) ?_
    refine Tr.aload_n (pc := 24) (i := 0) d_X4_emit_24 rfl rfl ?_
    refine Tr.getf (pc := 25) d_X4_emit_25 f_4_49 (by decide) (by decide) (show mT (wr M0 24 r1 a1) 15 = (4, 13) from ty_15 (M := M0) hS.1.1) ?_
    refine Tr.tp r1 ((rd_wb _ rfl).trans er1) ?_
    refine Tr.iload_n (pc := 28) (i := 2) d_X4_emit_28 rfl rfl ?_
    refine Tr.iastS (pc := 29) (P := St Tru ws_X4_emit_15_w4 as_X4_emit_15_w4 M0) d_X4_emit_29 (show mT (wr M0 24 r1 a1) 25 = (20, 900) from ty_25 (M := M0) hS.1.1) (by omega) (by omega) (St.two (x := 24) (y := 25) 18 19 hS (by decide) hp0 (by decide) (by decide) rfl (by decide +kernel) (by decide +kernel) (by decide +kernel) (by omega) rfl (by decide +kernel) (by decide +kernel) (by decide +kernel) (by omega) trivial) (fun M29 hS w29 => ?_)
    refine Tr.aload_n (pc := 30) (i := 0) d_X4_emit_30 rfl rfl ?_
    refine Tr.dup (pc := 31) d_X4_emit_31 ne21 ?_
    refine Tr.getf (pc := 32) d_X4_emit_32 f_4_49 (by decide) (by decide) (ty_15 hS.1.1) ?_
    refine Tr.tp r1 ((Wr.b w29 rfl).trans ((rd_wb _ rfl).trans er1)) ?_
    refine Tr.iconst (pc := 35) d_X4_emit_35 (by decide) ?_
    refine Tr.iadd (pc := 36) d_X4_emit_36 ?_
    refine Tr.tp (r1 + 1) ((w32_id (by omega)).trans (by omega)) ?_
    refine Tr.putfS (pc := 37) (P := St Tru ws_X4_emit_15_w4 as_X4_emit_15_w4 M0) d_X4_emit_37 f_4_49 (by decide) (by decide) (ty_15 hS.1.1) (st_15_11 hS (by decide) (by omega) trivial) (fun M37 hS w37 => ?_)
    exact Tr.vret (pc := 40) d_X4_emit_40 rfl ⟨hS, rfl⟩

def ws_X5_choice_6_w9 : List (Int × Int) := [(6, 0), (6, 1), (6, 5), (15, 11)]
def as_X5_choice_6_w9 : List Int := [24, 25]
def q_X5_choice_6_w9 (M0 M' : Mem) (r : Option PV) : Prop := St Tru ws_X5_choice_6_w9 as_X5_choice_6_w9 M0 M' ∧ ∃ v : Int, r = some (0, v) ∧ 0 ≤ v ∧ v ≤ 0
set_option maxRecDepth 100000 in
set_option maxHeartbeats 4000000 in
theorem sp_X5_choice_6_w9 {l : Launch} {K : EC} {M0 : Mem} (hI : In Tru M0) (en_6_2 : rd M0 6 2 = 2) (en_6_4 : rd M0 6 4 = 15) (en_6_6 : rd M0 6 6 = 8) (a1 : Int) (ha1 : 10 ≤ a1 ∧ a1 ≤ 15)  : Tr l K 2 mX5_choice 0 [(0, (2, 6)), (1, (0, a1))] [] M0 (q_X5_choice_6_w9 M0) := by
  have hS : St Tru ws_X5_choice_6_w9 as_X5_choice_6_w9 M0 M0 := St.rf hI
  refine Tr.aload_n (pc := 0) (i := 0) d_X5_choice_0 rfl rfl ?_
  refine Tr.callV (pc := 1) (as := []) d_X5_choice_1 s_5_74 ok_X5_goOn rfl rfl (Nat.le_of_ble_eq_true rfl) (Nat.le_of_ble_eq_true rfl) (by decide) (ty_6 hS.1.1) ?_
  refine Tr.imp (Tr.deep (by decide) (sp_X5_goOn_6 hS.1 )) ?_
  rintro M1 _ ⟨h1, r1, rfl, lr1, ur1⟩
  have hS := St.tr hS h1 (by decide) (by decide)
  refine Tr.sc [(0, r1)] rfl ?_
  refine Tr.pop (pc := 4) d_X5_choice_4 ne01 ?_
  refine Tr.aload_n (pc := 5) (i := 0) d_X5_choice_5 rfl rfl ?_
  refine Tr.bipush (pc := 6) d_X5_choice_6 rfl (by decide) ?_
  refine Tr.callV (pc := 8) (as := [_]) d_X5_choice_8 s_5_206 ok_X5_takeOpening rfl rfl (Nat.le_of_ble_eq_true rfl) (Nat.le_of_ble_eq_true rfl) (by decide) (ty_6 hS.1.1) ?_
  refine Tr.imp (Tr.deep (by decide) (sp_X5_takeOpening_6_w8 hS.1 ((St.kp hS (by decide) (by decide) (by decide)).trans en_6_2) ((St.kp h1 (by decide) (by decide) (by decide)).trans en_6_6) 40 (by omega))) ?_
  rintro M8 _ ⟨h8, r8, rfl, lr8, ur8⟩
  have hS := St.tr hS h8 (by decide) (by decide)
  refine Tr.sc [(0, r8)] rfl ?_
  refine Tr.if_eq (pc := 11) (tgt := 50) d_X5_choice_11 rfl (fun _ => ?_) (fun hc => absurd (by omega) hc)
  refine Tr.iconst (pc := 50) d_X5_choice_50 (by decide) ?_
  refine Tr.istore_n (pc := 51) (i := 2) (ls2 := [(2, (0, 0)), (0, (2, 6)), (1, (0, a1))]) d_X5_choice_51 rfl (by decide) rfl ?_
  refine Tr.aload_n (pc := 52) (i := 0) d_X5_choice_52 rfl rfl ?_
  refine Tr.getf (pc := 53) d_X5_choice_53 f_5_32 (by decide) (by decide) (ty_6 hS.1.1) ?_
  refine Tr.tp 15 ((St.kp hS (by decide) (by decide) (by decide)).trans en_6_4) ?_
  refine Tr.iload_n (pc := 56) (i := 1) d_X5_choice_56 rfl rfl ?_
  refine Tr.iconst (pc := 57) d_X5_choice_57 (by decide) ?_
  refine Tr.callV (pc := 58) (as := [_, _]) d_X5_choice_58 s_5_215 ok_X4_emit rfl rfl (Nat.le_of_ble_eq_true rfl) (Nat.le_of_ble_eq_true rfl) (by decide) (ty_15 hS.1.1) ?_
  refine Tr.imp (Tr.deep (by decide) (sp_X4_emit_15_w4 hS.1.wk a1 (by omega) 0 (by omega) (by omega))) ?_
  rintro M58 _ ⟨h58, rfl⟩
  have hS := St.tr hS h58 (by decide) (by decide)
  refine Tr.sc [] rfl ?_
  refine Tr.iload_n (pc := 61) (i := 2) d_X5_choice_61 rfl rfl ?_
  exact Tr.zret (pc := 62) d_X5_choice_62 rfl (by omega) ⟨hS, _, rfl, by omega, by omega⟩

def ws_X5_piece_6_w17 : List (Int × Int) := [(6, 0), (6, 1), (6, 5), (15, 11)]
def as_X5_piece_6_w17 : List Int := [24, 25]
def q_X5_piece_6_w17 (M0 M' : Mem) (r : Option PV) : Prop := St Tru ws_X5_piece_6_w17 as_X5_piece_6_w17 M0 M' ∧ ∃ v : Int, r = some (0, v) ∧ 0 ≤ v ∧ v ≤ 1
set_option maxRecDepth 100000 in
set_option maxHeartbeats 4000000 in
theorem sp_X5_piece_6_w17 {l : Launch} {K : EC} {M0 : Mem} {xq : Int} (hI : In Tru M0) (hE : e_all K xq) (en_6_2 : rd M0 6 2 = 2) (en_6_3 : rd M0 6 3 = 7) (en_6_4 : rd M0 6 4 = 15) (en_6_6 : rd M0 6 6 = 8)   : Tr l K 3 mX5_piece 0 [(0, (2, 6))] [] M0 (q_X5_piece_6_w17 M0) := by
  have hS : St Tru ws_X5_piece_6_w17 as_X5_piece_6_w17 M0 M0 := St.rf hI
  refine Tr.aload_n (pc := 0) (i := 0) d_X5_piece_0 rfl rfl ?_
  refine Tr.getf (pc := 1) d_X5_piece_1 f_5_18 (by decide) (by decide) (ty_6 hS.1.1) ?_
  refine Tr.tp 2 ((St.kp hS (by decide) (by decide) (by decide)).trans en_6_2) ?_
  refine Tr.getf (pc := 4) d_X5_piece_4 f_5_50 (by decide) (by decide) (ty_2 hS.1.1) ?_
  refine Tr.tp 3 (fx_2_0 hS.1.1) ?_
  refine Tr.aload_n (pc := 7) (i := 0) d_X5_piece_7 rfl rfl ?_
  refine Tr.getf (pc := 8) d_X5_piece_8 f_5_36 (by decide) (by decide) (ty_6 hS.1.1) ?_
  refine Tr.gen (P := fun v => 0 ≤ v ∧ v ≤ 900) (ir_6_5 hS.1.2.1) (fun r8 er8 br8 => ?_)
  refine Tr.iald (pc := 11) d_X5_piece_11 (ty_3 hS.1.1) (by omega) (by omega) ?_
  refine Tr.gen (P := fun v => (-2147483648) ≤ v ∧ v ≤ 2147483647) (ar_3 hS.1.2.1 _) (fun r11 er11 br11 => ?_)
  refine Tr.iconst (pc := 12) d_X5_piece_12 (by decide) ?_
  refine Tr.icmp_ne (pc := 13) (tgt := 44) d_X5_piece_13 rfl (fun c13 => ?_) (fun c13 => ?_)
  · refine Tr.aload_n (pc := 44) (i := 0) d_X5_piece_44 rfl rfl ?_
    refine Tr.getf (pc := 45) d_X5_piece_45 f_5_18 (by decide) (by decide) (ty_6 hS.1.1) ?_
    refine Tr.tp 2 ((St.kp hS (by decide) (by decide) (by decide)).trans en_6_2) ?_
    refine Tr.getf (pc := 48) d_X5_piece_48 f_5_50 (by decide) (by decide) (ty_2 hS.1.1) ?_
    refine Tr.tp 3 (fx_2_0 hS.1.1) ?_
    refine Tr.aload_n (pc := 51) (i := 0) d_X5_piece_51 rfl rfl ?_
    refine Tr.getf (pc := 52) d_X5_piece_52 f_5_36 (by decide) (by decide) (ty_6 hS.1.1) ?_
    refine Tr.tp r8 er8 ?_
    refine Tr.iald (pc := 55) d_X5_piece_55 (ty_3 hS.1.1) (by omega) (by omega) ?_
    refine Tr.tp r11 er11 ?_
    refine Tr.iconst (pc := 56) d_X5_piece_56 (by decide) ?_
    refine Tr.icmp_ne (pc := 57) (tgt := 65) d_X5_piece_57 rfl (fun c57 => ?_) (fun c57 => ?_)
    · refine Tr.aload_n (pc := 65) (i := 0) d_X5_piece_65 rfl rfl ?_
      refine Tr.bipush (pc := 66) d_X5_piece_66 rfl (by decide) ?_
      refine Tr.callV (pc := 68) (as := [_]) d_X5_piece_68 s_5_77 ok_X5_isSign rfl rfl (Nat.le_of_ble_eq_true rfl) (Nat.le_of_ble_eq_true rfl) (by decide) (ty_6 hS.1.1) ?_
      refine Tr.imp (Tr.deep (by decide) (sp_X5_isSign_6_w2 hS.1 ((St.kp hS (by decide) (by decide) (by decide)).trans en_6_2) 40 (by omega))) ?_
      rintro M68 _ ⟨h68, r68, rfl, lr68, ur68⟩
      have hS := St.tr hS h68 (by decide) (by decide)
      refine Tr.sc [(0, r68)] rfl ?_
      refine Tr.if_eq (pc := 71) (tgt := 105) d_X5_piece_71 rfl (fun c71 => ?_) (fun c71 => ?_)
      · refine Tr.aload_n (pc := 105) (i := 0) d_X5_piece_105 rfl rfl ?_
        refine Tr.bipush (pc := 106) d_X5_piece_106 rfl (by decide) ?_
        refine Tr.callV (pc := 108) (as := [_]) d_X5_piece_108 s_5_71 ok_X5_isOwn rfl rfl (Nat.le_of_ble_eq_true rfl) (Nat.le_of_ble_eq_true rfl) (by decide) (ty_6 hS.1.1) ?_
        refine Tr.imp (Tr.deep (by decide) (sp_X5_isOwn_6_w4 hS.1 ((St.kp hS (by decide) (by decide) (by decide)).trans en_6_2) 24 (by omega))) ?_
        rintro M108 _ ⟨h108, r108, rfl, lr108, ur108⟩
        have hS := St.tr hS h108 (by decide) (by decide)
        refine Tr.sc [(0, r108)] rfl ?_
        refine Tr.if_eq (pc := 111) (tgt := 128) d_X5_piece_111 rfl (fun c111 => ?_) (fun c111 => ?_)
        · refine Tr.aload_n (pc := 128) (i := 0) d_X5_piece_128 rfl rfl ?_
          refine Tr.bipush (pc := 129) d_X5_piece_129 rfl (by decide) ?_
          refine Tr.callV (pc := 131) (as := [_]) d_X5_piece_131 s_5_71 ok_X5_isOwn rfl rfl (Nat.le_of_ble_eq_true rfl) (Nat.le_of_ble_eq_true rfl) (by decide) (ty_6 hS.1.1) ?_
          refine Tr.imp (Tr.deep (by decide) (sp_X5_isOwn_6_w4 hS.1 ((St.kp hS (by decide) (by decide) (by decide)).trans en_6_2) 25 (by omega))) ?_
          rintro M131 _ ⟨h131, r131, rfl, lr131, ur131⟩
          have hS := St.tr hS h131 (by decide) (by decide)
          refine Tr.sc [(0, r131)] rfl ?_
          have J146 : ∀ (M : Mem), St Tru ws_X5_piece_6_w17 as_X5_piece_6_w17 M0 M → rd M 3 r8 = r11 → rd M 6 5 = r8 → rd M 6 6 = 8 → Tr l K 3 mX5_piece 146 [(0, (2, 6))] [] M (q_X5_piece_6_w17 M0) := by
            intro M  hS  k146_3_r810 k146_6_5 k146_6_6
            refine Tr.aload_n (pc := 146) (i := 0) d_X5_piece_146 rfl rfl ?_
            refine Tr.aload_n (pc := 147) (i := 0) d_X5_piece_147 rfl rfl ?_
            refine Tr.bipush (pc := 148) d_X5_piece_148 rfl (by decide) ?_
            refine Tr.callV (pc := 150) (as := [_]) d_X5_piece_150 s_5_71 ok_X5_isOwn rfl rfl (Nat.le_of_ble_eq_true rfl) (Nat.le_of_ble_eq_true rfl) (by decide) (ty_6 hS.1.1) ?_
            refine Tr.imp (Tr.deep (by decide) (sp_X5_isOwn_6_w4 hS.1 ((St.kp hS (by decide) (by decide) (by decide)).trans en_6_2) 25 (by omega))) ?_
            rintro M150 _ ⟨h150, r150, rfl, lr150, ur150⟩
            have hS := St.tr hS h150 (by decide) (by decide)
            refine Tr.sc [(0, r150), (2, 6)] rfl ?_
            have J163 : ∀ (M : Mem) (q163_1 : Int), St Tru ws_X5_piece_6_w17 as_X5_piece_6_w17 M0 M → (11 ≤ q163_1 ∧ q163_1 ≤ 12) → rd M 3 r8 = r11 → rd M 6 5 = r8 → rd M 6 6 = 8 → Tr l K 3 mX5_piece 163 [] [(0, q163_1), (2, 6)] M (q_X5_piece_6_w17 M0) := by
              intro M q163_1 hS bq163_1 k163_3_r810 k163_6_5 k163_6_6
              refine Tr.callV (pc := 163) (as := [_]) d_X5_piece_163 s_5_233 ok_X5_choice rfl rfl (Nat.le_of_ble_eq_true rfl) (Nat.le_of_ble_eq_true rfl) (by decide) (ty_6 hS.1.1) ?_
              refine Tr.imp (Tr.deep (by decide) (sp_X5_choice_6_w9 hS.1 ((St.kp hS (by decide) (by decide) (by decide)).trans en_6_2) ((St.kp hS (by decide) (by decide) (by decide)).trans en_6_4) k163_6_6 q163_1 (by omega))) ?_
              rintro M163 _ ⟨h163, r163, rfl, lr163, ur163⟩
              have hS := St.tr hS h163 (by decide) (by decide)
              refine Tr.sc [(0, r163)] rfl ?_
              exact Tr.zret (pc := 166) d_X5_piece_166 rfl (by omega) ⟨hS, _, rfl, by omega, by omega⟩
            refine Tr.if_eq (pc := 153) (tgt := 161) d_X5_piece_153 rfl (fun c153 => ?_) (fun c153 => ?_)
            · refine Tr.bipush (pc := 161) d_X5_piece_161 rfl (by decide) ?_
              refine Tr.pick [] (ls2 := []) rfl ?_
              exact J163 _ _ hS (by omega) ((St.ka h150 (by decide) (by decide) (by decide)).trans k146_3_r810) ((St.kp h150 (by decide) (by decide) (by decide)).trans k146_6_5) ((St.kp h150 (by decide) (by decide) (by decide)).trans k146_6_6)
            · refine Tr.bipush (pc := 156) d_X5_piece_156 rfl (by decide) ?_
              refine Tr.goto (pc := 158) (tgt := 163) d_X5_piece_158 rfl ?_
              refine Tr.pick [] (ls2 := []) rfl ?_
              exact J163 _ _ hS (by omega) ((St.ka h150 (by decide) (by decide) (by decide)).trans k146_3_r810) ((St.kp h150 (by decide) (by decide) (by decide)).trans k146_6_5) ((St.kp h150 (by decide) (by decide) (by decide)).trans k146_6_6)
          refine Tr.if_ne (pc := 134) (tgt := 146) d_X5_piece_134 rfl (fun c134 => ?_) (fun c134 => ?_)
          · refine Tr.pick [0] (ls2 := [(0, (2, 6))]) rfl ?_
            exact J146 _ hS ((St.ka h131 (by decide) (by decide) (by decide)).trans ((St.ka h108 (by decide) (by decide) (by decide)).trans ((St.ka h68 (by decide) (by decide) (by decide)).trans er11))) ((St.kp h131 (by decide) (by decide) (by decide)).trans ((St.kp h108 (by decide) (by decide) (by decide)).trans ((St.kp h68 (by decide) (by decide) (by decide)).trans er8))) ((St.kp h131 (by decide) (by decide) (by decide)).trans ((St.kp h108 (by decide) (by decide) (by decide)).trans ((St.kp h68 (by decide) (by decide) (by decide)).trans en_6_6)))
          · refine Tr.aload_n (pc := 137) (i := 0) d_X5_piece_137 rfl rfl ?_
            refine Tr.bipush (pc := 138) d_X5_piece_138 rfl (by decide) ?_
            refine Tr.callV (pc := 140) (as := [_]) d_X5_piece_140 s_5_71 ok_X5_isOwn rfl rfl (Nat.le_of_ble_eq_true rfl) (Nat.le_of_ble_eq_true rfl) (by decide) (ty_6 hS.1.1) ?_
            refine Tr.imp (Tr.deep (by decide) (sp_X5_isOwn_6_w4 hS.1 ((St.kp hS (by decide) (by decide) (by decide)).trans en_6_2) 26 (by omega))) ?_
            rintro M140 _ ⟨h140, r140, rfl, lr140, ur140⟩
            have hS := St.tr hS h140 (by decide) (by decide)
            refine Tr.sc [(0, r140)] rfl ?_
            refine Tr.if_eq (pc := 143) (tgt := 167) d_X5_piece_143 rfl (fun c143 => ?_) (fun c143 => ?_)
            · refine Tr.aload_n (pc := 167) (i := 0) d_X5_piece_167 rfl rfl ?_
              refine Tr.iconst (pc := 168) d_X5_piece_168 (by decide) ?_
              refine Tr.callV (pc := 169) (as := [_]) d_X5_piece_169 s_5_56 ok_X5_refuse rfl rfl (Nat.le_of_ble_eq_true rfl) (Nat.le_of_ble_eq_true rfl) (by decide) (ty_6 hS.1.1) ?_
              refine Tr.imp (Tr.deep (by decide) (sp_X5_refuse_6_w1 hS.1 ((St.kp hS (by decide) (by decide) (by decide)).trans en_6_2) 1 (by omega))) ?_
              rintro M169 _ ⟨h169, r169, rfl, lr169, ur169⟩
              have hS := St.tr hS h169 (by decide) (by decide)
              refine Tr.sc [(0, r169)] rfl ?_
              exact Tr.zret (pc := 172) d_X5_piece_172 rfl (by omega) ⟨hS, _, rfl, by omega, by omega⟩
            · refine Tr.pick [0] (ls2 := [(0, (2, 6))]) rfl ?_
              exact J146 _ hS ((St.ka h140 (by decide) (by decide) (by decide)).trans ((St.ka h131 (by decide) (by decide) (by decide)).trans ((St.ka h108 (by decide) (by decide) (by decide)).trans ((St.ka h68 (by decide) (by decide) (by decide)).trans er11)))) ((St.kp h140 (by decide) (by decide) (by decide)).trans ((St.kp h131 (by decide) (by decide) (by decide)).trans ((St.kp h108 (by decide) (by decide) (by decide)).trans ((St.kp h68 (by decide) (by decide) (by decide)).trans er8)))) ((St.kp h140 (by decide) (by decide) (by decide)).trans ((St.kp h131 (by decide) (by decide) (by decide)).trans ((St.kp h108 (by decide) (by decide) (by decide)).trans ((St.kp h68 (by decide) (by decide) (by decide)).trans en_6_6))))
        · refine Tr.aload_n (pc := 114) (i := 0) d_X5_piece_114 rfl rfl ?_
          refine Tr.getf (pc := 115) d_X5_piece_115 f_5_32 (by decide) (by decide) (ty_6 hS.1.1) ?_
          refine Tr.tp 15 ((St.kp hS (by decide) (by decide) (by decide)).trans en_6_4) ?_
          refine Tr.iconst (pc := 118) d_X5_piece_118 (by decide) ?_
          refine Tr.iconst (pc := 119) d_X5_piece_119 (by decide) ?_
          refine Tr.callV (pc := 120) (as := [_, _]) d_X5_piece_120 s_5_215 ok_X4_emit rfl rfl (Nat.le_of_ble_eq_true rfl) (Nat.le_of_ble_eq_true rfl) (by decide) (ty_15 hS.1.1) ?_
          refine Tr.imp (Tr.deep (by decide) (sp_X4_emit_15 hS.1.wk 3 (by omega) 0 (by omega) (by omega))) ?_
          rintro M120 _ ⟨h120, rfl⟩
          have hS := St.tr hS h120 (by decide) (by decide)
          refine Tr.sc [] rfl ?_
          refine Tr.aload_n (pc := 123) (i := 0) d_X5_piece_123 rfl rfl ?_
          refine Tr.callV (pc := 124) (as := []) d_X5_piece_124 s_5_74 ok_X5_goOn rfl rfl (Nat.le_of_ble_eq_true rfl) (Nat.le_of_ble_eq_true rfl) (by decide) (ty_6 hS.1.1) ?_
          refine Tr.imp (Tr.deep (by decide) (sp_X5_goOn_6 hS.1 )) ?_
          rintro M124 _ ⟨h124, r124, rfl, lr124, ur124⟩
          have hS := St.tr hS h124 (by decide) (by decide)
          refine Tr.sc [(0, r124)] rfl ?_
          exact Tr.zret (pc := 127) d_X5_piece_127 rfl (by omega) ⟨hS, _, rfl, by omega, by omega⟩
      · refine Tr.aload_n (pc := 74) (i := 0) d_X5_piece_74 rfl rfl ?_
        refine Tr.bipush (pc := 75) d_X5_piece_75 rfl (by decide) ?_
        refine Tr.callV (pc := 77) (as := [_]) d_X5_piece_77 s_5_206 ok_X5_takeOpening rfl rfl (Nat.le_of_ble_eq_true rfl) (Nat.le_of_ble_eq_true rfl) (by decide) (ty_6 hS.1.1) ?_
        refine Tr.imp (Tr.deep (by decide) (sp_X5_takeOpening_6_w8 hS.1 ((St.kp hS (by decide) (by decide) (by decide)).trans en_6_2) ((St.kp h68 (by decide) (by decide) (by decide)).trans en_6_6) 40 (by omega))) ?_
        rintro M77 _ ⟨h77, r77, rfl, lr77, ur77⟩
        have hS := St.tr hS h77 (by decide) (by decide)
        refine Tr.sc [(0, r77)] rfl ?_
        refine Tr.if_eq (pc := 80) (tgt := 103) d_X5_piece_80 rfl (fun _ => ?_) (fun hc => absurd (by omega) hc)
        refine Tr.iconst (pc := 103) d_X5_piece_103 (by decide) ?_
        exact Tr.zret (pc := 104) d_X5_piece_104 rfl (by omega) ⟨hS, _, rfl, by omega, by omega⟩
    · refine Tr.aload_n (pc := 60) (i := 0) d_X5_piece_60 rfl rfl ?_
      refine Tr.callV (pc := 61) (as := []) d_X5_piece_61 s_5_230 ok_X5_namedPiece rfl rfl (Nat.le_of_ble_eq_true rfl) (Nat.le_of_ble_eq_true rfl) (by decide) (ty_6 hS.1.1) ?_
      refine Tr.imp (Tr.deep (by decide) (sp_X5_namedPiece_6_w1 hS.1 hE ((St.kp hS (by decide) (by decide) (by decide)).trans en_6_2) ((St.kp hS (by decide) (by decide) (by decide)).trans en_6_3) ((St.kp hS (by decide) (by decide) (by decide)).trans en_6_4))) ?_
      rintro M61 _ ⟨h61, r61, rfl, lr61, ur61⟩
      have hS := St.tr hS h61 (by decide) (by decide)
      refine Tr.sc [(0, r61)] rfl ?_
      exact Tr.zret (pc := 64) d_X5_piece_64 rfl (by omega) ⟨hS, _, rfl, by omega, by omega⟩
  · refine Tr.aload_n (pc := 16) (i := 0) d_X5_piece_16 rfl rfl ?_
    refine Tr.iconst (pc := 17) d_X5_piece_17 (by decide) ?_
    refine Tr.sipush (pc := 18) d_X5_piece_18 rfl (by decide) ?_
    refine Tr.callV (pc := 21) (as := [_, _]) d_X5_piece_21 s_5_87 ok_X5_takeNumber rfl rfl (Nat.le_of_ble_eq_true rfl) (Nat.le_of_ble_eq_true rfl) (by decide) (ty_6 hS.1.1) ?_
    refine Tr.imp (Tr.deep (by decide) (sp_X5_takeNumber_6_w2 hS.1 ((St.kp hS (by decide) (by decide) (by decide)).trans en_6_2) 0 (by omega) 999 (by omega))) ?_
    rintro M21 _ ⟨h21, r21, rfl, lr21, ur21⟩
    have hS := St.tr hS h21 (by decide) (by decide)
    refine Tr.sc [(0, r21)] rfl ?_
    refine Tr.istore_n (pc := 24) (i := 1) (ls2 := [(1, (0, r21)), (0, (2, 6))]) d_X5_piece_24 rfl (by decide) rfl ?_
    refine Tr.aload_n (pc := 25) (i := 0) d_X5_piece_25 rfl rfl ?_
    refine Tr.getf (pc := 26) d_X5_piece_26 f_5_32 (by decide) (by decide) (ty_6 hS.1.1) ?_
    refine Tr.tp 15 ((St.kp hS (by decide) (by decide) (by decide)).trans en_6_4) ?_
    refine Tr.iconst (pc := 29) d_X5_piece_29 (by decide) ?_
    refine Tr.iload_n (pc := 30) (i := 1) d_X5_piece_30 rfl rfl ?_
    refine Tr.callV (pc := 31) (as := [_, _]) d_X5_piece_31 s_5_215 ok_X4_emit rfl rfl (Nat.le_of_ble_eq_true rfl) (Nat.le_of_ble_eq_true rfl) (by decide) (ty_15 hS.1.1) ?_
    refine Tr.imp (Tr.deep (by decide) (sp_X4_emit_15_w3 hS.1.wk 0 (by omega) r21 (by omega) (by omega))) ?_
    rintro M31 _ ⟨h31, rfl⟩
    have hS := St.tr hS h31 (by decide) (by decide)
    refine Tr.sc [] rfl ?_
    refine Tr.iload_n (pc := 34) (i := 1) d_X5_piece_34 rfl rfl ?_
    refine Tr.if_lt (pc := 35) (tgt := 42) d_X5_piece_35 rfl (fun c35 => ?_) (fun c35 => ?_)
    · refine Tr.iconst (pc := 42) d_X5_piece_42 (by decide) ?_
      exact Tr.zret (pc := 43) d_X5_piece_43 rfl (by omega) ⟨hS, _, rfl, by omega, by omega⟩
    · refine Tr.iconst (pc := 38) d_X5_piece_38 (by decide) ?_
      refine Tr.goto (pc := 39) (tgt := 43) d_X5_piece_39 rfl ?_
      exact Tr.zret (pc := 43) d_X5_piece_43 rfl (by omega) ⟨hS, _, rfl, by omega, by omega⟩

def ws_X4_emit_15_w5 : List (Int × Int) := [(15, 11)]
def as_X4_emit_15_w5 : List Int := [24, 25]
def q_X4_emit_15_w5 (M0 M' : Mem) (r : Option PV) : Prop := St Tru ws_X4_emit_15_w5 as_X4_emit_15_w5 M0 M' ∧ r = none
set_option maxRecDepth 100000 in
set_option maxHeartbeats 4000000 in
theorem sp_X4_emit_15_w5 {l : Launch} {K : EC} {M0 : Mem} (hI : In Tru M0)  (a1 : Int) (ha1 : 8 ≤ a1 ∧ a1 ≤ 10) (a2 : Int) (ha2 : 0 ≤ a2 ∧ a2 ≤ 0) (hp0 : (a1 = 1 → 0 ≤ a2 ∧ a2 ≤ 2) ∧ (a1 = 2 ∨ a1 = 4 → 0 ≤ a2 ∧ a2 ≤ 5)) : Tr l K 0 mX4_emit 0 [(0, (2, 15)), (1, (0, a1)), (2, (0, a2))] [] M0 (q_X4_emit_15_w5 M0) := by
  have hS : St Tru ws_X4_emit_15_w5 as_X4_emit_15_w5 M0 M0 := St.rf hI
  refine Tr.aload_n (pc := 0) (i := 0) d_X4_emit_0 rfl rfl ?_
  refine Tr.getf (pc := 1) d_X4_emit_1 f_4_49 (by decide) (by decide) (ty_15 hS.1.1) ?_
  refine Tr.gen (P := fun v => 0 ≤ v ∧ v ≤ 900) (ir_15_11 hS.1.2.1) (fun r1 er1 br1 => ?_)
  refine Tr.sipush (pc := 4) d_X4_emit_4 rfl (by decide) ?_
  refine Tr.icmp_ge (pc := 7) (tgt := 40) d_X4_emit_7 rfl (fun c7 => ?_) (fun c7 => ?_)
  · exact Tr.vret (pc := 40) d_X4_emit_40 rfl ⟨hS, rfl⟩
  · refine Tr.aload_n (pc := 10) (i := 0) d_X4_emit_10 rfl rfl ?_
    refine Tr.getf (pc := 11) d_X4_emit_11 f_4_36 (by decide) (by decide) (ty_15 hS.1.1) ?_
    refine Tr.tp 24 (fx_15_9 hS.1.1) ?_
    refine Tr.aload_n (pc := 14) (i := 0) d_X4_emit_14 rfl rfl ?_
    refine Tr.getf (pc := 15) d_X4_emit_15 f_4_49 (by decide) (by decide) (ty_15 hS.1.1) ?_
    refine Tr.tp r1 er1 ?_
    refine Tr.iload_n (pc := 18) (i := 1) d_X4_emit_18 rfl rfl ?_
    refine Tr.iast (pc := 19) d_X4_emit_19 (ty_24 hS.1.1) (by omega) (by omega) ?_
    refine Tr.aload_n (pc := 20) (i := 0) d_X4_emit_20 rfl rfl ?_
    refine Tr.getf (pc := 21) d_X4_emit_21 f_4_39 (by decide) (by decide) (show mT (wr M0 24 r1 a1) 15 = (4, 13) from ty_15 (M := M0) hS.1.1) ?_
    refine Tr.tp 25 ((rd_wb _ rfl).trans (fx_15_10 (M := M0) hS.1.1)) ?_
    refine Tr.aload_n (pc := 24) (i := 0) d_X4_emit_24 rfl rfl ?_
    refine Tr.getf (pc := 25) d_X4_emit_25 f_4_49 (by decide) (by decide) (show mT (wr M0 24 r1 a1) 15 = (4, 13) from ty_15 (M := M0) hS.1.1) ?_
    refine Tr.tp r1 ((rd_wb _ rfl).trans er1) ?_
    refine Tr.iload_n (pc := 28) (i := 2) d_X4_emit_28 rfl rfl ?_
    refine Tr.iastS (pc := 29) (P := St Tru ws_X4_emit_15_w5 as_X4_emit_15_w5 M0) d_X4_emit_29 (show mT (wr M0 24 r1 a1) 25 = (20, 900) from ty_25 (M := M0) hS.1.1) (by omega) (by omega) (St.two (x := 24) (y := 25) 18 19 hS (by decide) hp0 (by decide) (by decide) rfl (by decide +kernel) (by decide +kernel) (by decide +kernel) (by omega) rfl (by decide +kernel) (by decide +kernel) (by decide +kernel) (by omega) trivial) (fun M29 hS w29 => ?_)
    refine Tr.aload_n (pc := 30) (i := 0) d_X4_emit_30 rfl rfl ?_
    refine Tr.dup (pc := 31) d_X4_emit_31 ne21 ?_
    refine Tr.getf (pc := 32) d_X4_emit_32 f_4_49 (by decide) (by decide) (ty_15 hS.1.1) ?_
    refine Tr.tp r1 ((Wr.b w29 rfl).trans ((rd_wb _ rfl).trans er1)) ?_
    refine Tr.iconst (pc := 35) d_X4_emit_35 (by decide) ?_
    refine Tr.iadd (pc := 36) d_X4_emit_36 ?_
    refine Tr.tp (r1 + 1) ((w32_id (by omega)).trans (by omega)) ?_
    refine Tr.putfS (pc := 37) (P := St Tru ws_X4_emit_15_w5 as_X4_emit_15_w5 M0) d_X4_emit_37 f_4_49 (by decide) (by decide) (ty_15 hS.1.1) (st_15_11 hS (by decide) (by omega) trivial) (fun M37 hS w37 => ?_)
    exact Tr.vret (pc := 40) d_X4_emit_40 rfl ⟨hS, rfl⟩

def ws_X5_product_6_w17 : List (Int × Int) := [(6, 0), (6, 1), (6, 5), (15, 11)]
def as_X5_product_6_w17 : List Int := [24, 25]
def q_X5_product_6_w17 (M0 M' : Mem) (r : Option PV) : Prop := St Tru ws_X5_product_6_w17 as_X5_product_6_w17 M0 M' ∧ ∃ v : Int, r = some (0, v) ∧ 0 ≤ v ∧ v ≤ 1
set_option maxRecDepth 100000 in
set_option maxHeartbeats 4000000 in
theorem sp_X5_product_6_w17 {l : Launch} {K : EC} {M0 : Mem} {xq : Int} (hI : In Tru M0) (hE : e_all K xq) (en_6_2 : rd M0 6 2 = 2) (en_6_3 : rd M0 6 3 = 7) (en_6_4 : rd M0 6 4 = 15) (en_6_6 : rd M0 6 6 = 8)   : Tr l K 4 mX5_product 0 [(0, (2, 6))] [] M0 (q_X5_product_6_w17 M0) := by
  have hS : St Tru ws_X5_product_6_w17 as_X5_product_6_w17 M0 M0 := St.rf hI
  refine Tr.aload_n (pc := 0) (i := 0) d_X5_product_0 rfl rfl ?_
  refine Tr.callV (pc := 1) (as := []) d_X5_product_1 s_5_227 ok_X5_piece rfl rfl (Nat.le_of_ble_eq_true rfl) (Nat.le_of_ble_eq_true rfl) (by decide) (ty_6 hS.1.1) ?_
  refine Tr.imp (Tr.deep (by decide) (sp_X5_piece_6_w17 hS.1 hE ((St.kp hS (by decide) (by decide) (by decide)).trans en_6_2) ((St.kp hS (by decide) (by decide) (by decide)).trans en_6_3) ((St.kp hS (by decide) (by decide) (by decide)).trans en_6_4) en_6_6)) ?_
  rintro M1 _ ⟨h1, r1, rfl, lr1, ur1⟩
  have hS := St.tr hS h1 (by decide) (by decide)
  refine Tr.sc [(0, r1)] rfl ?_
  refine Tr.istore_n (pc := 4) (i := 1) (ls2 := [(1, (0, r1)), (0, (2, 6))]) d_X5_product_4 rfl (by decide) rfl ?_
  refine Tr.iconst (pc := 5) d_X5_product_5 (by decide) ?_
  refine Tr.istore_n (pc := 6) (i := 2) (ls2 := [(2, (0, 0)), (1, (0, r1)), (0, (2, 6))]) d_X5_product_6 rfl (by decide) rfl ?_
  have J7 : ∀ (n7 : Nat) (M : Mem) (p7_1 p7_2 : Int), St Tru ws_X5_product_6_w17 as_X5_product_6_w17 M0 M → (0 ≤ p7_1 ∧ p7_1 ≤ 1) → (0 ≤ p7_2 ∧ p7_2 ≤ 900) → rd M 6 6 = 8 → (900 - p7_2).toNat < n7 → Tr l K 4 mX5_product 7 [(0, (2, 6)), (1, (0, p7_1)), (2, (0, p7_2))] [] M (q_X5_product_6_w17 M0) := by
    intro n7
    induction n7 with
    | zero => intro M p7_1 p7_2 hS bp7_1 bp7_2 k7_6_6 hm7; exact absurd hm7 (Nat.not_lt_zero _)
    | succ n7 J7 =>
      intro M p7_1 p7_2 hS bp7_1 bp7_2 k7_6_6 hm7
      refine Tr.iload_n (pc := 7) (i := 2) d_X5_product_7 rfl rfl ?_
      refine Tr.sipush (pc := 8) d_X5_product_8 rfl (by decide) ?_
      refine Tr.icmp_ge (pc := 11) (tgt := 101) d_X5_product_11 rfl (fun c11 => ?_) (fun c11 => ?_)
      · refine Tr.iload_n (pc := 101) (i := 1) d_X5_product_101 rfl rfl ?_
        exact Tr.zret (pc := 102) d_X5_product_102 rfl (by omega) ⟨hS, _, rfl, by omega, by omega⟩
      · refine Tr.iload_n (pc := 14) (i := 1) d_X5_product_14 rfl rfl ?_
        refine Tr.if_eq (pc := 15) (tgt := 101) d_X5_product_15 rfl (fun c15 => ?_) (fun c15 => ?_)
        · refine Tr.iload_n (pc := 101) (i := 1) d_X5_product_101 rfl rfl ?_
          exact Tr.zret (pc := 102) d_X5_product_102 rfl (by omega) ⟨hS, _, rfl, by omega, by omega⟩
        · refine Tr.aload_n (pc := 18) (i := 0) d_X5_product_18 rfl rfl ?_
          refine Tr.bipush (pc := 19) d_X5_product_19 rfl (by decide) ?_
          refine Tr.callV (pc := 21) (as := [_]) d_X5_product_21 s_5_77 ok_X5_isSign rfl rfl (Nat.le_of_ble_eq_true rfl) (Nat.le_of_ble_eq_true rfl) (by decide) (ty_6 hS.1.1) ?_
          refine Tr.imp (Tr.deep (by decide) (sp_X5_isSign_6_w2 hS.1 ((St.kp hS (by decide) (by decide) (by decide)).trans en_6_2) 42 (by omega))) ?_
          rintro M21 _ ⟨h21, r21, rfl, lr21, ur21⟩
          have hS := St.tr hS h21 (by decide) (by decide)
          refine Tr.sc [(0, r21)] rfl ?_
          have J45 : ∀ (M : Mem), St Tru ws_X5_product_6_w17 as_X5_product_6_w17 M0 M → rd M 6 6 = 8 → Tr l K 4 mX5_product 45 [(0, (2, 6)), (2, (0, p7_2))] [] M (q_X5_product_6_w17 M0) := by
            intro M  hS  k45_6_6
            refine Tr.aload_n (pc := 45) (i := 0) d_X5_product_45 rfl rfl ?_
            refine Tr.bipush (pc := 46) d_X5_product_46 rfl (by decide) ?_
            refine Tr.callV (pc := 48) (as := [_]) d_X5_product_48 s_5_77 ok_X5_isSign rfl rfl (Nat.le_of_ble_eq_true rfl) (Nat.le_of_ble_eq_true rfl) (by decide) (ty_6 hS.1.1) ?_
            refine Tr.imp (Tr.deep (by decide) (sp_X5_isSign_6_w2 hS.1 ((St.kp hS (by decide) (by decide) (by decide)).trans en_6_2) 42 (by omega))) ?_
            rintro M48 _ ⟨h48, r48, rfl, lr48, ur48⟩
            have hS := St.tr hS h48 (by decide) (by decide)
            refine Tr.sc [(0, r48)] rfl ?_
            have J75 : ∀ (M : Mem) (q75_0 : Int), St Tru ws_X5_product_6_w17 as_X5_product_6_w17 M0 M → (8 ≤ q75_0 ∧ q75_0 ≤ 10) → rd M 6 6 = 8 → Tr l K 4 mX5_product 75 [(0, (2, 6)), (2, (0, p7_2))] [(0, q75_0)] M (q_X5_product_6_w17 M0) := by
              intro M q75_0 hS bq75_0 k75_6_6
              refine Tr.istore_n (pc := 75) (i := 3) (ls2 := [(3, (0, q75_0)), (0, (2, 6)), (2, (0, p7_2))]) d_X5_product_75 rfl (by decide) rfl ?_
              refine Tr.aload_n (pc := 76) (i := 0) d_X5_product_76 rfl rfl ?_
              refine Tr.callV (pc := 77) (as := []) d_X5_product_77 s_5_74 ok_X5_goOn rfl rfl (Nat.le_of_ble_eq_true rfl) (Nat.le_of_ble_eq_true rfl) (by decide) (ty_6 hS.1.1) ?_
              refine Tr.imp (Tr.deep (by decide) (sp_X5_goOn_6 hS.1 )) ?_
              rintro M77 _ ⟨h77, r77, rfl, lr77, ur77⟩
              have hS := St.tr hS h77 (by decide) (by decide)
              refine Tr.sc [(0, r77)] rfl ?_
              refine Tr.pop (pc := 80) d_X5_product_80 ne01 ?_
              refine Tr.aload_n (pc := 81) (i := 0) d_X5_product_81 rfl rfl ?_
              refine Tr.callV (pc := 82) (as := []) d_X5_product_82 s_5_227 ok_X5_piece rfl rfl (Nat.le_of_ble_eq_true rfl) (Nat.le_of_ble_eq_true rfl) (by decide) (ty_6 hS.1.1) ?_
              refine Tr.imp (Tr.deep (by decide) (sp_X5_piece_6_w17 hS.1 hE ((St.kp hS (by decide) (by decide) (by decide)).trans en_6_2) ((St.kp hS (by decide) (by decide) (by decide)).trans en_6_3) ((St.kp hS (by decide) (by decide) (by decide)).trans en_6_4) ((St.kp h77 (by decide) (by decide) (by decide)).trans k75_6_6))) ?_
              rintro M82 _ ⟨h82, r82, rfl, lr82, ur82⟩
              have hS := St.tr hS h82 (by decide) (by decide)
              refine Tr.sc [(0, r82)] rfl ?_
              refine Tr.istore_n (pc := 85) (i := 1) (ls2 := [(1, (0, r82)), (3, (0, q75_0)), (0, (2, 6)), (2, (0, p7_2))]) d_X5_product_85 rfl (by decide) rfl ?_
              refine Tr.aload_n (pc := 86) (i := 0) d_X5_product_86 rfl rfl ?_
              refine Tr.getf (pc := 87) d_X5_product_87 f_5_32 (by decide) (by decide) (ty_6 hS.1.1) ?_
              refine Tr.tp 15 ((St.kp hS (by decide) (by decide) (by decide)).trans en_6_4) ?_
              refine Tr.iload_n (pc := 90) (i := 3) d_X5_product_90 rfl rfl ?_
              refine Tr.iconst (pc := 91) d_X5_product_91 (by decide) ?_
              refine Tr.callV (pc := 92) (as := [_, _]) d_X5_product_92 s_5_215 ok_X4_emit rfl rfl (Nat.le_of_ble_eq_true rfl) (Nat.le_of_ble_eq_true rfl) (by decide) (ty_15 hS.1.1) ?_
              refine Tr.imp (Tr.deep (by decide) (sp_X4_emit_15_w5 hS.1.wk q75_0 (by omega) 0 (by omega) (by omega))) ?_
              rintro M92 _ ⟨h92, rfl⟩
              have hS := St.tr hS h92 (by decide) (by decide)
              refine Tr.sc [] rfl ?_
              refine Tr.iincV (pc := 95) (n2 := (p7_2 + 1)) (ls2 := [(2, (0, (p7_2 + 1))), (1, (0, r82)), (3, (0, q75_0)), (0, (2, 6))]) d_X5_product_95 rfl (by decide) ((w32_id (by omega)).trans (by omega)) rfl ?_
              refine Tr.goto (pc := 98) (tgt := 7) d_X5_product_98 rfl ?_
              refine Tr.pick [3, 1, 0] (ls2 := [(0, (2, 6)), (1, (0, r82)), (2, (0, (p7_2 + 1)))]) rfl ?_
              exact J7 _ _ _ hS (by omega) (by omega) ((St.kp h92 (by decide) (by decide) (by decide)).trans ((St.kp h82 (by decide) (by decide) (by decide)).trans ((St.kp h77 (by decide) (by decide) (by decide)).trans k75_6_6))) (by omega)
            refine Tr.if_eq (pc := 51) (tgt := 59) d_X5_product_51 rfl (fun c51 => ?_) (fun c51 => ?_)
            · refine Tr.aload_n (pc := 59) (i := 0) d_X5_product_59 rfl rfl ?_
              refine Tr.bipush (pc := 60) d_X5_product_60 rfl (by decide) ?_
              refine Tr.callV (pc := 62) (as := [_]) d_X5_product_62 s_5_77 ok_X5_isSign rfl rfl (Nat.le_of_ble_eq_true rfl) (Nat.le_of_ble_eq_true rfl) (by decide) (ty_6 hS.1.1) ?_
              refine Tr.imp (Tr.deep (by decide) (sp_X5_isSign_6_w2 hS.1 ((St.kp hS (by decide) (by decide) (by decide)).trans en_6_2) 47 (by omega))) ?_
              rintro M62 _ ⟨h62, r62, rfl, lr62, ur62⟩
              have hS := St.tr hS h62 (by decide) (by decide)
              refine Tr.sc [(0, r62)] rfl ?_
              refine Tr.if_eq (pc := 65) (tgt := 73) d_X5_product_65 rfl (fun c65 => ?_) (fun c65 => ?_)
              · refine Tr.bipush (pc := 73) d_X5_product_73 rfl (by decide) ?_
                refine Tr.pick [0, 1] (ls2 := [(0, (2, 6)), (2, (0, p7_2))]) rfl ?_
                exact J75 _ _ hS (by omega) ((St.kp h62 (by decide) (by decide) (by decide)).trans ((St.kp h48 (by decide) (by decide) (by decide)).trans k45_6_6))
              · refine Tr.bipush (pc := 68) d_X5_product_68 rfl (by decide) ?_
                refine Tr.goto (pc := 70) (tgt := 75) d_X5_product_70 rfl ?_
                refine Tr.pick [0, 1] (ls2 := [(0, (2, 6)), (2, (0, p7_2))]) rfl ?_
                exact J75 _ _ hS (by omega) ((St.kp h62 (by decide) (by decide) (by decide)).trans ((St.kp h48 (by decide) (by decide) (by decide)).trans k45_6_6))
            · refine Tr.bipush (pc := 54) d_X5_product_54 rfl (by decide) ?_
              refine Tr.goto (pc := 56) (tgt := 75) d_X5_product_56 rfl ?_
              refine Tr.pick [0, 1] (ls2 := [(0, (2, 6)), (2, (0, p7_2))]) rfl ?_
              exact J75 _ _ hS (by omega) ((St.kp h48 (by decide) (by decide) (by decide)).trans k45_6_6)
          refine Tr.if_ne (pc := 24) (tgt := 45) d_X5_product_24 rfl (fun c24 => ?_) (fun c24 => ?_)
          · refine Tr.pick [0, 2] (ls2 := [(0, (2, 6)), (2, (0, p7_2))]) rfl ?_
            exact J45 _ hS ((St.kp h21 (by decide) (by decide) (by decide)).trans k7_6_6)
          · refine Tr.aload_n (pc := 27) (i := 0) d_X5_product_27 rfl rfl ?_
            refine Tr.bipush (pc := 28) d_X5_product_28 rfl (by decide) ?_
            refine Tr.callV (pc := 30) (as := [_]) d_X5_product_30 s_5_77 ok_X5_isSign rfl rfl (Nat.le_of_ble_eq_true rfl) (Nat.le_of_ble_eq_true rfl) (by decide) (ty_6 hS.1.1) ?_
            refine Tr.imp (Tr.deep (by decide) (sp_X5_isSign_6_w2 hS.1 ((St.kp hS (by decide) (by decide) (by decide)).trans en_6_2) 47 (by omega))) ?_
            rintro M30 _ ⟨h30, r30, rfl, lr30, ur30⟩
            have hS := St.tr hS h30 (by decide) (by decide)
            refine Tr.sc [(0, r30)] rfl ?_
            refine Tr.if_ne (pc := 33) (tgt := 45) d_X5_product_33 rfl (fun c33 => ?_) (fun c33 => ?_)
            · refine Tr.pick [0, 2] (ls2 := [(0, (2, 6)), (2, (0, p7_2))]) rfl ?_
              exact J45 _ hS ((St.kp h30 (by decide) (by decide) (by decide)).trans ((St.kp h21 (by decide) (by decide) (by decide)).trans k7_6_6))
            · refine Tr.aload_n (pc := 36) (i := 0) d_X5_product_36 rfl rfl ?_
              refine Tr.bipush (pc := 37) d_X5_product_37 rfl (by decide) ?_
              refine Tr.callV (pc := 39) (as := [_]) d_X5_product_39 s_5_77 ok_X5_isSign rfl rfl (Nat.le_of_ble_eq_true rfl) (Nat.le_of_ble_eq_true rfl) (by decide) (ty_6 hS.1.1) ?_
              refine Tr.imp (Tr.deep (by decide) (sp_X5_isSign_6_w2 hS.1 ((St.kp hS (by decide) (by decide) (by decide)).trans en_6_2) 37 (by omega))) ?_
              rintro M39 _ ⟨h39, r39, rfl, lr39, ur39⟩
              have hS := St.tr hS h39 (by decide) (by decide)
              refine Tr.sc [(0, r39)] rfl ?_
              refine Tr.if_eq (pc := 42) (tgt := 101) d_X5_product_42 rfl (fun c42 => ?_) (fun c42 => ?_)
              · refine Tr.iload_n (pc := 101) (i := 1) d_X5_product_101 rfl rfl ?_
                exact Tr.zret (pc := 102) d_X5_product_102 rfl (by omega) ⟨hS, _, rfl, by omega, by omega⟩
              · refine Tr.pick [0, 2] (ls2 := [(0, (2, 6)), (2, (0, p7_2))]) rfl ?_
                exact J45 _ hS ((St.kp h39 (by decide) (by decide) (by decide)).trans ((St.kp h30 (by decide) (by decide) (by decide)).trans ((St.kp h21 (by decide) (by decide) (by decide)).trans k7_6_6)))
  refine Tr.pick [2, 1, 0] (ls2 := [(0, (2, 6)), (1, (0, r1)), (2, (0, 0))]) rfl ?_
  exact J7 _ _ _ _ hS (by omega) (by omega) ((St.kp h1 (by decide) (by decide) (by decide)).trans en_6_6) (Nat.lt_succ_self _)
end
