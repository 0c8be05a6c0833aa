theorem d_X2_differences_76 : decode mX2_differences.2.2.1 76 = .ok (.istore 5, 2) := by decide +kernel
theorem d_X2_differences_78 : decode mX2_differences.2.2.1 78 = .ok (.iinc 6 1, 3) := by decide +kernel
theorem d_X2_differences_81 : decode mX2_differences.2.2.1 81 = .ok (.goto (-75), 3) := by decide +kernel
theorem ok_X2_differences : e_m mX2_differences 4 := ⟨tblG_in (inT6 (List.mem_of_getElem? (i := 107) rfl)) rfl, plainFor_of_name (by decide), rfl, ini_2, by decide +kernel, by decide⟩
theorem d_X2_search_80 : decode mX2_search.2.2.1 80 = .ok (.istore 5, 2) := by decide +kernel
theorem d_X2_search_82 : decode mX2_search.2.2.1 82 = .ok (.iload 4, 2) := by decide +kernel
theorem d_X2_search_84 : decode mX2_search.2.2.1 84 = .ok (.ifCond .eq 9, 3) := by decide +kernel
theorem d_X2_search_93 : decode mX2_search.2.2.1 93 = .ok (.iload 5, 2) := by decide +kernel
theorem d_X2_search_95 : decode mX2_search.2.2.1 95 = .ok (.istore_n 3, 1) := by decide +kernel
theorem d_X2_search_96 : decode mX2_search.2.2.1 96 = .ok (.aload_n 0, 1) := by decide +kernel
theorem d_X2_search_97 : decode mX2_search.2.2.1 97 = .ok (.getfield 9, 3) := by decide +kernel
theorem d_X2_search_100 : decode mX2_search.2.2.1 100 = .ok (.iconst 0, 1) := by decide +kernel
theorem d_X2_search_101 : decode mX2_search.2.2.1 101 = .ok (.iload 4, 2) := by decide +kernel
theorem d_X2_search_103 : decode mX2_search.2.2.1 103 = .ok (.sipush 256, 3) := by decide +kernel
theorem d_X2_search_106 : decode mX2_search.2.2.1 106 = .ok (.idiv, 1) := by decide +kernel
theorem d_X2_search_107 : decode mX2_search.2.2.1 107 = .ok (.iastore, 1) := by decide +kernel
theorem d_X2_search_108 : decode mX2_search.2.2.1 108 = .ok (.aload_n 0, 1) := by decide +kernel
theorem d_X2_search_109 : decode mX2_search.2.2.1 109 = .ok (.getfield 9, 3) := by decide +kernel
theorem d_X2_search_112 : decode mX2_search.2.2.1 112 = .ok (.iconst 1, 1) := by decide +kernel
theorem d_X2_search_113 : decode mX2_search.2.2.1 113 = .ok (.iload 4, 2) := by decide +kernel
theorem d_X2_search_115 : decode mX2_search.2.2.1 115 = .ok (.bipush 16, 2) := by decide +kernel
theorem d_X2_search_117 : decode mX2_search.2.2.1 117 = .ok (.idiv, 1) := by decide +kernel
theorem d_X2_search_118 : decode mX2_search.2.2.1 118 = .ok (.bipush 16, 2) := by decide +kernel
theorem d_X2_search_120 : decode mX2_search.2.2.1 120 = .ok (.irem, 1) := by decide +kernel
theorem d_X2_search_121 : decode mX2_search.2.2.1 121 = .ok (.iastore, 1) := by decide +kernel
theorem d_X2_search_122 : decode mX2_search.2.2.1 122 = .ok (.aload_n 0, 1) := by decide +kernel
theorem d_X2_search_123 : decode mX2_search.2.2.1 123 = .ok (.getfield 9, 3) := by decide +kernel
theorem d_X2_search_126 : decode mX2_search.2.2.1 126 = .ok (.iconst 2, 1) := by decide +kernel
theorem d_X2_search_127 : decode mX2_search.2.2.1 127 = .ok (.iload 4, 2) := by decide +kernel
theorem d_X2_search_129 : decode mX2_search.2.2.1 129 = .ok (.bipush 16, 2) := by decide +kernel
theorem d_X2_search_131 : decode mX2_search.2.2.1 131 = .ok (.irem, 1) := by decide +kernel
theorem d_X2_search_132 : decode mX2_search.2.2.1 132 = .ok (.iastore, 1) := by decide +kernel
theorem d_X2_search_133 : decode mX2_search.2.2.1 133 = .ok (.aload_n 0, 1) := by decide +kernel
theorem d_X2_search_134 : decode mX2_search.2.2.1 134 = .ok (.getfield 9, 3) := by decide +kernel
theorem d_X2_search_137 : decode mX2_search.2.2.1 137 = .ok (.iconst 3, 1) := by decide +kernel
theorem d_X2_search_138 : decode mX2_search.2.2.1 138 = .ok (.iconst 0, 1) := by decide +kernel
theorem d_X2_search_139 : decode mX2_search.2.2.1 139 = .ok (.iastore, 1) := by decide +kernel
theorem d_X2_search_140 : decode mX2_search.2.2.1 140 = .ok (.iload 5, 2) := by decide +kernel
theorem d_X2_search_142 : decode mX2_search.2.2.1 142 = .ok (.iload_n 3, 1) := by decide +kernel
theorem d_X2_search_143 : decode mX2_search.2.2.1 143 = .ok (.if_icmp .ne 13, 3) := by decide +kernel
theorem d_X2_search_146 : decode mX2_search.2.2.1 146 = .ok (.aload_n 0, 1) := by decide +kernel
theorem d_X2_search_147 : decode mX2_search.2.2.1 147 = .ok (.getfield 9, 3) := by decide +kernel
theorem d_X2_search_150 : decode mX2_search.2.2.1 150 = .ok (.iconst 3, 1) := by decide +kernel
theorem d_X2_search_151 : decode mX2_search.2.2.1 151 = .ok (.dup2, 1) := by decide +kernel
theorem d_X2_search_152 : decode mX2_search.2.2.1 152 = .ok (.iaload, 1) := by decide +kernel
theorem d_X2_search_153 : decode mX2_search.2.2.1 153 = .ok (.iconst 1, 1) := by decide +kernel
theorem d_X2_search_154 : decode mX2_search.2.2.1 154 = .ok (.iadd, 1) := by decide +kernel
theorem d_X2_search_155 : decode mX2_search.2.2.1 155 = .ok (.iastore, 1) := by decide +kernel
theorem d_X2_search_156 : decode mX2_search.2.2.1 156 = .ok (.iinc 4 1, 3) := by decide +kernel
theorem d_X2_search_159 : decode mX2_search.2.2.1 159 = .ok (.goto (-111), 3) := by decide +kernel
theorem d_X2_search_87 : decode mX2_search.2.2.1 87 = .ok (.iload 5, 2) := by decide +kernel
theorem d_X2_search_89 : decode mX2_search.2.2.1 89 = .ok (.iload_n 3, 1) := by decide +kernel
theorem d_X2_search_90 : decode mX2_search.2.2.1 90 = .ok (.if_icmp .ge 50, 3) := by decide +kernel
theorem d_X2_search_162 : decode mX2_search.2.2.1 162 = .ok (.aload_n 0, 1) := by decide +kernel
theorem d_X2_search_163 : decode mX2_search.2.2.1 163 = .ok (.iconst 1, 1) := by decide +kernel
theorem d_X2_search_164 : decode mX2_search.2.2.1 164 = .ok (.putfield 31, 3) := by decide +kernel
theorem f_2_31 : e_fld 2 31 2 1 7 3 false := ⟨RX2, TX2, 1, rfl, rfl, by decide, rfl, rfl, rfl, iX2, tblG_in (inT2 (List.mem_of_getElem? (i := 220) rfl)) rfl, tyX2_ok, nmX2⟩
theorem d_X2_search_167 : decode mX2_search.2.2.1 167 = .ok (.iload_n 3, 1) := by decide +kernel
theorem d_X2_search_168 : decode mX2_search.2.2.1 168 = .ok (.ireturn, 1) := by decide +kernel
theorem ok_X2_search : e_m mX2_search 2 := ⟨tblG_in (inT6 (List.mem_of_getElem? (i := 99) rfl)) rfl, plainFor_of_name (by decide), rfl, ini_2, by decide +kernel, by decide⟩
theorem d_X11_fit_32 : decode mX11_fit.2.2.1 32 = .ok (.ireturn, 1) := by decide +kernel
def mX11_fitted : MD := (11, yX11_fitted, cX11_fitted, 2, some .int)
theorem d_X11_fitted_0 : decode mX11_fitted.2.2.1 0 = .ok (.aload_n 0, 1) := by decide +kernel
theorem d_X11_fitted_1 : decode mX11_fitted.2.2.1 1 = .ok (.getfield 70, 3) := by decide +kernel
theorem d_X11_fitted_4 : decode mX11_fitted.2.2.1 4 = .ok (.getfield 280, 3) := by decide +kernel
theorem f_11_280 : e_fld 11 280 2 1 7 3 false := ⟨RX2, TX2, 1, rfl, rfl, by decide, rfl, rfl, rfl, iX2, tblG_in (inT2 (List.mem_of_getElem? (i := 221) rfl)) rfl, tyX2_ok, nmX2⟩
theorem d_X11_fitted_7 : decode mX11_fitted.2.2.1 7 = .ok (.ifCond .eq 12, 3) := by decide +kernel
theorem d_X11_fitted_19 : decode mX11_fitted.2.2.1 19 = .ok (.iconst (-1), 1) := by decide +kernel
theorem d_X11_fitted_20 : decode mX11_fitted.2.2.1 20 = .ok (.ireturn, 1) := by decide +kernel
theorem d_X11_fitted_10 : decode mX11_fitted.2.2.1 10 = .ok (.iload_n 1, 1) := by decide +kernel
theorem d_X11_fitted_11 : decode mX11_fitted.2.2.1 11 = .ok (.ifCond .lt 8, 3) := by decide +kernel
theorem d_X11_fitted_14 : decode mX11_fitted.2.2.1 14 = .ok (.iload_n 1, 1) := by decide +kernel
theorem d_X11_fitted_15 : decode mX11_fitted.2.2.1 15 = .ok (.iconst 3, 1) := by decide +kernel
theorem d_X11_fitted_16 : decode mX11_fitted.2.2.1 16 = .ok (.if_icmp .le 5, 3) := by decide +kernel
theorem d_X11_fitted_21 : decode mX11_fitted.2.2.1 21 = .ok (.aload_n 0, 1) := by decide +kernel
theorem d_X11_fitted_22 : decode mX11_fitted.2.2.1 22 = .ok (.getfield 70, 3) := by decide +kernel
theorem d_X11_fitted_25 : decode mX11_fitted.2.2.1 25 = .ok (.getfield 283, 3) := by decide +kernel
theorem f_11_283 : e_fld 11 283 2 2 7 2 true := ⟨RX2, TX2, 2, rfl, rfl, by decide, rfl, rfl, rfl, iX2, tblG_in (inT2 (List.mem_of_getElem? (i := 223) rfl)) rfl, tyX2_ok, nmX2⟩
theorem d_X11_fitted_28 : decode mX11_fitted.2.2.1 28 = .ok (.iload_n 1, 1) := by decide +kernel
theorem d_X11_fitted_29 : decode mX11_fitted.2.2.1 29 = .ok (.iaload, 1) := by decide +kernel
theorem d_X11_fitted_30 : decode mX11_fitted.2.2.1 30 = .ok (.ireturn, 1) := by decide +kernel
def mX11_ask : MD := (11, yX11_ask, cX11_ask, 4, some .int)
theorem d_X11_ask_0 : decode mX11_ask.2.2.1 0 = .ok (.iload_n 1, 1) := by decide +kernel
theorem d_X11_ask_1 : decode mX11_ask.2.2.1 1 = .ok (.ifCond .lt 30, 3) := by decide +kernel
theorem d_X11_ask_31 : decode mX11_ask.2.2.1 31 = .ok (.iconst (-1), 1) := by decide +kernel
theorem d_X11_ask_32 : decode mX11_ask.2.2.1 32 = .ok (.ireturn, 1) := by decide +kernel
theorem d_X11_ask_4 : decode mX11_ask.2.2.1 4 = .ok (.iload_n 1, 1) := by decide +kernel
theorem d_X11_ask_5 : decode mX11_ask.2.2.1 5 = .ok (.sipush 200, 3) := by decide +kernel
theorem d_X11_ask_8 : decode mX11_ask.2.2.1 8 = .ok (.if_icmp .gt 23, 3) := by decide +kernel
theorem d_X11_ask_11 : decode mX11_ask.2.2.1 11 = .ok (.iload_n 2, 1) := by decide +kernel
theorem d_X11_ask_12 : decode mX11_ask.2.2.1 12 = .ok (.iconst 1, 1) := by decide +kernel
theorem d_X11_ask_13 : decode mX11_ask.2.2.1 13 = .ok (.if_icmp .lt 18, 3) := by decide +kernel
theorem d_X11_ask_16 : decode mX11_ask.2.2.1 16 = .ok (.iload_n 2, 1) := by decide +kernel
theorem d_X11_ask_17 : decode mX11_ask.2.2.1 17 = .ok (.bipush 20, 2) := by decide +kernel
theorem d_X11_ask_19 : decode mX11_ask.2.2.1 19 = .ok (.if_icmp .gt 12, 3) := by decide +kernel
theorem d_X11_ask_22 : decode mX11_ask.2.2.1 22 = .ok (.iload_n 3, 1) := by decide +kernel
theorem d_X11_ask_23 : decode mX11_ask.2.2.1 23 = .ok (.ifCond .lt 8, 3) := by decide +kernel
theorem d_X11_ask_26 : decode mX11_ask.2.2.1 26 = .ok (.iload_n 3, 1) := by decide +kernel
theorem d_X11_ask_27 : decode mX11_ask.2.2.1 27 = .ok (.iconst 5, 1) := by decide +kernel
theorem d_X11_ask_28 : decode mX11_ask.2.2.1 28 = .ok (.if_icmp .le 5, 3) := by decide +kernel
theorem d_X11_ask_33 : decode mX11_ask.2.2.1 33 = .ok (.aload_n 0, 1) := by decide +kernel
theorem d_X11_ask_34 : decode mX11_ask.2.2.1 34 = .ok (.getfield 77, 3) := by decide +kernel
theorem d_X11_ask_37 : decode mX11_ask.2.2.1 37 = .ok (.iload_n 1, 1) := by decide +kernel
theorem d_X11_ask_38 : decode mX11_ask.2.2.1 38 = .ok (.iload_n 2, 1) := by decide +kernel
theorem d_X11_ask_39 : decode mX11_ask.2.2.1 39 = .ok (.iload_n 3, 1) := by decide +kernel
theorem d_X11_ask_40 : decode mX11_ask.2.2.1 40 = .ok (.invokevirtual 286, 3) := by decide +kernel
def mX0_add : MD := (0, yX0_add, cX0_add, 4, some .boolean)
theorem sel_X0_add : Cond.instanceMethod mX0_add.2.1 ∈ tblG ∧ Cond.selects mX0_add.2.1.cls mX0_add.2.1 mX0_add.2.1 ∈ tblG := ⟨tblG_in (inT6 (List.mem_of_getElem? (i := 120) rfl)) rfl, tblG_in (inT6 (List.mem_of_getElem? (i := 121) rfl)) rfl⟩
theorem s_11_286 : e_siteV 11 286 mX0_add 0 := ⟨tblG_in (inT6 (List.mem_of_getElem? (i := 119) rfl)) rfl, sel_X0_add.1, sel_X0_add.2, rfl⟩
theorem d_X0_add_0 : decode mX0_add.2.2.1 0 = .ok (.aload_n 0, 1) := by decide +kernel
theorem d_X0_add_1 : decode mX0_add.2.2.1 1 = .ok (.getfield 30, 3) := by decide +kernel
theorem f_0_30 : e_fld 0 30 0 0 8 0 false := ⟨RX0, TX0, 0, rfl, rfl, by decide, rfl, rfl, rfl, iX0, tblG_in (inT3 (List.mem_of_getElem? (i := 9) rfl)) rfl, tyX0_ok, nmX0⟩
theorem d_X0_add_4 : decode mX0_add.2.2.1 4 = .ok (.bipush 6, 2) := by decide +kernel
theorem d_X0_add_6 : decode mX0_add.2.2.1 6 = .ok (.if_icmp .lt 5, 3) := by decide +kernel
theorem d_X0_add_11 : decode mX0_add.2.2.1 11 = .ok (.aload_n 0, 1) := by decide +kernel
theorem d_X0_add_12 : decode mX0_add.2.2.1 12 = .ok (.getfield 11, 3) := by decide +kernel
theorem d_X0_add_15 : decode mX0_add.2.2.1 15 = .ok (.aload_n 0, 1) := by decide +kernel
theorem d_X0_add_16 : decode mX0_add.2.2.1 16 = .ok (.getfield 30, 3) := by decide +kernel
theorem d_X0_add_19 : decode mX0_add.2.2.1 19 = .ok (.iload_n 1, 1) := by decide +kernel
theorem d_X0_add_20 : decode mX0_add.2.2.1 20 = .ok (.iastore, 1) := by decide +kernel
theorem d_X0_add_21 : decode mX0_add.2.2.1 21 = .ok (.aload_n 0, 1) := by decide +kernel
theorem d_X0_add_22 : decode mX0_add.2.2.1 22 = .ok (.getfield 15, 3) := by decide +kernel
theorem d_X0_add_25 : decode mX0_add.2.2.1 25 = .ok (.aload_n 0, 1) := by decide +kernel
theorem d_X0_add_26 : decode mX0_add.2.2.1 26 = .ok (.getfield 30, 3) := by decide +kernel
theorem d_X0_add_29 : decode mX0_add.2.2.1 29 = .ok (.iload_n 2, 1) := by decide +kernel
theorem d_X0_add_30 : decode mX0_add.2.2.1 30 = .ok (.iastore, 1) := by decide +kernel
theorem d_X0_add_31 : decode mX0_add.2.2.1 31 = .ok (.aload_n 0, 1) := by decide +kernel
theorem d_X0_add_32 : decode mX0_add.2.2.1 32 = .ok (.getfield 18, 3) := by decide +kernel
theorem d_X0_add_35 : decode mX0_add.2.2.1 35 = .ok (.aload_n 0, 1) := by decide +kernel
theorem d_X0_add_36 : decode mX0_add.2.2.1 36 = .ok (.getfield 30, 3) := by decide +kernel
theorem d_X0_add_39 : decode mX0_add.2.2.1 39 = .ok (.iload_n 3, 1) := by decide +kernel
theorem d_X0_add_40 : decode mX0_add.2.2.1 40 = .ok (.iastore, 1) := by decide +kernel
theorem d_X0_add_41 : decode mX0_add.2.2.1 41 = .ok (.aload_n 0, 1) := by decide +kernel
theorem d_X0_add_42 : decode mX0_add.2.2.1 42 = .ok (.dup, 1) := by decide +kernel
theorem d_X0_add_43 : decode mX0_add.2.2.1 43 = .ok (.getfield 30, 3) := by decide +kernel
theorem d_X0_add_46 : decode mX0_add.2.2.1 46 = .ok (.iconst 1, 1) := by decide +kernel
theorem d_X0_add_47 : decode mX0_add.2.2.1 47 = .ok (.iadd, 1) := by decide +kernel
theorem d_X0_add_48 : decode mX0_add.2.2.1 48 = .ok (.putfield 30, 3) := by decide +kernel
theorem d_X0_add_51 : decode mX0_add.2.2.1 51 = .ok (.iconst 1, 1) := by decide +kernel
theorem d_X0_add_52 : decode mX0_add.2.2.1 52 = .ok (.ireturn, 1) := by decide +kernel
theorem d_X0_add_9 : decode mX0_add.2.2.1 9 = .ok (.iconst 0, 1) := by decide +kernel
theorem d_X0_add_10 : decode mX0_add.2.2.1 10 = .ok (.ireturn, 1) := by decide +kernel
theorem ok_X0_add : e_m mX0_add 3 := ⟨tblG_in (inT6 (List.mem_of_getElem? (i := 122) rfl)) rfl, plainFor_of_name (by decide), rfl, ini_0, by decide +kernel, by decide⟩
theorem d_X11_ask_43 : decode mX11_ask.2.2.1 43 = .ok (.ifCond .eq 13, 3) := by decide +kernel
theorem d_X11_ask_56 : decode mX11_ask.2.2.1 56 = .ok (.iconst (-1), 1) := by decide +kernel
theorem d_X11_ask_57 : decode mX11_ask.2.2.1 57 = .ok (.ireturn, 1) := by decide +kernel
theorem d_X11_ask_46 : decode mX11_ask.2.2.1 46 = .ok (.aload_n 0, 1) := by decide +kernel
theorem d_X11_ask_47 : decode mX11_ask.2.2.1 47 = .ok (.getfield 77, 3) := by decide +kernel
theorem d_X11_ask_50 : decode mX11_ask.2.2.1 50 = .ok (.getfield 136, 3) := by decide +kernel
theorem d_X11_ask_53 : decode mX11_ask.2.2.1 53 = .ok (.goto 4, 3) := by decide +kernel
def mX11_forget : MD := (11, yX11_forget, cX11_forget, 2, some .int)
theorem d_X11_forget_0 : decode mX11_forget.2.2.1 0 = .ok (.aload_n 0, 1) := by decide +kernel
theorem d_X11_forget_1 : decode mX11_forget.2.2.1 1 = .ok (.getfield 77, 3) := by decide +kernel
theorem d_X11_forget_4 : decode mX11_forget.2.2.1 4 = .ok (.getfield 136, 3) := by decide +kernel
theorem d_X11_forget_7 : decode mX11_forget.2.2.1 7 = .ok (.istore_n 1, 1) := by decide +kernel
theorem d_X11_forget_8 : decode mX11_forget.2.2.1 8 = .ok (.aload_n 0, 1) := by decide +kernel
theorem d_X11_forget_9 : decode mX11_forget.2.2.1 9 = .ok (.getfield 77, 3) := by decide +kernel
theorem d_X11_forget_12 : decode mX11_forget.2.2.1 12 = .ok (.iconst 0, 1) := by decide +kernel
theorem d_X11_forget_13 : decode mX11_forget.2.2.1 13 = .ok (.putfield 136, 3) := by decide +kernel
theorem d_X11_forget_16 : decode mX11_forget.2.2.1 16 = .ok (.iload_n 1, 1) := by decide +kernel
theorem d_X11_forget_17 : decode mX11_forget.2.2.1 17 = .ok (.ireturn, 1) := by decide +kernel
def mX11_together : MD := (11, yX11_together, cX11_together, 2, some .int)
theorem d_X11_together_0 : decode mX11_together.2.2.1 0 = .ok (.aload_n 0, 1) := by decide +kernel
theorem d_X11_together_1 : decode mX11_together.2.2.1 1 = .ok (.iload_n 1, 1) := by decide +kernel
theorem d_X11_together_2 : decode mX11_together.2.2.1 2 = .ok (.invokevirtual 174, 3) := by decide +kernel
theorem d_X11_together_5 : decode mX11_together.2.2.1 5 = .ok (.ifCond .eq 13, 3) := by decide +kernel
theorem d_X11_together_18 : decode mX11_together.2.2.1 18 = .ok (.iconst (-1), 1) := by decide +kernel
theorem d_X11_together_19 : decode mX11_together.2.2.1 19 = .ok (.ireturn, 1) := by decide +kernel
theorem d_X11_together_8 : decode mX11_together.2.2.1 8 = .ok (.aload_n 0, 1) := by decide +kernel
theorem d_X11_together_9 : decode mX11_together.2.2.1 9 = .ok (.getfield 77, 3) := by decide +kernel
theorem d_X11_together_12 : decode mX11_together.2.2.1 12 = .ok (.getfield 136, 3) := by decide +kernel
theorem d_X11_together_15 : decode mX11_together.2.2.1 15 = .ok (.ifCond .ne 5, 3) := by decide +kernel
theorem d_X11_together_20 : decode mX11_together.2.2.1 20 = .ok (.aload_n 0, 1) := by decide +kernel
theorem d_X11_together_21 : decode mX11_together.2.2.1 21 = .ok (.getfield 77, 3) := by decide +kernel
theorem d_X11_together_24 : decode mX11_together.2.2.1 24 = .ok (.aload_n 0, 1) := by decide +kernel
theorem d_X11_together_25 : decode mX11_together.2.2.1 25 = .ok (.getfield 30, 3) := by decide +kernel
theorem d_X11_together_28 : decode mX11_together.2.2.1 28 = .ok (.getfield 289, 3) := by decide +kernel
theorem f_11_289 : e_fld 11 289 3 5 12 2 true := ⟨RX3, TX3, 5, rfl, rfl, by decide, rfl, rfl, rfl, iX3, tblG_in (inT1 (List.mem_of_getElem? (i := 184) rfl)) rfl, tyX3_ok, nmX3⟩
theorem d_X11_together_31 : decode mX11_together.2.2.1 31 = .ok (.iload_n 1, 1) := by decide +kernel
theorem d_X11_together_32 : decode mX11_together.2.2.1 32 = .ok (.iconst 4, 1) := by decide +kernel
theorem d_X11_together_33 : decode mX11_together.2.2.1 33 = .ok (.imul, 1) := by decide +kernel
theorem d_X11_together_34 : decode mX11_together.2.2.1 34 = .ok (.iconst 2, 1) := by decide +kernel
theorem d_X11_together_35 : decode mX11_together.2.2.1 35 = .ok (.iadd, 1) := by decide +kernel
theorem d_X11_together_36 : decode mX11_together.2.2.1 36 = .ok (.iaload, 1) := by decide +kernel
theorem d_X11_together_37 : decode mX11_together.2.2.1 37 = .ok (.aload_n 0, 1) := by decide +kernel
theorem d_X11_together_38 : decode mX11_together.2.2.1 38 = .ok (.getfield 30, 3) := by decide +kernel
theorem d_X11_together_41 : decode mX11_together.2.2.1 41 = .ok (.iload_n 1, 1) := by decide +kernel
theorem d_X11_together_42 : decode mX11_together.2.2.1 42 = .ok (.invokevirtual 292, 3) := by decide +kernel
def mX3_wakeCost : MD := (3, yX3_wakeCost, cX3_wakeCost, 2, some .int)
theorem sel_X3_wakeCost : Cond.instanceMethod mX3_wakeCost.2.1 ∈ tblG ∧ Cond.selects mX3_wakeCost.2.1.cls mX3_wakeCost.2.1 mX3_wakeCost.2.1 ∈ tblG := ⟨tblG_in (inT6 (List.mem_of_getElem? (i := 10) rfl)) rfl, tblG_in (inT6 (List.mem_of_getElem? (i := 11) rfl)) rfl⟩
theorem s_11_292 : e_siteV 11 292 mX3_wakeCost 3 := ⟨tblG_in (inT6 (List.mem_of_getElem? (i := 131) rfl)) rfl, sel_X3_wakeCost.1, sel_X3_wakeCost.2, rfl⟩
theorem d_X3_wakeCost_0 : decode mX3_wakeCost.2.2.1 0 = .ok (.aload_n 0, 1) := by decide +kernel
theorem d_X3_wakeCost_1 : decode mX3_wakeCost.2.2.1 1 = .ok (.getfield 18, 3) := by decide +kernel
theorem d_X3_wakeCost_4 : decode mX3_wakeCost.2.2.1 4 = .ok (.iload_n 1, 1) := by decide +kernel
theorem d_X3_wakeCost_5 : decode mX3_wakeCost.2.2.1 5 = .ok (.iaload, 1) := by decide +kernel
theorem d_X3_wakeCost_6 : decode mX3_wakeCost.2.2.1 6 = .ok (.aload_n 0, 1) := by decide +kernel
theorem d_X3_wakeCost_7 : decode mX3_wakeCost.2.2.1 7 = .ok (.getfield 15, 3) := by decide +kernel
theorem d_X3_wakeCost_10 : decode mX3_wakeCost.2.2.1 10 = .ok (.iload_n 1, 1) := by decide +kernel
theorem d_X3_wakeCost_11 : decode mX3_wakeCost.2.2.1 11 = .ok (.iconst 4, 1) := by decide +kernel
theorem d_X3_wakeCost_12 : decode mX3_wakeCost.2.2.1 12 = .ok (.imul, 1) := by decide +kernel
theorem d_X3_wakeCost_13 : decode mX3_wakeCost.2.2.1 13 = .ok (.iconst 1, 1) := by decide +kernel
theorem d_X3_wakeCost_14 : decode mX3_wakeCost.2.2.1 14 = .ok (.iadd, 1) := by decide +kernel
theorem d_X3_wakeCost_15 : decode mX3_wakeCost.2.2.1 15 = .ok (.iaload, 1) := by decide +kernel
theorem d_X3_wakeCost_16 : decode mX3_wakeCost.2.2.1 16 = .ok (.imul, 1) := by decide +kernel
theorem d_X3_wakeCost_17 : decode mX3_wakeCost.2.2.1 17 = .ok (.ireturn, 1) := by decide +kernel
theorem ok_X3_wakeCost : e_m mX3_wakeCost 1 := ⟨tblG_in (inT6 (List.mem_of_getElem? (i := 12) rfl)) rfl, plainFor_of_name (by decide), rfl, ini_3, by decide +kernel, by decide⟩
theorem d_X11_together_45 : decode mX11_together.2.2.1 45 = .ok (.aload_n 0, 1) := by decide +kernel
theorem d_X11_together_46 : decode mX11_together.2.2.1 46 = .ok (.getfield 30, 3) := by decide +kernel
theorem d_X11_together_49 : decode mX11_together.2.2.1 49 = .ok (.getfield 295, 3) := by decide +kernel
theorem f_11_295 : e_fld 11 295 3 7 12 2 true := ⟨RX3, TX3, 7, rfl, rfl, by decide, rfl, rfl, rfl, iX3, tblG_in (inT1 (List.mem_of_getElem? (i := 193) rfl)) rfl, tyX3_ok, nmX3⟩
theorem d_X11_together_52 : decode mX11_together.2.2.1 52 = .ok (.iload_n 1, 1) := by decide +kernel
theorem d_X11_together_53 : decode mX11_together.2.2.1 53 = .ok (.iaload, 1) := by decide +kernel
theorem d_X11_together_54 : decode mX11_together.2.2.1 54 = .ok (.invokevirtual 298, 3) := by decide +kernel
def mX0_arrange : MD := (0, yX0_arrange, cX0_arrange, 10, some .int)
theorem sel_X0_arrange : Cond.instanceMethod mX0_arrange.2.1 ∈ tblG ∧ Cond.selects mX0_arrange.2.1.cls mX0_arrange.2.1 mX0_arrange.2.1 ∈ tblG := ⟨tblG_in (inT6 (List.mem_of_getElem? (i := 133) rfl)) rfl, tblG_in (inT6 (List.mem_of_getElem? (i := 134) rfl)) rfl⟩
theorem s_11_298 : e_siteV 11 298 mX0_arrange 0 := ⟨tblG_in (inT6 (List.mem_of_getElem? (i := 132) rfl)) rfl, sel_X0_arrange.1, sel_X0_arrange.2, rfl⟩
theorem d_X0_arrange_0 : decode mX0_arrange.2.2.1 0 = .ok (.iconst 0, 1) := by decide +kernel
theorem d_X0_arrange_1 : decode mX0_arrange.2.2.1 1 = .ok (.istore 4, 2) := by decide +kernel
theorem d_X0_arrange_3 : decode mX0_arrange.2.2.1 3 = .ok (.iload 4, 2) := by decide +kernel
theorem d_X0_arrange_5 : decode mX0_arrange.2.2.1 5 = .ok (.aload_n 0, 1) := by decide +kernel
theorem d_X0_arrange_6 : decode mX0_arrange.2.2.1 6 = .ok (.getfield 30, 3) := by decide +kernel
theorem d_X0_arrange_9 : decode mX0_arrange.2.2.1 9 = .ok (.if_icmp .ge 26, 3) := by decide +kernel
theorem d_X0_arrange_35 : decode mX0_arrange.2.2.1 35 = .ok (.aload_n 0, 1) := by decide +kernel
theorem d_X0_arrange_36 : decode mX0_arrange.2.2.1 36 = .ok (.aload_n 0, 1) := by decide +kernel
theorem d_X0_arrange_37 : decode mX0_arrange.2.2.1 37 = .ok (.getfield 30, 3) := by decide +kernel
theorem d_X0_arrange_40 : decode mX0_arrange.2.2.1 40 = .ok (.putfield 34, 3) := by decide +kernel
theorem f_0_34 : e_fld 0 34 0 7 8 0 false := ⟨RX0, TX0, 7, rfl, rfl, by decide, rfl, rfl, rfl, iX0, tblG_in (inT3 (List.mem_of_getElem? (i := 18) rfl)) rfl, tyX0_ok, nmX0⟩
theorem d_X0_arrange_43 : decode mX0_arrange.2.2.1 43 = .ok (.iconst 0, 1) := by decide +kernel
theorem d_X0_arrange_44 : decode mX0_arrange.2.2.1 44 = .ok (.istore 4, 2) := by decide +kernel
theorem d_X0_arrange_46 : decode mX0_arrange.2.2.1 46 = .ok (.iconst 0, 1) := by decide +kernel
