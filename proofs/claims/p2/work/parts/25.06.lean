theorem d_X0_turnOn_51 : decode mX0_turnOn.2.2.1 51 = .ok (.iconst 0, 1) := by decide +kernel
theorem d_X0_turnOn_52 : decode mX0_turnOn.2.2.1 52 = .ok (.ireturn, 1) := by decide +kernel
theorem d_X0_turnOn_11 : decode mX0_turnOn.2.2.1 11 = .ok (.aload_n 0, 1) := by decide +kernel
theorem d_X0_turnOn_12 : decode mX0_turnOn.2.2.1 12 = .ok (.getfield 21, 3) := by decide +kernel
theorem d_X0_turnOn_15 : decode mX0_turnOn.2.2.1 15 = .ok (.iload_n 1, 1) := by decide +kernel
theorem d_X0_turnOn_16 : decode mX0_turnOn.2.2.1 16 = .ok (.iaload, 1) := by decide +kernel
theorem d_X0_turnOn_17 : decode mX0_turnOn.2.2.1 17 = .ok (.aload_n 0, 1) := by decide +kernel
theorem d_X0_turnOn_18 : decode mX0_turnOn.2.2.1 18 = .ok (.getfield 18, 3) := by decide +kernel
theorem d_X0_turnOn_21 : decode mX0_turnOn.2.2.1 21 = .ok (.iload_n 1, 1) := by decide +kernel
theorem d_X0_turnOn_22 : decode mX0_turnOn.2.2.1 22 = .ok (.iaload, 1) := by decide +kernel
theorem d_X0_turnOn_23 : decode mX0_turnOn.2.2.1 23 = .ok (.if_icmp .ge 15, 3) := by decide +kernel
theorem d_X0_turnOn_38 : decode mX0_turnOn.2.2.1 38 = .ok (.aload_n 0, 1) := by decide +kernel
theorem d_X0_turnOn_39 : decode mX0_turnOn.2.2.1 39 = .ok (.getfield 21, 3) := by decide +kernel
theorem d_X0_turnOn_42 : decode mX0_turnOn.2.2.1 42 = .ok (.iload_n 1, 1) := by decide +kernel
theorem d_X0_turnOn_43 : decode mX0_turnOn.2.2.1 43 = .ok (.iconst 0, 1) := by decide +kernel
theorem d_X0_turnOn_44 : decode mX0_turnOn.2.2.1 44 = .ok (.iastore, 1) := by decide +kernel
theorem d_X0_turnOn_45 : decode mX0_turnOn.2.2.1 45 = .ok (.iinc 1 (-1), 3) := by decide +kernel
theorem d_X0_turnOn_48 : decode mX0_turnOn.2.2.1 48 = .ok (.goto (-41), 3) := by decide +kernel
theorem d_X0_turnOn_26 : decode mX0_turnOn.2.2.1 26 = .ok (.aload_n 0, 1) := by decide +kernel
theorem d_X0_turnOn_27 : decode mX0_turnOn.2.2.1 27 = .ok (.getfield 21, 3) := by decide +kernel
theorem d_X0_turnOn_30 : decode mX0_turnOn.2.2.1 30 = .ok (.iload_n 1, 1) := by decide +kernel
theorem d_X0_turnOn_31 : decode mX0_turnOn.2.2.1 31 = .ok (.dup2, 1) := by decide +kernel
theorem d_X0_turnOn_32 : decode mX0_turnOn.2.2.1 32 = .ok (.iaload, 1) := by decide +kernel
theorem d_X0_turnOn_33 : decode mX0_turnOn.2.2.1 33 = .ok (.iconst 1, 1) := by decide +kernel
theorem d_X0_turnOn_34 : decode mX0_turnOn.2.2.1 34 = .ok (.iadd, 1) := by decide +kernel
theorem d_X0_turnOn_35 : decode mX0_turnOn.2.2.1 35 = .ok (.iastore, 1) := by decide +kernel
theorem d_X0_turnOn_36 : decode mX0_turnOn.2.2.1 36 = .ok (.iconst 1, 1) := by decide +kernel
theorem d_X0_turnOn_37 : decode mX0_turnOn.2.2.1 37 = .ok (.ireturn, 1) := by decide +kernel
theorem ok_X0_turnOn : e_m mX0_turnOn 0 := ⟨tblG_in (inT6 (List.mem_of_getElem? (i := 153) rfl)) rfl, plainFor_of_name (by decide), rfl, ini_0, by decide +kernel, by decide⟩
theorem d_X0_arrange_137 : decode mX0_arrange.2.2.1 137 = .ok (.istore 6, 2) := by decide +kernel
theorem d_X0_arrange_139 : decode mX0_arrange.2.2.1 139 = .ok (.iinc 7 1, 3) := by decide +kernel
theorem d_X0_arrange_142 : decode mX0_arrange.2.2.1 142 = .ok (.goto (-87), 3) := by decide +kernel
theorem d_X0_arrange_145 : decode mX0_arrange.2.2.1 145 = .ok (.iload 4, 2) := by decide +kernel
theorem d_X0_arrange_147 : decode mX0_arrange.2.2.1 147 = .ok (.ireturn, 1) := by decide +kernel
theorem d_X0_arrange_87 : decode mX0_arrange.2.2.1 87 = .ok (.iload 8, 2) := by decide +kernel
theorem d_X0_arrange_89 : decode mX0_arrange.2.2.1 89 = .ok (.iload 4, 2) := by decide +kernel
theorem d_X0_arrange_91 : decode mX0_arrange.2.2.1 91 = .ok (.if_icmp .lt 17, 3) := by decide +kernel
theorem d_X0_arrange_94 : decode mX0_arrange.2.2.1 94 = .ok (.iload 8, 2) := by decide +kernel
theorem d_X0_arrange_96 : decode mX0_arrange.2.2.1 96 = .ok (.iload 4, 2) := by decide +kernel
theorem d_X0_arrange_98 : decode mX0_arrange.2.2.1 98 = .ok (.if_icmp .ne 35, 3) := by decide +kernel
theorem d_X0_arrange_101 : decode mX0_arrange.2.2.1 101 = .ok (.iload 9, 2) := by decide +kernel
theorem d_X0_arrange_103 : decode mX0_arrange.2.2.1 103 = .ok (.iload 5, 2) := by decide +kernel
theorem d_X0_arrange_105 : decode mX0_arrange.2.2.1 105 = .ok (.if_icmp .ge 28, 3) := by decide +kernel
theorem ok_X0_arrange : e_m mX0_arrange 3 := ⟨tblG_in (inT6 (List.mem_of_getElem? (i := 135) rfl)) rfl, plainFor_of_name (by decide), rfl, ini_0, by decide +kernel, by decide⟩
theorem d_X11_together_57 : decode mX11_together.2.2.1 57 = .ok (.ireturn, 1) := by decide +kernel
def mX11_later : MD := (11, yX11_later, cX11_later, 2, some .int)
theorem d_X11_later_0 : decode mX11_later.2.2.1 0 = .ok (.iload_n 1, 1) := by decide +kernel
theorem d_X11_later_1 : decode mX11_later.2.2.1 1 = .ok (.ifCond .lt 14, 3) := by decide +kernel
theorem d_X11_later_15 : decode mX11_later.2.2.1 15 = .ok (.iconst (-1), 1) := by decide +kernel
theorem d_X11_later_16 : decode mX11_later.2.2.1 16 = .ok (.ireturn, 1) := by decide +kernel
theorem d_X11_later_4 : decode mX11_later.2.2.1 4 = .ok (.iload_n 1, 1) := by decide +kernel
theorem d_X11_later_5 : decode mX11_later.2.2.1 5 = .ok (.aload_n 0, 1) := by decide +kernel
theorem d_X11_later_6 : decode mX11_later.2.2.1 6 = .ok (.getfield 77, 3) := by decide +kernel
theorem d_X11_later_9 : decode mX11_later.2.2.1 9 = .ok (.getfield 301, 3) := by decide +kernel
theorem f_11_301 : e_fld 11 301 0 7 8 0 false := ⟨RX0, TX0, 7, rfl, rfl, by decide, rfl, rfl, rfl, iX0, tblG_in (inT3 (List.mem_of_getElem? (i := 19) rfl)) rfl, tyX0_ok, nmX0⟩
theorem d_X11_later_12 : decode mX11_later.2.2.1 12 = .ok (.if_icmp .lt 5, 3) := by decide +kernel
theorem d_X11_later_17 : decode mX11_later.2.2.1 17 = .ok (.aload_n 0, 1) := by decide +kernel
theorem d_X11_later_18 : decode mX11_later.2.2.1 18 = .ok (.getfield 77, 3) := by decide +kernel
theorem d_X11_later_21 : decode mX11_later.2.2.1 21 = .ok (.getfield 304, 3) := by decide +kernel
theorem f_11_304 : e_fld 11 304 0 6 8 2 true := ⟨RX0, TX0, 6, rfl, rfl, by decide, rfl, rfl, rfl, iX0, tblG_in (inT3 (List.mem_of_getElem? (i := 17) rfl)) rfl, tyX0_ok, nmX0⟩
theorem d_X11_later_24 : decode mX11_later.2.2.1 24 = .ok (.iload_n 1, 1) := by decide +kernel
theorem d_X11_later_25 : decode mX11_later.2.2.1 25 = .ok (.iaload, 1) := by decide +kernel
theorem d_X11_later_26 : decode mX11_later.2.2.1 26 = .ok (.ireturn, 1) := by decide +kernel
def mX11_never : MD := (11, yX11_never, cX11_never, 1, some .int)
theorem d_X11_never_0 : decode mX11_never.2.2.1 0 = .ok (.aload_n 0, 1) := by decide +kernel
theorem d_X11_never_1 : decode mX11_never.2.2.1 1 = .ok (.getfield 30, 3) := by decide +kernel
theorem d_X11_never_4 : decode mX11_never.2.2.1 4 = .ok (.getfield 115, 3) := by decide +kernel
theorem d_X11_never_7 : decode mX11_never.2.2.1 7 = .ok (.invokevirtual 307, 3) := by decide +kernel
def mX4_heldAtEnd : MD := (4, yX4_heldAtEnd, cX4_heldAtEnd, 7, some .int)
theorem sel_X4_heldAtEnd : Cond.instanceMethod mX4_heldAtEnd.2.1 ∈ tblG ∧ Cond.selects mX4_heldAtEnd.2.1.cls mX4_heldAtEnd.2.1 mX4_heldAtEnd.2.1 ∈ tblG := ⟨tblG_in (inT6 (List.mem_of_getElem? (i := 163) rfl)) rfl, tblG_in (inT6 (List.mem_of_getElem? (i := 164) rfl)) rfl⟩
theorem s_11_307 : e_siteV 11 307 mX4_heldAtEnd 4 := ⟨tblG_in (inT6 (List.mem_of_getElem? (i := 162) rfl)) rfl, sel_X4_heldAtEnd.1, sel_X4_heldAtEnd.2, rfl⟩
theorem d_X4_heldAtEnd_0 : decode mX4_heldAtEnd.2.2.1 0 = .ok (.aload_n 0, 1) := by decide +kernel
theorem d_X4_heldAtEnd_1 : decode mX4_heldAtEnd.2.2.1 1 = .ok (.getfield 42, 3) := by decide +kernel
theorem d_X4_heldAtEnd_4 : decode mX4_heldAtEnd.2.2.1 4 = .ok (.iconst 0, 1) := by decide +kernel
theorem d_X4_heldAtEnd_5 : decode mX4_heldAtEnd.2.2.1 5 = .ok (.invokestatic 58, 3) := by decide +kernel
theorem s_4_58 : e_siteS 4 58 mJ7_fill_53178 := ⟨tblG_in (inT6 (List.mem_of_getElem? (i := 166) rfl)) rfl, tblG_in (inT3 (List.mem_of_getElem? (i := 42) rfl)) rfl⟩
theorem d_X4_heldAtEnd_8 : decode mX4_heldAtEnd.2.2.1 8 = .ok (.iconst 1, 1) := by decide +kernel
theorem d_X4_heldAtEnd_9 : decode mX4_heldAtEnd.2.2.1 9 = .ok (.istore_n 1, 1) := by decide +kernel
theorem d_X4_heldAtEnd_10 : decode mX4_heldAtEnd.2.2.1 10 = .ok (.iconst 0, 1) := by decide +kernel
theorem d_X4_heldAtEnd_11 : decode mX4_heldAtEnd.2.2.1 11 = .ok (.istore_n 2, 1) := by decide +kernel
theorem d_X4_heldAtEnd_12 : decode mX4_heldAtEnd.2.2.1 12 = .ok (.iload_n 2, 1) := by decide +kernel
theorem d_X4_heldAtEnd_13 : decode mX4_heldAtEnd.2.2.1 13 = .ok (.sipush 366, 3) := by decide +kernel
theorem d_X4_heldAtEnd_16 : decode mX4_heldAtEnd.2.2.1 16 = .ok (.if_icmp .gt 86, 3) := by decide +kernel
theorem d_X4_heldAtEnd_19 : decode mX4_heldAtEnd.2.2.1 19 = .ok (.iload_n 1, 1) := by decide +kernel
theorem d_X4_heldAtEnd_20 : decode mX4_heldAtEnd.2.2.1 20 = .ok (.ifCond .eq 82, 3) := by decide +kernel
theorem d_X4_heldAtEnd_23 : decode mX4_heldAtEnd.2.2.1 23 = .ok (.iconst 0, 1) := by decide +kernel
theorem d_X4_heldAtEnd_24 : decode mX4_heldAtEnd.2.2.1 24 = .ok (.istore_n 1, 1) := by decide +kernel
theorem d_X4_heldAtEnd_25 : decode mX4_heldAtEnd.2.2.1 25 = .ok (.iconst 0, 1) := by decide +kernel
theorem d_X4_heldAtEnd_26 : decode mX4_heldAtEnd.2.2.1 26 = .ok (.istore_n 3, 1) := by decide +kernel
theorem d_X4_heldAtEnd_27 : decode mX4_heldAtEnd.2.2.1 27 = .ok (.iload_n 3, 1) := by decide +kernel
theorem d_X4_heldAtEnd_28 : decode mX4_heldAtEnd.2.2.1 28 = .ok (.aload_n 0, 1) := by decide +kernel
theorem d_X4_heldAtEnd_29 : decode mX4_heldAtEnd.2.2.1 29 = .ok (.getfield 45, 3) := by decide +kernel
theorem d_X4_heldAtEnd_32 : decode mX4_heldAtEnd.2.2.1 32 = .ok (.if_icmp .ge 64, 3) := by decide +kernel
theorem d_X4_heldAtEnd_96 : decode mX4_heldAtEnd.2.2.1 96 = .ok (.iinc 2 1, 3) := by decide +kernel
theorem d_X4_heldAtEnd_99 : decode mX4_heldAtEnd.2.2.1 99 = .ok (.goto (-87), 3) := by decide +kernel
theorem d_X4_heldAtEnd_35 : decode mX4_heldAtEnd.2.2.1 35 = .ok (.aload_n 0, 1) := by decide +kernel
theorem d_X4_heldAtEnd_36 : decode mX4_heldAtEnd.2.2.1 36 = .ok (.iload_n 3, 1) := by decide +kernel
theorem d_X4_heldAtEnd_37 : decode mX4_heldAtEnd.2.2.1 37 = .ok (.invokevirtual 64, 3) := by decide +kernel
def mX4_heldBehind : MD := (4, yX4_heldBehind, cX4_heldBehind, 3, some .int)
theorem sel_X4_heldBehind : Cond.instanceMethod mX4_heldBehind.2.1 ∈ tblG ∧ Cond.selects mX4_heldBehind.2.1.cls mX4_heldBehind.2.1 mX4_heldBehind.2.1 ∈ tblG := ⟨tblG_in (inT6 (List.mem_of_getElem? (i := 169) rfl)) rfl, tblG_in (inP5 (q := (mX4_heldBehind.2.1, 13)) (List.mem_of_getElem? (i := 6) rfl)) rfl⟩
theorem s_4_64 : e_siteV 4 64 mX4_heldBehind 4 := ⟨tblG_in (inT6 (List.mem_of_getElem? (i := 167) rfl)) rfl, sel_X4_heldBehind.1, sel_X4_heldBehind.2, rfl⟩
theorem d_X4_heldBehind_0 : decode mX4_heldBehind.2.2.1 0 = .ok (.iconst 1, 1) := by decide +kernel
theorem d_X4_heldBehind_1 : decode mX4_heldBehind.2.2.1 1 = .ok (.aload_n 0, 1) := by decide +kernel
theorem d_X4_heldBehind_2 : decode mX4_heldBehind.2.2.1 2 = .ok (.getfield 15, 3) := by decide +kernel
theorem d_X4_heldBehind_5 : decode mX4_heldBehind.2.2.1 5 = .ok (.iload_n 1, 1) := by decide +kernel
theorem d_X4_heldBehind_6 : decode mX4_heldBehind.2.2.1 6 = .ok (.iaload, 1) := by decide +kernel
theorem d_X4_heldBehind_7 : decode mX4_heldBehind.2.2.1 7 = .ok (.ishl, 1) := by decide +kernel
theorem d_X4_heldBehind_8 : decode mX4_heldBehind.2.2.1 8 = .ok (.istore_n 2, 1) := by decide +kernel
theorem d_X4_heldBehind_9 : decode mX4_heldBehind.2.2.1 9 = .ok (.aload_n 0, 1) := by decide +kernel
theorem d_X4_heldBehind_10 : decode mX4_heldBehind.2.2.1 10 = .ok (.getfield 9, 3) := by decide +kernel
theorem d_X4_heldBehind_13 : decode mX4_heldBehind.2.2.1 13 = .ok (.iload_n 1, 1) := by decide +kernel
theorem d_X4_heldBehind_14 : decode mX4_heldBehind.2.2.1 14 = .ok (.iaload, 1) := by decide +kernel
theorem d_X4_heldBehind_15 : decode mX4_heldBehind.2.2.1 15 = .ok (.bipush 7, 2) := by decide +kernel
theorem d_X4_heldBehind_17 : decode mX4_heldBehind.2.2.1 17 = .ok (.if_icmp .ne 12, 3) := by decide +kernel
theorem d_X4_heldBehind_29 : decode mX4_heldBehind.2.2.1 29 = .ok (.aload_n 0, 1) := by decide +kernel
theorem d_X4_heldBehind_30 : decode mX4_heldBehind.2.2.1 30 = .ok (.getfield 9, 3) := by decide +kernel
theorem d_X4_heldBehind_33 : decode mX4_heldBehind.2.2.1 33 = .ok (.iload_n 1, 1) := by decide +kernel
theorem d_X4_heldBehind_34 : decode mX4_heldBehind.2.2.1 34 = .ok (.iaload, 1) := by decide +kernel
theorem d_X4_heldBehind_35 : decode mX4_heldBehind.2.2.1 35 = .ok (.bipush 8, 2) := by decide +kernel
theorem d_X4_heldBehind_37 : decode mX4_heldBehind.2.2.1 37 = .ok (.if_icmp .ne 16, 3) := by decide +kernel
theorem d_X4_heldBehind_53 : decode mX4_heldBehind.2.2.1 53 = .ok (.aload_n 0, 1) := by decide +kernel
theorem d_X4_heldBehind_54 : decode mX4_heldBehind.2.2.1 54 = .ok (.getfield 42, 3) := by decide +kernel
theorem d_X4_heldBehind_57 : decode mX4_heldBehind.2.2.1 57 = .ok (.iload_n 1, 1) := by decide +kernel
theorem d_X4_heldBehind_58 : decode mX4_heldBehind.2.2.1 58 = .ok (.iaload, 1) := by decide +kernel
theorem d_X4_heldBehind_59 : decode mX4_heldBehind.2.2.1 59 = .ok (.ireturn, 1) := by decide +kernel
theorem d_X4_heldBehind_40 : decode mX4_heldBehind.2.2.1 40 = .ok (.aload_n 0, 1) := by decide +kernel
theorem d_X4_heldBehind_41 : decode mX4_heldBehind.2.2.1 41 = .ok (.getfield 42, 3) := by decide +kernel
theorem d_X4_heldBehind_44 : decode mX4_heldBehind.2.2.1 44 = .ok (.iload_n 1, 1) := by decide +kernel
theorem d_X4_heldBehind_45 : decode mX4_heldBehind.2.2.1 45 = .ok (.iaload, 1) := by decide +kernel
theorem d_X4_heldBehind_46 : decode mX4_heldBehind.2.2.1 46 = .ok (.iload_n 2, 1) := by decide +kernel
theorem d_X4_heldBehind_47 : decode mX4_heldBehind.2.2.1 47 = .ok (.iconst (-1), 1) := by decide +kernel
theorem d_X4_heldBehind_48 : decode mX4_heldBehind.2.2.1 48 = .ok (.ixor, 1) := by decide +kernel
theorem d_X4_heldBehind_49 : decode mX4_heldBehind.2.2.1 49 = .ok (.iand, 1) := by decide +kernel
theorem d_X4_heldBehind_50 : decode mX4_heldBehind.2.2.1 50 = .ok (.goto 9, 3) := by decide +kernel
theorem d_X4_heldBehind_20 : decode mX4_heldBehind.2.2.1 20 = .ok (.aload_n 0, 1) := by decide +kernel
theorem d_X4_heldBehind_21 : decode mX4_heldBehind.2.2.1 21 = .ok (.getfield 42, 3) := by decide +kernel
theorem d_X4_heldBehind_24 : decode mX4_heldBehind.2.2.1 24 = .ok (.iload_n 1, 1) := by decide +kernel
theorem d_X4_heldBehind_25 : decode mX4_heldBehind.2.2.1 25 = .ok (.iaload, 1) := by decide +kernel
theorem d_X4_heldBehind_26 : decode mX4_heldBehind.2.2.1 26 = .ok (.iload_n 2, 1) := by decide +kernel
theorem d_X4_heldBehind_27 : decode mX4_heldBehind.2.2.1 27 = .ok (.ior, 1) := by decide +kernel
theorem d_X4_heldBehind_28 : decode mX4_heldBehind.2.2.1 28 = .ok (.ireturn, 1) := by decide +kernel
theorem ok_X4_heldBehind : e_m mX4_heldBehind 1 := ⟨tblG_in (inT6 (List.mem_of_getElem? (i := 170) rfl)) rfl, plainFor_of_name (by decide), rfl, ini_4, by decide +kernel, by decide⟩
theorem d_X4_heldAtEnd_40 : decode mX4_heldAtEnd.2.2.1 40 = .ok (.istore 4, 2) := by decide +kernel
theorem d_X4_heldAtEnd_42 : decode mX4_heldAtEnd.2.2.1 42 = .ok (.aload_n 0, 1) := by decide +kernel
theorem d_X4_heldAtEnd_43 : decode mX4_heldAtEnd.2.2.1 43 = .ok (.aload_n 0, 1) := by decide +kernel
theorem d_X4_heldAtEnd_44 : decode mX4_heldAtEnd.2.2.1 44 = .ok (.getfield 21, 3) := by decide +kernel
theorem d_X4_heldAtEnd_47 : decode mX4_heldAtEnd.2.2.1 47 = .ok (.iload_n 3, 1) := by decide +kernel
theorem d_X4_heldAtEnd_48 : decode mX4_heldAtEnd.2.2.1 48 = .ok (.iaload, 1) := by decide +kernel
theorem d_X4_heldAtEnd_49 : decode mX4_heldAtEnd.2.2.1 49 = .ok (.iload 4, 2) := by decide +kernel
theorem d_X4_heldAtEnd_51 : decode mX4_heldAtEnd.2.2.1 51 = .ok (.invokevirtual 67, 3) := by decide +kernel
def mX4_spread : MD := (4, yX4_spread, cX4_spread, 3, some .boolean)
theorem sel_X4_spread : Cond.instanceMethod mX4_spread.2.1 ∈ tblG ∧ Cond.selects mX4_spread.2.1.cls mX4_spread.2.1 mX4_spread.2.1 ∈ tblG := ⟨tblG_in (inT6 (List.mem_of_getElem? (i := 173) rfl)) rfl, tblG_in (inP5 (q := (mX4_spread.2.1, 13)) (List.mem_of_getElem? (i := 7) rfl)) rfl⟩
theorem s_4_67 : e_siteV 4 67 mX4_spread 4 := ⟨tblG_in (inT6 (List.mem_of_getElem? (i := 171) rfl)) rfl, sel_X4_spread.1, sel_X4_spread.2, rfl⟩
theorem d_X4_spread_0 : decode mX4_spread.2.2.1 0 = .ok (.iload_n 1, 1) := by decide +kernel
theorem d_X4_spread_1 : decode mX4_spread.2.2.1 1 = .ok (.ifCond .lt 28, 3) := by decide +kernel
theorem d_X4_spread_29 : decode mX4_spread.2.2.1 29 = .ok (.iconst 0, 1) := by decide +kernel
theorem d_X4_spread_30 : decode mX4_spread.2.2.1 30 = .ok (.ireturn, 1) := by decide +kernel
theorem d_X4_spread_4 : decode mX4_spread.2.2.1 4 = .ok (.iload_n 1, 1) := by decide +kernel
theorem d_X4_spread_5 : decode mX4_spread.2.2.1 5 = .ok (.aload_n 0, 1) := by decide +kernel
theorem d_X4_spread_6 : decode mX4_spread.2.2.1 6 = .ok (.getfield 45, 3) := by decide +kernel
theorem d_X4_spread_9 : decode mX4_spread.2.2.1 9 = .ok (.if_icmp .gt 20, 3) := by decide +kernel
theorem d_X4_spread_12 : decode mX4_spread.2.2.1 12 = .ok (.aload_n 0, 1) := by decide +kernel
theorem d_X4_spread_13 : decode mX4_spread.2.2.1 13 = .ok (.getfield 42, 3) := by decide +kernel
theorem d_X4_spread_16 : decode mX4_spread.2.2.1 16 = .ok (.iload_n 1, 1) := by decide +kernel
theorem d_X4_spread_17 : decode mX4_spread.2.2.1 17 = .ok (.iaload, 1) := by decide +kernel
theorem d_X4_spread_18 : decode mX4_spread.2.2.1 18 = .ok (.iload_n 2, 1) := by decide +kernel
theorem d_X4_spread_19 : decode mX4_spread.2.2.1 19 = .ok (.ior, 1) := by decide +kernel
theorem d_X4_spread_20 : decode mX4_spread.2.2.1 20 = .ok (.aload_n 0, 1) := by decide +kernel
theorem d_X4_spread_21 : decode mX4_spread.2.2.1 21 = .ok (.getfield 42, 3) := by decide +kernel
theorem d_X4_spread_24 : decode mX4_spread.2.2.1 24 = .ok (.iload_n 1, 1) := by decide +kernel
theorem d_X4_spread_25 : decode mX4_spread.2.2.1 25 = .ok (.iaload, 1) := by decide +kernel
theorem d_X4_spread_26 : decode mX4_spread.2.2.1 26 = .ok (.if_icmp .ne 5, 3) := by decide +kernel
theorem d_X4_spread_31 : decode mX4_spread.2.2.1 31 = .ok (.aload_n 0, 1) := by decide +kernel
theorem d_X4_spread_32 : decode mX4_spread.2.2.1 32 = .ok (.getfield 42, 3) := by decide +kernel
theorem d_X4_spread_35 : decode mX4_spread.2.2.1 35 = .ok (.iload_n 1, 1) := by decide +kernel
theorem d_X4_spread_36 : decode mX4_spread.2.2.1 36 = .ok (.dup2, 1) := by decide +kernel
theorem d_X4_spread_37 : decode mX4_spread.2.2.1 37 = .ok (.iaload, 1) := by decide +kernel
theorem d_X4_spread_38 : decode mX4_spread.2.2.1 38 = .ok (.iload_n 2, 1) := by decide +kernel
theorem d_X4_spread_39 : decode mX4_spread.2.2.1 39 = .ok (.ior, 1) := by decide +kernel
theorem d_X4_spread_40 : decode mX4_spread.2.2.1 40 = .ok (.iastore, 1) := by decide +kernel
theorem d_X4_spread_41 : decode mX4_spread.2.2.1 41 = .ok (.iconst 1, 1) := by decide +kernel
theorem d_X4_spread_42 : decode mX4_spread.2.2.1 42 = .ok (.ireturn, 1) := by decide +kernel
theorem ok_X4_spread : e_m mX4_spread 2 := ⟨tblG_in (inT6 (List.mem_of_getElem? (i := 174) rfl)) rfl, plainFor_of_name (by decide), rfl, ini_4, by decide +kernel, by decide⟩
theorem d_X4_heldAtEnd_54 : decode mX4_heldAtEnd.2.2.1 54 = .ok (.istore 5, 2) := by decide +kernel
theorem d_X4_heldAtEnd_56 : decode mX4_heldAtEnd.2.2.1 56 = .ok (.aload_n 0, 1) := by decide +kernel
theorem d_X4_heldAtEnd_57 : decode mX4_heldAtEnd.2.2.1 57 = .ok (.aload_n 0, 1) := by decide +kernel
theorem d_X4_heldAtEnd_58 : decode mX4_heldAtEnd.2.2.1 58 = .ok (.getfield 24, 3) := by decide +kernel
theorem d_X4_heldAtEnd_61 : decode mX4_heldAtEnd.2.2.1 61 = .ok (.iload_n 3, 1) := by decide +kernel
theorem d_X4_heldAtEnd_62 : decode mX4_heldAtEnd.2.2.1 62 = .ok (.iaload, 1) := by decide +kernel
theorem d_X4_heldAtEnd_63 : decode mX4_heldAtEnd.2.2.1 63 = .ok (.iload 4, 2) := by decide +kernel
theorem d_X4_heldAtEnd_65 : decode mX4_heldAtEnd.2.2.1 65 = .ok (.invokevirtual 67, 3) := by decide +kernel
theorem d_X4_heldAtEnd_68 : decode mX4_heldAtEnd.2.2.1 68 = .ok (.istore 6, 2) := by decide +kernel
theorem d_X4_heldAtEnd_70 : decode mX4_heldAtEnd.2.2.1 70 = .ok (.iload_n 1, 1) := by decide +kernel
theorem d_X4_heldAtEnd_71 : decode mX4_heldAtEnd.2.2.1 71 = .ok (.ifCond .ne 13, 3) := by decide +kernel
theorem d_X4_heldAtEnd_74 : decode mX4_heldAtEnd.2.2.1 74 = .ok (.iload 5, 2) := by decide +kernel
theorem d_X4_heldAtEnd_76 : decode mX4_heldAtEnd.2.2.1 76 = .ok (.ifCond .ne 8, 3) := by decide +kernel
theorem d_X4_heldAtEnd_79 : decode mX4_heldAtEnd.2.2.1 79 = .ok (.iload 6, 2) := by decide +kernel
theorem d_X4_heldAtEnd_81 : decode mX4_heldAtEnd.2.2.1 81 = .ok (.ifCond .eq 7, 3) := by decide +kernel
theorem d_X4_heldAtEnd_88 : decode mX4_heldAtEnd.2.2.1 88 = .ok (.iconst 0, 1) := by decide +kernel
theorem d_X4_heldAtEnd_102 : decode mX4_heldAtEnd.2.2.1 102 = .ok (.aload_n 0, 1) := by decide +kernel
theorem d_X4_heldAtEnd_103 : decode mX4_heldAtEnd.2.2.1 103 = .ok (.getfield 42, 3) := by decide +kernel
theorem d_X4_heldAtEnd_106 : decode mX4_heldAtEnd.2.2.1 106 = .ok (.aload_n 0, 1) := by decide +kernel
theorem d_X4_heldAtEnd_107 : decode mX4_heldAtEnd.2.2.1 107 = .ok (.getfield 45, 3) := by decide +kernel
theorem d_X4_heldAtEnd_110 : decode mX4_heldAtEnd.2.2.1 110 = .ok (.iaload, 1) := by decide +kernel
theorem d_X4_heldAtEnd_111 : decode mX4_heldAtEnd.2.2.1 111 = .ok (.ireturn, 1) := by decide +kernel
theorem d_X4_heldAtEnd_84 : decode mX4_heldAtEnd.2.2.1 84 = .ok (.iconst 1, 1) := by decide +kernel
theorem d_X4_heldAtEnd_85 : decode mX4_heldAtEnd.2.2.1 85 = .ok (.goto 4, 3) := by decide +kernel
theorem d_X4_heldAtEnd_89 : decode mX4_heldAtEnd.2.2.1 89 = .ok (.istore_n 1, 1) := by decide +kernel
theorem d_X4_heldAtEnd_90 : decode mX4_heldAtEnd.2.2.1 90 = .ok (.iinc 3 1, 3) := by decide +kernel
theorem d_X4_heldAtEnd_93 : decode mX4_heldAtEnd.2.2.1 93 = .ok (.goto (-66), 3) := by decide +kernel
theorem ok_X4_heldAtEnd : e_m mX4_heldAtEnd 0 := ⟨tblG_in (inT6 (List.mem_of_getElem? (i := 165) rfl)) rfl, plainFor_of_name (by decide), rfl, ini_4, by decide +kernel, by decide⟩
theorem d_X11_never_10 : decode mX11_never.2.2.1 10 = .ok (.ireturn, 1) := by decide +kernel
def mX11_lasts : MD := (11, yX11_lasts, cX11_lasts, 6, some .int)
theorem d_X11_lasts_0 : decode mX11_lasts.2.2.1 0 = .ok (.aload_n 0, 1) := by decide +kernel
theorem d_X11_lasts_1 : decode mX11_lasts.2.2.1 1 = .ok (.getfield 109, 3) := by decide +kernel
theorem d_X11_lasts_4 : decode mX11_lasts.2.2.1 4 = .ok (.ifCond .eq 14, 3) := by decide +kernel
theorem d_X11_lasts_18 : decode mX11_lasts.2.2.1 18 = .ok (.iconst (-1), 1) := by decide +kernel
theorem d_X11_lasts_19 : decode mX11_lasts.2.2.1 19 = .ok (.ireturn, 1) := by decide +kernel
theorem d_X11_lasts_7 : decode mX11_lasts.2.2.1 7 = .ok (.iload_n 1, 1) := by decide +kernel
theorem d_X11_lasts_8 : decode mX11_lasts.2.2.1 8 = .ok (.ifCond .lt 10, 3) := by decide +kernel
theorem d_X11_lasts_11 : decode mX11_lasts.2.2.1 11 = .ok (.iload_n 1, 1) := by decide +kernel
theorem d_X11_lasts_12 : decode mX11_lasts.2.2.1 12 = .ok (.ldc_w 310, 3) := by decide +kernel
theorem k_11_310 : Jvm.Cond.constant (e_cn 11) 310 (Int32.ofInt 1000000000) ∈ tblG := tblG_in (inT6 (List.mem_of_getElem? (i := 179) rfl)) rfl
theorem d_X11_lasts_15 : decode mX11_lasts.2.2.1 15 = .ok (.if_icmp .le 5, 3) := by decide +kernel
theorem d_X11_lasts_20 : decode mX11_lasts.2.2.1 20 = .ok (.iload_n 2, 1) := by decide +kernel
theorem d_X11_lasts_21 : decode mX11_lasts.2.2.1 21 = .ok (.ifCond .lt 21, 3) := by decide +kernel
theorem d_X11_lasts_42 : decode mX11_lasts.2.2.1 42 = .ok (.iconst (-1), 1) := by decide +kernel
theorem d_X11_lasts_43 : decode mX11_lasts.2.2.1 43 = .ok (.ireturn, 1) := by decide +kernel
theorem d_X11_lasts_24 : decode mX11_lasts.2.2.1 24 = .ok (.iload_n 2, 1) := by decide +kernel
theorem d_X11_lasts_25 : decode mX11_lasts.2.2.1 25 = .ok (.sipush 1000, 3) := by decide +kernel
