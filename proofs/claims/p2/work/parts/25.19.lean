theorem d_X4_behind_15 : decode mX4_behind.2.2.1 15 = .ok (.ireturn, 1) := by decide +kernel
theorem ok_X4_behind : e_m mX4_behind 1 := ⟨tblG_in (inT4 (List.mem_of_getElem? (i := 190) rfl)) rfl, plainFor_of_name (by decide), rfl, ini_4, by decide +kernel, by decide⟩
theorem d_X4_link_33 : decode mX4_link.2.2.1 33 = .ok (.iastore, 1) := by decide +kernel
theorem d_X4_link_34 : decode mX4_link.2.2.1 34 = .ok (.aload_n 0, 1) := by decide +kernel
theorem d_X4_link_35 : decode mX4_link.2.2.1 35 = .ok (.getfield 9, 3) := by decide +kernel
theorem d_X4_link_38 : decode mX4_link.2.2.1 38 = .ok (.iload_n 1, 1) := by decide +kernel
theorem d_X4_link_39 : decode mX4_link.2.2.1 39 = .ok (.iaload, 1) := by decide +kernel
theorem d_X4_link_40 : decode mX4_link.2.2.1 40 = .ok (.bipush 12, 2) := by decide +kernel
theorem d_X4_link_42 : decode mX4_link.2.2.1 42 = .ok (.if_icmp .ne 7, 3) := by decide +kernel
theorem d_X4_link_49 : decode mX4_link.2.2.1 49 = .ok (.iconst 0, 1) := by decide +kernel
theorem d_X4_link_45 : decode mX4_link.2.2.1 45 = .ok (.iconst 1, 1) := by decide +kernel
theorem d_X4_link_46 : decode mX4_link.2.2.1 46 = .ok (.goto 4, 3) := by decide +kernel
theorem d_X4_link_50 : decode mX4_link.2.2.1 50 = .ok (.istore_n 2, 1) := by decide +kernel
theorem d_X4_link_51 : decode mX4_link.2.2.1 51 = .ok (.aload_n 0, 1) := by decide +kernel
theorem d_X4_link_52 : decode mX4_link.2.2.1 52 = .ok (.getfield 21, 3) := by decide +kernel
theorem d_X4_link_55 : decode mX4_link.2.2.1 55 = .ok (.iload_n 1, 1) := by decide +kernel
theorem d_X4_link_56 : decode mX4_link.2.2.1 56 = .ok (.iaload, 1) := by decide +kernel
theorem d_X4_link_57 : decode mX4_link.2.2.1 57 = .ok (.ifCond .ge 23, 3) := by decide +kernel
theorem d_X4_link_60 : decode mX4_link.2.2.1 60 = .ok (.aload_n 0, 1) := by decide +kernel
theorem d_X4_link_61 : decode mX4_link.2.2.1 61 = .ok (.getfield 21, 3) := by decide +kernel
theorem d_X4_link_64 : decode mX4_link.2.2.1 64 = .ok (.iload_n 1, 1) := by decide +kernel
theorem d_X4_link_65 : decode mX4_link.2.2.1 65 = .ok (.iload_n 2, 1) := by decide +kernel
theorem d_X4_link_66 : decode mX4_link.2.2.1 66 = .ok (.ifCond .eq 7, 3) := by decide +kernel
theorem d_X4_link_73 : decode mX4_link.2.2.1 73 = .ok (.aload_n 0, 1) := by decide +kernel
theorem d_X4_link_74 : decode mX4_link.2.2.1 74 = .ok (.getfield 33, 3) := by decide +kernel
theorem d_X4_link_77 : decode mX4_link.2.2.1 77 = .ok (.iload_n 1, 1) := by decide +kernel
theorem d_X4_link_78 : decode mX4_link.2.2.1 78 = .ok (.iaload, 1) := by decide +kernel
theorem d_X4_link_69 : decode mX4_link.2.2.1 69 = .ok (.iload_n 1, 1) := by decide +kernel
theorem d_X4_link_70 : decode mX4_link.2.2.1 70 = .ok (.goto 9, 3) := by decide +kernel
theorem d_X4_link_79 : decode mX4_link.2.2.1 79 = .ok (.iastore, 1) := by decide +kernel
theorem d_X4_link_80 : decode mX4_link.2.2.1 80 = .ok (.aload_n 0, 1) := by decide +kernel
theorem d_X4_link_81 : decode mX4_link.2.2.1 81 = .ok (.getfield 24, 3) := by decide +kernel
theorem d_X4_link_84 : decode mX4_link.2.2.1 84 = .ok (.iload_n 1, 1) := by decide +kernel
theorem d_X4_link_85 : decode mX4_link.2.2.1 85 = .ok (.iaload, 1) := by decide +kernel
theorem d_X4_link_86 : decode mX4_link.2.2.1 86 = .ok (.ifCond .ge 15, 3) := by decide +kernel
theorem d_X4_link_89 : decode mX4_link.2.2.1 89 = .ok (.aload_n 0, 1) := by decide +kernel
theorem d_X4_link_90 : decode mX4_link.2.2.1 90 = .ok (.getfield 24, 3) := by decide +kernel
theorem d_X4_link_93 : decode mX4_link.2.2.1 93 = .ok (.iload_n 1, 1) := by decide +kernel
theorem d_X4_link_94 : decode mX4_link.2.2.1 94 = .ok (.aload_n 0, 1) := by decide +kernel
theorem d_X4_link_95 : decode mX4_link.2.2.1 95 = .ok (.getfield 33, 3) := by decide +kernel
theorem d_X4_link_98 : decode mX4_link.2.2.1 98 = .ok (.iload_n 1, 1) := by decide +kernel
theorem d_X4_link_99 : decode mX4_link.2.2.1 99 = .ok (.iaload, 1) := by decide +kernel
theorem d_X4_link_100 : decode mX4_link.2.2.1 100 = .ok (.iastore, 1) := by decide +kernel
theorem d_X4_link_101 : decode mX4_link.2.2.1 101 = .ok (.iinc 1 1, 3) := by decide +kernel
theorem d_X4_link_104 : decode mX4_link.2.2.1 104 = .ok (.goto (-89), 3) := by decide +kernel
def mX10_clear : MD := (10, yX10_clear, cX10_clear, 1, none)
theorem d_X10_clear_0 : decode mX10_clear.2.2.1 0 = .ok (.aload_n 0, 1) := by decide +kernel
theorem d_X10_clear_1 : decode mX10_clear.2.2.1 1 = .ok (.iconst 0, 1) := by decide +kernel
theorem d_X10_clear_2 : decode mX10_clear.2.2.1 2 = .ok (.putfield 21, 3) := by decide +kernel
theorem d_X10_clear_5 : decode mX10_clear.2.2.1 5 = .ok (.return_, 1) := by decide +kernel
def mX2_clear : MD := (2, yX2_clear, cX2_clear, 1, none)
theorem d_X2_clear_0 : decode mX2_clear.2.2.1 0 = .ok (.aload_n 0, 1) := by decide +kernel
theorem d_X2_clear_1 : decode mX2_clear.2.2.1 1 = .ok (.iconst 0, 1) := by decide +kernel
theorem d_X2_clear_2 : decode mX2_clear.2.2.1 2 = .ok (.putfield 27, 3) := by decide +kernel
theorem d_X2_clear_5 : decode mX2_clear.2.2.1 5 = .ok (.aload_n 0, 1) := by decide +kernel
theorem d_X2_clear_6 : decode mX2_clear.2.2.1 6 = .ok (.iconst 0, 1) := by decide +kernel
theorem d_X2_clear_7 : decode mX2_clear.2.2.1 7 = .ok (.putfield 31, 3) := by decide +kernel
theorem d_X2_clear_10 : decode mX2_clear.2.2.1 10 = .ok (.return_, 1) := by decide +kernel
