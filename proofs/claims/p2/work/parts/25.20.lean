theorem d_X5_takeOpening_1 : decode mX5_takeOpening.2.2.1 1 = .ok (.iload_n 1, 1) := by decide +kernel
theorem d_X5_takeOpening_2 : decode mX5_takeOpening.2.2.1 2 = .ok (.invokevirtual 77, 3) := by decide +kernel
theorem d_X5_takeOpening_5 : decode mX5_takeOpening.2.2.1 5 = .ok (.ifCond .ne 9, 3) := by decide +kernel
theorem d_X5_takeOpening_14 : decode mX5_takeOpening.2.2.1 14 = .ok (.aload_n 0, 1) := by decide +kernel
theorem d_X5_takeOpening_15 : decode mX5_takeOpening.2.2.1 15 = .ok (.getfield 39, 3) := by decide +kernel
theorem d_X5_takeOpening_18 : decode mX5_takeOpening.2.2.1 18 = .ok (.bipush 8, 2) := by decide +kernel
theorem d_X5_takeOpening_20 : decode mX5_takeOpening.2.2.1 20 = .ok (.if_icmp .ne 9, 3) := by decide +kernel
theorem d_X5_takeOpening_29 : decode mX5_takeOpening.2.2.1 29 = .ok (.aload_n 0, 1) := by decide +kernel
theorem d_X5_takeOpening_30 : decode mX5_takeOpening.2.2.1 30 = .ok (.dup, 1) := by decide +kernel
theorem d_X5_takeOpening_31 : decode mX5_takeOpening.2.2.1 31 = .ok (.getfield 39, 3) := by decide +kernel
theorem d_X5_takeOpening_34 : decode mX5_takeOpening.2.2.1 34 = .ok (.iconst 1, 1) := by decide +kernel
theorem d_X5_takeOpening_35 : decode mX5_takeOpening.2.2.1 35 = .ok (.iadd, 1) := by decide +kernel
theorem d_X5_takeOpening_36 : decode mX5_takeOpening.2.2.1 36 = .ok (.putfield 39, 3) := by decide +kernel
theorem d_X5_takeOpening_39 : decode mX5_takeOpening.2.2.1 39 = .ok (.aload_n 0, 1) := by decide +kernel
theorem d_X5_takeOpening_40 : decode mX5_takeOpening.2.2.1 40 = .ok (.invokevirtual 74, 3) := by decide +kernel
theorem d_X5_takeOpening_43 : decode mX5_takeOpening.2.2.1 43 = .ok (.ireturn, 1) := by decide +kernel
theorem d_X5_takeOpening_23 : decode mX5_takeOpening.2.2.1 23 = .ok (.aload_n 0, 1) := by decide +kernel
theorem d_X5_takeOpening_24 : decode mX5_takeOpening.2.2.1 24 = .ok (.iconst 5, 1) := by decide +kernel
theorem d_X5_takeOpening_25 : decode mX5_takeOpening.2.2.1 25 = .ok (.invokevirtual 56, 3) := by decide +kernel
theorem d_X5_takeOpening_28 : decode mX5_takeOpening.2.2.1 28 = .ok (.ireturn, 1) := by decide +kernel
theorem d_X5_takeOpening_8 : decode mX5_takeOpening.2.2.1 8 = .ok (.aload_n 0, 1) := by decide +kernel
theorem d_X5_takeOpening_9 : decode mX5_takeOpening.2.2.1 9 = .ok (.iconst 1, 1) := by decide +kernel
theorem d_X5_takeOpening_10 : decode mX5_takeOpening.2.2.1 10 = .ok (.invokevirtual 56, 3) := by decide +kernel
theorem d_X5_takeOpening_13 : decode mX5_takeOpening.2.2.1 13 = .ok (.ireturn, 1) := by decide +kernel
theorem ok_X5_takeOpening : e_m mX5_takeOpening 1 := ⟨tblG_in (inT4 (List.mem_of_getElem? (i := 146) rfl)) rfl, plainFor_of_name (by decide), rfl, ini_5, by decide +kernel, by decide⟩
theorem d_X5_piece_80 : decode mX5_piece.2.2.1 80 = .ok (.ifCond .eq 23, 3) := by decide +kernel
theorem d_X5_piece_103 : decode mX5_piece.2.2.1 103 = .ok (.iconst 0, 1) := by decide +kernel
theorem d_X5_piece_104 : decode mX5_piece.2.2.1 104 = .ok (.ireturn, 1) := by decide +kernel
theorem d_X5_piece_83 : decode mX5_piece.2.2.1 83 = .ok (.aload_n 0, 1) := by decide +kernel
theorem d_X5_piece_84 : decode mX5_piece.2.2.1 84 = .ok (.invokevirtual 174, 3) := by decide +kernel
