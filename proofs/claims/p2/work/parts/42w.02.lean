theorem d_X9_share_145 : decode mX9_share.2.2.1 145 = .ok (.goto 9, 3) := by decide +kernel
theorem d_X9_share_135 : decode mX9_share.2.2.1 135 = .ok (.ldc2_w 98, 3) := by decide +kernel
theorem d_X9_share_138 : decode mX9_share.2.2.1 138 = .ok (.lreturn, 1) := by decide +kernel
theorem ok_X9_share : e_m mX9_share 2 := ⟨tblG_in (inT6 (List.mem_of_getElem? (i := 30) rfl)) rfl, plainFor_of_name (by decide), rfl, ini_9, by decide +kernel, by decide⟩
theorem d_X11_byTurns_101 : decode mX11_byTurns.2.2.1 101 = .ok (.lreturn, 1) := by decide +kernel
