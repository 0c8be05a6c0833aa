theorem d_L_law_17 : decode mL_law.2.2.1 17 = .ok (.istore_n 3, 1) := by decide +kernel
