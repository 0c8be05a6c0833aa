theorem d_X12_run_184 : decode mX12_run.2.2.1 184 = .ok (.aload_n 0, 1) := by decide +kernel
theorem d_X12_run_185 : decode mX12_run.2.2.1 185 = .ok (.getfield 177, 3) := by decide +kernel
theorem d_X12_run_188 : decode mX12_run.2.2.1 188 = .ok (.iload_n 3, 1) := by decide +kernel
theorem d_X12_run_189 : decode mX12_run.2.2.1 189 = .ok (.baload, 1) := by decide +kernel
theorem d_X12_run_190 : decode mX12_run.2.2.1 190 = .ok (.ifCond .ne 24, 3) := by decide +kernel
theorem d_X12_run_193 : decode mX12_run.2.2.1 193 = .ok (.aload_n 0, 1) := by decide +kernel
theorem d_X12_run_194 : decode mX12_run.2.2.1 194 = .ok (.getfield 183, 3) := by decide +kernel
theorem d_X12_run_197 : decode mX12_run.2.2.1 197 = .ok (.iload_n 3, 1) := by decide +kernel
theorem d_X12_run_198 : decode mX12_run.2.2.1 198 = .ok (.iaload, 1) := by decide +kernel
theorem d_X12_run_199 : decode mX12_run.2.2.1 199 = .ok (.ifCond .ne 15, 3) := by decide +kernel
theorem d_X12_run_202 : decode mX12_run.2.2.1 202 = .ok (.iload_n 3, 1) := by decide +kernel
theorem d_X12_run_203 : decode mX12_run.2.2.1 203 = .ok (.aload_n 0, 1) := by decide +kernel
theorem d_X12_run_204 : decode mX12_run.2.2.1 204 = .ok (.getfield 195, 3) := by decide +kernel
theorem d_X12_run_207 : decode mX12_run.2.2.1 207 = .ok (.if_icmp .eq 7, 3) := by decide +kernel
theorem d_X12_run_210 : decode mX12_run.2.2.1 210 = .ok (.iconst 1, 1) := by decide +kernel
theorem d_X12_run_211 : decode mX12_run.2.2.1 211 = .ok (.goto 4, 3) := by decide +kernel
theorem d_X12_run_214 : decode mX12_run.2.2.1 214 = .ok (.iconst 0, 1) := by decide +kernel
theorem d_X12_run_215 : decode mX12_run.2.2.1 215 = .ok (.bastore, 1) := by decide +kernel
theorem d_X12_run_216 : decode mX12_run.2.2.1 216 = .ok (.iinc 3 1, 3) := by decide +kernel
theorem d_X12_run_219 : decode mX12_run.2.2.1 219 = .ok (.goto (-46), 3) := by decide +kernel
theorem d_X12_run_222 : decode mX12_run.2.2.1 222 = .ok (.iload_n 2, 1) := by decide +kernel
theorem d_X12_run_223 : decode mX12_run.2.2.1 223 = .ok (.ireturn, 1) := by decide +kernel
