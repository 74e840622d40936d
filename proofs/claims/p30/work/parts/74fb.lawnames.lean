/-! THE LAW: instructions and calls (of claim/NAMES.whole.lean.txt) -/
theorem dL_law_286 : decode cL_law 286 = .ok (.iconst (-1), 1) := by decide +kernel
theorem dL_law_287 : decode cL_law 287 = .ok (.iconst 0, 1) := by decide +kernel
theorem dL_law_288 : decode cL_law 288 = .ok (.invokevirtual 90, 3) := by decide +kernel
theorem dL_law_291 : decode cL_law 291 = .ok (.iconst (-1), 1) := by decide +kernel
theorem dL_law_292 : decode cL_law 292 = .ok (.if_icmp .ne 7, 3) := by decide +kernel
theorem dL_law_295 : decode cL_law 295 = .ok (.iconst 1, 1) := by decide +kernel
theorem dL_law_296 : decode cL_law 296 = .ok (.goto 4, 3) := by decide +kernel
theorem dL_law_299 : decode cL_law 299 = .ok (.iconst 0, 1) := by decide +kernel
theorem dL_law_300 : decode cL_law 300 = .ok (.ireturn, 1) := by decide +kernel
