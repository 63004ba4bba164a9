theorem dL_law_2317 : decode cL_law 2317 = .ok (.dcmp .l, 1) := by decide +kernel
theorem dL_law_2318 : decode cL_law 2318 = .ok (.ifCond .eq 25, 3) := by decide +kernel
theorem dL_law_2321 : decode cL_law 2321 = .ok (.aload 4, 2) := by decide +kernel
theorem dL_law_2323 : decode cL_law 2323 = .ok (.iconst 0, 1) := by decide +kernel
theorem dL_law_2324 : decode cL_law 2324 = .ok (.daload, 1) := by decide +kernel
theorem dL_law_2325 : decode cL_law 2325 = .ok (.aload 4, 2) := by decide +kernel
theorem dL_law_2327 : decode cL_law 2327 = .ok (.iconst 0, 1) := by decide +kernel
theorem dL_law_2328 : decode cL_law 2328 = .ok (.daload, 1) := by decide +kernel
theorem dL_law_2329 : decode cL_law 2329 = .ok (.dcmp .l, 1) := by decide +kernel
theorem dL_law_2330 : decode cL_law 2330 = .ok (.ifCond .eq 11, 3) := by decide +kernel
theorem dL_law_2333 : decode cL_law 2333 = .ok (.dload 7, 2) := by decide +kernel
theorem dL_law_2335 : decode cL_law 2335 = .ok (.dload 7, 2) := by decide +kernel
theorem dL_law_2337 : decode cL_law 2337 = .ok (.dcmp .l, 1) := by decide +kernel
theorem dL_law_2338 : decode cL_law 2338 = .ok (.ifCond .ne 5, 3) := by decide +kernel
theorem dL_law_2341 : decode cL_law 2341 = .ok (.iconst 0, 1) := by decide +kernel
theorem dL_law_2342 : decode cL_law 2342 = .ok (.ireturn, 1) := by decide +kernel
theorem dL_law_2343 : decode cL_law 2343 = .ok (.goto 3, 3) := by decide +kernel
theorem dL_law_2346 : decode cL_law 2346 = .ok (.iinc 5 6, 3) := by decide +kernel
theorem dL_law_2349 : decode cL_law 2349 = .ok (.goto (-2321), 3) := by decide +kernel
theorem dL_law_2352 : decode cL_law 2352 = .ok (.iconst 1, 1) := by decide +kernel
theorem dL_law_2353 : decode cL_law 2353 = .ok (.ireturn, 1) := by decide +kernel
