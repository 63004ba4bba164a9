theorem dL_law_2223 : decode cL_law 2223 = .ok (.if_icmp .eq 5, 3) := by decide +kernel
theorem dL_law_2228 : decode cL_law 2228 = .ok (.iload 6, 2) := by decide +kernel
theorem dL_law_2230 : decode cL_law 2230 = .ok (.ifCond .ne 36, 3) := by decide +kernel
theorem dL_law_2266 : decode cL_law 2266 = .ok (.goto 80, 3) := by decide +kernel
theorem dL_law_2269 : decode cL_law 2269 = .ok (.aload_n 1, 1) := by decide +kernel
theorem dL_law_2270 : decode cL_law 2270 = .ok (.aload_n 0, 1) := by decide +kernel
theorem dL_law_2271 : decode cL_law 2271 = .ok (.iload 5, 2) := by decide +kernel
theorem dL_law_2273 : decode cL_law 2273 = .ok (.iconst 1, 1) := by decide +kernel
theorem dL_law_2274 : decode cL_law 2274 = .ok (.iadd, 1) := by decide +kernel
theorem dL_law_2275 : decode cL_law 2275 = .ok (.iaload, 1) := by decide +kernel
theorem dL_law_2276 : decode cL_law 2276 = .ok (.aload 4, 2) := by decide +kernel
theorem dL_law_2278 : decode cL_law 2278 = .ok (.invokestatic 249, 3) := by decide +kernel
theorem dL_law_2281 : decode cL_law 2281 = .ok (.istore 6, 2) := by decide +kernel
theorem dL_law_2283 : decode cL_law 2283 = .ok (.aload_n 2, 1) := by decide +kernel
theorem dL_law_2284 : decode cL_law 2284 = .ok (.aload_n 0, 1) := by decide +kernel
theorem dL_law_2285 : decode cL_law 2285 = .ok (.iload 5, 2) := by decide +kernel
theorem dL_law_2287 : decode cL_law 2287 = .ok (.iconst 1, 1) := by decide +kernel
theorem dL_law_2288 : decode cL_law 2288 = .ok (.iadd, 1) := by decide +kernel
theorem dL_law_2289 : decode cL_law 2289 = .ok (.iaload, 1) := by decide +kernel
theorem dL_law_2290 : decode cL_law 2290 = .ok (.invokevirtual 252, 3) := by decide +kernel
theorem dL_law_2293 : decode cL_law 2293 = .ok (.dstore 7, 2) := by decide +kernel
theorem dL_law_2295 : decode cL_law 2295 = .ok (.aload_n 2, 1) := by decide +kernel
theorem dL_law_2296 : decode cL_law 2296 = .ok (.invokevirtual 133, 3) := by decide +kernel
theorem dL_law_2299 : decode cL_law 2299 = .ok (.iload 6, 2) := by decide +kernel
theorem dL_law_2301 : decode cL_law 2301 = .ok (.if_icmp .eq 5, 3) := by decide +kernel
theorem dL_law_2306 : decode cL_law 2306 = .ok (.iload 6, 2) := by decide +kernel
theorem dL_law_2308 : decode cL_law 2308 = .ok (.ifCond .ne 35, 3) := by decide +kernel
theorem dL_law_2343 : decode cL_law 2343 = .ok (.goto 3, 3) := by decide +kernel
theorem dL_law_2346 : decode cL_law 2346 = .ok (.iinc 5 6, 3) := by decide +kernel
theorem dL_law_2349 : decode cL_law 2349 = .ok (.goto (-2321), 3) := by decide +kernel
theorem dL_law_2352 : decode cL_law 2352 = .ok (.iconst 1, 1) := by decide +kernel
theorem dL_law_2353 : decode cL_law 2353 = .ok (.ireturn, 1) := by decide +kernel
