/-! CONTRACTS, p1 -/
theorem q332 : (.selects RX8 yX8_addStep yX8_addStep : Cond) ∈ WA := WA_of (tb_1 236 rfl) rfl
theorem q333 : (.code yX8_addStep cX8_addStep 4 (some .int) : Cond) ∈ WA := WA_of (tb_1 237 rfl) rfl
theorem q334 : (.methodLink RL 7 yX8_addStep : Cond) ∈ WA := WA_of (tb_1 234 rfl) rfl
theorem q335 : (.instanceMethod yX8_addStep : Cond) ∈ WA := WA_of (tb_1 235 rfl) rfl
theorem q336 : (.classLink RL 13 "java/lang/IllegalArgumentException" : Cond) ∈ WA := WA_of (tb_1 232 rfl) rfl
theorem q337 : (.selects RX8 yX8_open yX8_open : Cond) ∈ WA := WA_of (tb_2 200 rfl) rfl
theorem q338 : (.code yX8_open cX8_open 3 (some .int) : Cond) ∈ WA := WA_of (tb_2 201 rfl) rfl
theorem q339 : (.methodLink RL 17 yX8_open : Cond) ∈ WA := WA_of (tb_2 198 rfl) rfl
theorem q340 : (.instanceMethod yX8_open : Cond) ∈ WA := WA_of (tb_2 199 rfl) rfl
theorem q341 : (.classLink RL 21 "java/lang/IndexOutOfBoundsException" : Cond) ∈ WA := WA_of (tb_2 174 rfl) rfl
theorem q342 : (.selects RX8 yX8_addWord yX8_addWord : Cond) ∈ WA := WA_of (tb_3 41 rfl) rfl
theorem q343 : (.code yX8_addWord cX8_addWord 4 (some .int) : Cond) ∈ WA := WA_of (tb_3 42 rfl) rfl
theorem q344 : (.methodLink RL 23 yX8_addWord : Cond) ∈ WA := WA_of (tb_3 39 rfl) rfl
theorem q345 : (.instanceMethod yX8_addWord : Cond) ∈ WA := WA_of (tb_3 40 rfl) rfl
theorem q346 : (.classLink RL 15 "java/lang/IllegalStateException" : Cond) ∈ WA := WA_of (tb_1 233 rfl) rfl
theorem q347 : (.selects RX8 yX8_close yX8_close : Cond) ∈ WA := WA_of (tb_3 57 rfl) rfl
theorem q348 : (.code yX8_close cX8_close 3 (some .int) : Cond) ∈ WA := WA_of (tb_3 58 rfl) rfl
theorem q349 : (.methodLink RL 27 yX8_close : Cond) ∈ WA := WA_of (tb_3 55 rfl) rfl
theorem q350 : (.instanceMethod yX8_close : Cond) ∈ WA := WA_of (tb_3 56 rfl) rfl
theorem q351 : (.selects RX8 yX8_remove yX8_remove : Cond) ∈ WA := WA_of (tb_3 121 rfl) rfl
theorem q352 : (.code yX8_remove cX8_remove 3 (some .char) : Cond) ∈ WA := WA_of (tb_3 122 rfl) rfl
theorem q353 : (.methodLink RL 31 yX8_remove : Cond) ∈ WA := WA_of (tb_3 119 rfl) rfl
theorem q354 : (.instanceMethod yX8_remove : Cond) ∈ WA := WA_of (tb_3 120 rfl) rfl
theorem q355 : (.selects RX8 yX8_state yX8_state : Cond) ∈ WA := WA_of (tb_3 135 rfl) rfl
theorem q356 : (.code yX8_state cX8_state 2 (some .char) : Cond) ∈ WA := WA_of (tb_3 136 rfl) rfl
theorem q357 : (.methodLink RL 35 yX8_state : Cond) ∈ WA := WA_of (tb_3 133 rfl) rfl
theorem q358 : (.instanceMethod yX8_state : Cond) ∈ WA := WA_of (tb_3 134 rfl) rfl
theorem q359 : (.selects RX8 yX8_length yX8_length : Cond) ∈ WA := WA_of (tb_3 142 rfl) rfl
theorem q360 : (.code yX8_length cX8_length 2 (some .int) : Cond) ∈ WA := WA_of (tb_3 143 rfl) rfl
theorem q361 : (.methodLink RL 38 yX8_length : Cond) ∈ WA := WA_of (tb_3 140 rfl) rfl
theorem q362 : (.instanceMethod yX8_length : Cond) ∈ WA := WA_of (tb_3 141 rfl) rfl
theorem q363 : (.selects RX8 yX8_standing yX8_standing : Cond) ∈ WA := WA_of (tb_3 153 rfl) rfl
theorem q364 : (.code yX8_standing cX8_standing 4 (some .int) : Cond) ∈ WA := WA_of (tb_3 154 rfl) rfl
theorem q365 : (.methodLink RL 41 yX8_standing : Cond) ∈ WA := WA_of (tb_3 151 rfl) rfl
theorem q366 : (.instanceMethod yX8_standing : Cond) ∈ WA := WA_of (tb_3 152 rfl) rfl
theorem q367 : (.selects RX8 yX8_size yX8_size : Cond) ∈ WA := WA_of (tb_3 161 rfl) rfl
theorem q368 : (.code yX8_size cX8_size 2 (some .int) : Cond) ∈ WA := WA_of (tb_3 162 rfl) rfl
theorem q369 : (.methodLink RL 45 yX8_size : Cond) ∈ WA := WA_of (tb_3 159 rfl) rfl
theorem q370 : (.instanceMethod yX8_size : Cond) ∈ WA := WA_of (tb_3 160 rfl) rfl
theorem q371 : (.selects RX8 yX8_merge yX8_merge : Cond) ∈ WA := WA_of (tb_3 177 rfl) rfl
theorem q372 : (.code yX8_merge cX8_merge 2 (some .int) : Cond) ∈ WA := WA_of (tb_3 178 rfl) rfl
theorem q373 : (.methodLink RL 48 yX8_merge : Cond) ∈ WA := WA_of (tb_3 175 rfl) rfl
theorem q374 : (.instanceMethod yX8_merge : Cond) ∈ WA := WA_of (tb_3 176 rfl) rfl
theorem q375 : (.selects RX8 yX8_follow yX8_follow : Cond) ∈ WA := WA_of (tb_3 193 rfl) rfl
theorem q376 : (.code yX8_follow cX8_follow 1 (some .int) : Cond) ∈ WA := WA_of (tb_3 194 rfl) rfl
theorem q377 : (.methodLink RL 51 yX8_follow : Cond) ∈ WA := WA_of (tb_3 191 rfl) rfl
theorem q378 : (.instanceMethod yX8_follow : Cond) ∈ WA := WA_of (tb_3 192 rfl) rfl
theorem q379 : (.selects RX8 yX8_isOnReplica yX8_isOnReplica : Cond) ∈ WA := WA_of (tb_3 209 rfl) rfl
theorem q380 : (.code yX8_isOnReplica cX8_isOnReplica 2 (some .boolean) : Cond) ∈ WA := WA_of (tb_3 210 rfl) rfl
theorem q381 : (.methodLink RL 54 yX8_isOnReplica : Cond) ∈ WA := WA_of (tb_3 207 rfl) rfl
theorem q382 : (.instanceMethod yX8_isOnReplica : Cond) ∈ WA := WA_of (tb_3 208 rfl) rfl
theorem q383 : (.selects RX8 yX8_openView yX8_openView : Cond) ∈ WA := WA_of (tb_3 217 rfl) rfl
theorem q384 : (.code yX8_openView cX8_openView 3 (some .int) : Cond) ∈ WA := WA_of (tb_3 218 rfl) rfl
theorem q385 : (.methodLink RL 58 yX8_openView : Cond) ∈ WA := WA_of (tb_3 215 rfl) rfl
theorem q386 : (.instanceMethod yX8_openView : Cond) ∈ WA := WA_of (tb_3 216 rfl) rfl
theorem q387 : (.selects RX8 yX8_closeView yX8_closeView : Cond) ∈ WA := WA_of (tb_4 4 rfl) rfl
theorem q388 : (.code yX8_closeView cX8_closeView 3 (some .int) : Cond) ∈ WA := WA_of (tb_4 5 rfl) rfl
theorem q389 : (.methodLink RL 61 yX8_closeView : Cond) ∈ WA := WA_of (tb_4 2 rfl) rfl
theorem q390 : (.instanceMethod yX8_closeView : Cond) ∈ WA := WA_of (tb_4 3 rfl) rfl
theorem q391 : (.selects RX8 yX8_seen yX8_seen : Cond) ∈ WA := WA_of (tb_4 25 rfl) rfl
theorem q392 : (.code yX8_seen cX8_seen 2 (some .int) : Cond) ∈ WA := WA_of (tb_4 26 rfl) rfl
theorem q393 : (.methodLink RL 64 yX8_seen : Cond) ∈ WA := WA_of (tb_4 23 rfl) rfl
theorem q394 : (.instanceMethod yX8_seen : Cond) ∈ WA := WA_of (tb_4 24 rfl) rfl
theorem q395 : (.selects RX8 yX8_ask yX8_ask : Cond) ∈ WA := WA_of (tb_4 36 rfl) rfl
theorem q396 : (.code yX8_ask cX8_ask 6 (some .int) : Cond) ∈ WA := WA_of (tb_4 37 rfl) rfl
theorem q397 : (.methodLink RL 67 yX8_ask : Cond) ∈ WA := WA_of (tb_4 34 rfl) rfl
theorem q398 : (.instanceMethod yX8_ask : Cond) ∈ WA := WA_of (tb_4 35 rfl) rfl
theorem q399 : (.selects RX8 yX8_join yX8_join : Cond) ∈ WA := WA_of (tb_4 78 rfl) rfl
theorem q400 : (.code yX8_join cX8_join 5 (some .int) : Cond) ∈ WA := WA_of (tb_4 79 rfl) rfl
theorem q401 : (.methodLink RL 71 yX8_join : Cond) ∈ WA := WA_of (tb_4 76 rfl) rfl
theorem q402 : (.instanceMethod yX8_join : Cond) ∈ WA := WA_of (tb_4 77 rfl) rfl
theorem q403 : (.selects RX8 yX8_hits yX8_hits : Cond) ∈ WA := WA_of (tb_4 95 rfl) rfl
theorem q404 : (.code yX8_hits cX8_hits 3 (some .int) : Cond) ∈ WA := WA_of (tb_4 96 rfl) rfl
theorem q405 : (.methodLink RL 74 yX8_hits : Cond) ∈ WA := WA_of (tb_4 93 rfl) rfl
theorem q406 : (.instanceMethod yX8_hits : Cond) ∈ WA := WA_of (tb_4 94 rfl) rfl
theorem q407 : (.selects RX8 yX8_hit yX8_hit : Cond) ∈ WA := WA_of (tb_4 186 rfl) rfl
theorem q408 : (.code yX8_hit cX8_hit 4 (some .int) : Cond) ∈ WA := WA_of (tb_4 187 rfl) rfl
theorem q409 : (.methodLink RL 77 yX8_hit : Cond) ∈ WA := WA_of (tb_4 184 rfl) rfl
theorem q410 : (.instanceMethod yX8_hit : Cond) ∈ WA := WA_of (tb_4 185 rfl) rfl
theorem q411 : (.selects RX8 yX8_score yX8_score : Cond) ∈ WA := WA_of (tb_4 217 rfl) rfl
theorem q412 : (.code yX8_score cX8_score 4 (some .long) : Cond) ∈ WA := WA_of (tb_4 218 rfl) rfl
theorem q413 : (.methodLink RL 82 yX8_score : Cond) ∈ WA := WA_of (tb_4 215 rfl) rfl
theorem q414 : (.instanceMethod yX8_score : Cond) ∈ WA := WA_of (tb_4 216 rfl) rfl
theorem q415 : (.selects RX8 yX8_scoreAlone yX8_scoreAlone : Cond) ∈ WA := WA_of (tb_4 225 rfl) rfl
theorem q416 : (.code yX8_scoreAlone cX8_scoreAlone 4 (some .long) : Cond) ∈ WA := WA_of (tb_4 226 rfl) rfl
theorem q417 : (.methodLink RL 86 yX8_scoreAlone : Cond) ∈ WA := WA_of (tb_4 223 rfl) rfl
theorem q418 : (.instanceMethod yX8_scoreAlone : Cond) ∈ WA := WA_of (tb_4 224 rfl) rfl
theorem q419 : (.selects RX8 yX8_tagged yX8_tagged : Cond) ∈ WA := WA_of (tb_5 0 rfl) rfl
theorem q420 : (.code yX8_tagged cX8_tagged 6 (some .int) : Cond) ∈ WA := WA_of (tb_5 1 rfl) rfl
theorem q421 : (.methodLink RL 89 yX8_tagged : Cond) ∈ WA := WA_of (tb_4 238 rfl) rfl
theorem q422 : (.instanceMethod yX8_tagged : Cond) ∈ WA := WA_of (tb_4 239 rfl) rfl
theorem q423 : (.selects RX8 yX8_firstTagged yX8_firstTagged : Cond) ∈ WA := WA_of (tb_5 11 rfl) rfl
theorem q424 : (.code yX8_firstTagged cX8_firstTagged 5 (some .int) : Cond) ∈ WA := WA_of (tb_5 12 rfl) rfl
theorem q425 : (.methodLink RL 92 yX8_firstTagged : Cond) ∈ WA := WA_of (tb_5 9 rfl) rfl
theorem q426 : (.instanceMethod yX8_firstTagged : Cond) ∈ WA := WA_of (tb_5 10 rfl) rfl
theorem q427 : (.selects RX8 yX8_wholes yX8_wholes : Cond) ∈ WA := WA_of (tb_5 19 rfl) rfl
theorem q428 : (.code yX8_wholes cX8_wholes 6 (some .int) : Cond) ∈ WA := WA_of (tb_5 20 rfl) rfl
theorem q429 : (.methodLink RL 95 yX8_wholes : Cond) ∈ WA := WA_of (tb_5 17 rfl) rfl
theorem q430 : (.instanceMethod yX8_wholes : Cond) ∈ WA := WA_of (tb_5 18 rfl) rfl
theorem q431 : (.selects RX8 yX8_wholeScore yX8_wholeScore : Cond) ∈ WA := WA_of (tb_5 31 rfl) rfl
theorem q432 : (.code yX8_wholeScore cX8_wholeScore 5 (some .long) : Cond) ∈ WA := WA_of (tb_5 32 rfl) rfl
theorem q433 : (.methodLink RL 98 yX8_wholeScore : Cond) ∈ WA := WA_of (tb_5 29 rfl) rfl
theorem q434 : (.instanceMethod yX8_wholeScore : Cond) ∈ WA := WA_of (tb_5 30 rfl) rfl
theorem q435 : (.selects RX8 yX8_marked yX8_marked : Cond) ∈ WA := WA_of (tb_5 39 rfl) rfl
theorem q436 : (.code yX8_marked cX8_marked 5 (some .int) : Cond) ∈ WA := WA_of (tb_5 40 rfl) rfl
theorem q437 : (.methodLink RL 101 yX8_marked : Cond) ∈ WA := WA_of (tb_5 37 rfl) rfl
theorem q438 : (.instanceMethod yX8_marked : Cond) ∈ WA := WA_of (tb_5 38 rfl) rfl
theorem q439 : (.selects RX8 yX8_click yX8_click : Cond) ∈ WA := WA_of (tb_5 59 rfl) rfl
theorem q440 : (.code yX8_click cX8_click 3 (some .int) : Cond) ∈ WA := WA_of (tb_5 60 rfl) rfl
theorem q441 : (.methodLink RL 104 yX8_click : Cond) ∈ WA := WA_of (tb_5 57 rfl) rfl
theorem q442 : (.instanceMethod yX8_click : Cond) ∈ WA := WA_of (tb_5 58 rfl) rfl
theorem q443 : (.selects RX8 yX8_setBound yX8_setBound : Cond) ∈ WA := WA_of (tb_5 66 rfl) rfl
theorem q444 : (.code yX8_setBound cX8_setBound 3 (some .int) : Cond) ∈ WA := WA_of (tb_5 67 rfl) rfl
theorem q445 : (.methodLink RL 107 yX8_setBound : Cond) ∈ WA := WA_of (tb_5 64 rfl) rfl
theorem q446 : (.instanceMethod yX8_setBound : Cond) ∈ WA := WA_of (tb_5 65 rfl) rfl
theorem q447 : (.selects RX8 yX8_turned yX8_turned : Cond) ∈ WA := WA_of (tb_5 74 rfl) rfl
theorem q448 : (.code yX8_turned cX8_turned 6 (some .int) : Cond) ∈ WA := WA_of (tb_5 75 rfl) rfl
theorem q449 : (.methodLink RL 110 yX8_turned : Cond) ∈ WA := WA_of (tb_5 72 rfl) rfl
theorem q450 : (.instanceMethod yX8_turned : Cond) ∈ WA := WA_of (tb_5 73 rfl) rfl
theorem q451 : (.selects RX8 yX8_removedShare yX8_removedShare : Cond) ∈ WA := WA_of (tb_5 95 rfl) rfl
theorem q452 : (.code yX8_removedShare cX8_removedShare 2 (some .float) : Cond) ∈ WA := WA_of (tb_5 96 rfl) rfl
theorem q453 : (.methodLink RL 113 yX8_removedShare : Cond) ∈ WA := WA_of (tb_5 93 rfl) rfl
theorem q454 : (.instanceMethod yX8_removedShare : Cond) ∈ WA := WA_of (tb_5 94 rfl) rfl
theorem q455 : (.classLink RL 117 "java/lang/ArithmeticException" : Cond) ∈ WA := WA_of (tb_5 79 rfl) rfl
theorem q456 : (.selects RX8 yX8_meanLength yX8_meanLength : Cond) ∈ WA := WA_of (tb_5 113 rfl) rfl
theorem q457 : (.code yX8_meanLength cX8_meanLength 5 (some .double) : Cond) ∈ WA := WA_of (tb_5 114 rfl) rfl
theorem q458 : (.methodLink RL 119 yX8_meanLength : Cond) ∈ WA := WA_of (tb_5 111 rfl) rfl
theorem q459 : (.instanceMethod yX8_meanLength : Cond) ∈ WA := WA_of (tb_5 112 rfl) rfl
set_option maxHeartbeats 4000000 in
set_option maxRecDepth 100000 in
theorem c_L_addStep (l : Launch) (hlt : l.stackTraces = false) (D : va_G) (dA : Nat → ClassId) (E : Nat) (a : Nat → Nat) (o : Nat) (g : Nat → Int64) (p0 p1 p2 : Int32) (sz : Nat) (hch : narrow .char (.int p0) = .int p0 ∧ fits .char (.int p0) = true) : vx_Met l yL_addStep (wq (.codeWith yL_addStep cL_addStep 6 (some .int) [(0, 12, 15, 13), (0, 12, 19, 15)])) { frames := 7, cells := 2, slots := 13, locals := 124 } (va_Pc [.ref (a 0), .int p0, .int p1, .int p2, .ref o] (PcB D dA E [(a 0, .inr (11, [.ref (a 1), .ref (a 2), .ref (a 3), .ref (a 4), .ref (a 5), .ref (a 10), .ref (a 15), .ref (a 17), .null, .int 0, .int 0, .int 0])), (a 1, .inr (2, [.int 0, .ref E, .int 0])), (o, .inl (dA 3, 1, .inr (.inl g)))] sz)) (va_Qi (fun (r : Int32) (u : Nat → Int64) => ((okStep p0 p1 p2 = true) ∧ r = 0 ∧ u 0 = 1) ∨ ((okStep p0 p1 p2 = false) ∧ r = 1)) (fun u t => va_P D vwCl [(o, .inl (dA 3, 1, .inr (.inl u)))] t.heap ∧ va_D (va_A [(a 0, .inr (11, [.ref (a 1), .ref (a 2), .ref (a 3), .ref (a 4), .ref (a 5), .ref (a 10), .ref (a 15), .ref (a 17), .null, .int 0, .int 0, .int 0])), (a 1, .inr (2, [.int 0, .ref E, .int 0])), (o, .inl (dA 3, 1, .inr (.inl g)))] sz) [(o, .inl (dA 3, 1, .inr (.inl u)))]) (va_A [(a 0, .inr (11, [.ref (a 1), .ref (a 2), .ref (a 3), .ref (a 4), .ref (a 5), .ref (a 10), .ref (a 15), .ref (a 17), .null, .int 0, .int 0, .int 0])), (a 1, .inr (2, [.int 0, .ref E, .int 0])), (o, .inl (dA 3, 1, .inr (.inl g)))] sz)) (vx_X (fun (k : Nat) => False) (fun E9 k t => E9 = xN k) (va_A [(a 0, .inr (11, [.ref (a 1), .ref (a 2), .ref (a 3), .ref (a 4), .ref (a 5), .ref (a 10), .ref (a 15), .ref (a 17), .null, .int 0, .int 0, .int 0])), (a 1, .inr (2, [.int 0, .ref E, .int 0])), (o, .inl (dA 3, 1, .inr (.inl g)))] sz)) 2 13 (va_A [(a 0, .inr (11, [.ref (a 1), .ref (a 2), .ref (a 3), .ref (a 4), .ref (a 5), .ref (a 10), .ref (a 15), .ref (a 17), .null, .int 0, .int 0, .int 0])), (a 1, .inr (2, [.int 0, .ref E, .int 0])), (o, .inl (dA 3, 1, .inr (.inl g)))] sz) := by
  refine mh_of (y := yL_addStep) (av := [.ref (a 0), .int p0, .int p1, .int p2, .ref o]) (maxL := 6) (Qc := fun A => va_Qi (fun (r : Int32) (u : Nat → Int64) => ((okStep p0 p1 p2 = true) ∧ r = 0 ∧ u 0 = 1) ∨ ((okStep p0 p1 p2 = false) ∧ r = 1)) (fun u t => va_P D vwCl [(o, .inl (dA 3, 1, .inr (.inl u)))] t.heap ∧ va_D A [(o, .inl (dA 3, 1, .inr (.inl u)))]) A) (XC := fun A => vx_X (fun (k : Nat) => False) (fun E9 k t => E9 = xN k) A) RL rfl (by decide) (Nat.le_of_ble_eq_true rfl) ?_
  intro p e s m args below meth c hae hx hb hr hts hown hlocks hml hnm htb hP hK A hAe hD hZ hS hA ls hl
  have hl : lv_has ls 6 [(0, .ref (a 0)), (1, .int p0), (2, .int p1), (3, .int p2), (4, .ref o)] := hl
  refine lv_aload hx hb dL_addStep_0 (lv_at hl 4 rfl) ?_
  refine lv_iconst (v := 0) hx hb dL_addStep_2 (by decide) ?_
  refine lv_aload_n hx hb dL_addStep_3 rfl (lv_at hl 0 rfl) ?_
  refine lv_iload_n hx hb dL_addStep_4 rfl (lv_at hl 1 rfl) ?_
  refine lv_iload_n hx hb dL_addStep_5 rfl (lv_at hl 2 rfl) ?_
  refine lv_iload_n hx hb dL_addStep_6 rfl (lv_at hl 3 rfl) ?_
  have hPc := hP.sub (ws' := [(a 0, .inr (11, [.ref (a 1), .ref (a 2), .ref (a 3), .ref (a 4), .ref (a 5), .ref (a 10), .ref (a 15), .ref (a 17), .null, .int 0, .int 0, .int 0])), (a 1, .inr (2, [.int 0, .ref E, .int 0]))]) [0, 1] rfl
  have hDc := hD.sub (ws' := [(a 0, .inr (11, [.ref (a 1), .ref (a 2), .ref (a 3), .ref (a 4), .ref (a 5), .ref (a 10), .ref (a 15), .ref (a 17), .null, .int 0, .int 0, .int 0])), (a 1, .inr (2, [.int 0, .ref E, .int 0]))]) [0, 1] (by decide) rfl
  have hFc := va_free (wc := [(a 0, .inr (11, [.ref (a 1), .ref (a 2), .ref (a 3), .ref (a 4), .ref (a 5), .ref (a 10), .ref (a 15), .ref (a 17), .null, .int 0, .int 0, .int 0])), (a 1, .inr (2, [.int 0, .ref E, .int 0]))]) hD hS hA [0, 1] rfl
  refine vx_calli (vx_runV (As := [.int p0, .int p1, .int p2]) (rest := [.int 0, .ref o]) ⟨hx, hb, hml, hown, hts⟩ (c_X8_addStep l hlt D dA E a p0 p1 p2 s.heap.size hch) (cwV 3 hts (ga_V q334 q335 q332 q113 q333) rfl rfl rfl (by decide +kernel) ⟨(Nat.le_of_ble_eq_true rfl), (Nat.le_of_ble_eq_true rfl)⟩) ⟨pb_blind, va_recv hK hPc (ci := 11) (q0 := 0) rfl rfl, pb_pre hK hPc hDc hZ hS hFc _⟩ rfl rfl hl.1 rfl (lv_room (Nat.le_of_ble_eq_true rfl)) dL_addStep_7 ⟨(Nat.le_of_ble_eq_true rfl), (Nat.le_of_ble_eq_true rfl)⟩) hS (fun q _ h => hFc q h) hFc (fun q _ h => hFc q h) (fun E9 ce q9 k t H1 locs ht hvm hpx hBX hz1 hk1 hS hce hcv hcl => ?_) (fun r u t H1 locs ht hvm hw hB hz1 hk1 hS => ?_)
  · obtain ⟨hP, hD⟩ := jn_drop (wr := [(o, .inl (dA 3, 1, .inr (.inl g)))]) hP hD [0, 1] [2] rfl rfl (by decide) (by decide) hk1 hFc
    generalize H1 = H at hP hS hce ⊢
    have hP : va_P D vwCl [(o, .inl (dA 3, 1, .inr (.inl g)))] H := hP
    have hD : va_D A [(o, .inl (dA 3, 1, .inr (.inl g)))] := hD
    refine vx_widen (k := 2) (n := 13) (Nat.le_of_ble_eq_true rfl) (Nat.le_of_ble_eq_true rfl) ?_
    obtain ⟨hq, rfl⟩ := hpx
    subst hBX
    refine vx_catch (own := RL) (name := "java/lang/IllegalArgumentException") (E := "java/lang/IllegalArgumentException") hown [] ⟨0, 12, 15, 13⟩ [⟨0, 12, 19, 15⟩] htb (fun _ h9 => absurd h9 List.not_mem_nil) rfl (by decide) (hts _ q336) (va_Nw.use rfl (hZ.1.1 _ (List.mem_of_getElem? (i := 0) rfl))) hce hcv hcl ?_
    refine W.eq (g2 := F0 m 15 ls [.ref q9]) rfl ?_
    refine lv_astore (lv' := [(5, .ref q9), (0, .ref (a 0)), (1, .int p0), (2, .int p1), (3, .int p2), (4, .ref o)]) hx hb dL_addStep_15 hl (by decide) rfl (fun ls hl => ?_)
    refine lv_iconst (v := 1) hx hb dL_addStep_17 (by decide) ?_
    refine W.widen (k := 2) (n := 13) (Nat.le_of_ble_eq_true rfl) (Nat.le_of_ble_eq_true rfl) ?_
    refine vx_ret ?_
    have hP9 := hP.sub (ws' := [(o, .inl (dA 3, 1, .inr (.inl g)))]) [0] rfl
    have hD9 := hD.sub (ws' := [(o, .inl (dA 3, 1, .inr (.inl g)))]) [0] (by decide) rfl
    exact W.iret (v := 1) hx hb hr (fun t ht hW => ⟨⟨1, g, rfl, (Or.inr (⟨hq, rfl⟩)), ⟨by rw [ht]; exact hP9, hD9⟩⟩, hS.F ht⟩) hS.2.2 dL_addStep_18
  · refine W.widen (k := 2) (n := 13) (Nat.le_of_ble_eq_true rfl) (Nat.le_of_ble_eq_true rfl) ?_
    obtain ⟨r1, rfl⟩ : ∃ z, z = r := ⟨_, rfl⟩
    obtain ⟨u2, rfl⟩ : ∃ z, z = u := ⟨_, rfl⟩
    have hw3 := hw
    clear hw
    obtain ⟨hP, hD⟩ := jn_drop (wr := [(o, .inl (dA 3, 1, .inr (.inl g)))]) hP hD [0, 1] [2] rfl rfl (by decide) (by decide) hk1 hFc
    generalize H1 = H at hP hS ⊢
    have hP : va_P D vwCl [(o, .inl (dA 3, 1, .inr (.inl g)))] H := hP
    have hD : va_D A [(o, .inl (dA 3, 1, .inr (.inl g)))] := hD
    obtain ⟨hq, hw9⟩ := hw3
    obtain rfl : r1 = 1 := hw9
    refine lv_i2l (v := 1) hx hb dL_addStep_10 (by decide) ?_
    refine va_last hx hb hK hP hD hS 0 3 rfl rfl (vi_c (by decide)) dL_addStep_11 (fun H locs hP hD hS => ?_)
    have hP : va_P D vwCl [(o, .inl (dA 3, 1, .inr (.inl (vp_updL g (0 : Int32).toNatClampNeg 1))))] H := hP
    have hD : va_D A [(o, .inl (dA 3, 1, .inr (.inl (vp_updL g (0 : Int32).toNatClampNeg 1))))] := hD
    refine lv_goto (tgt := 23) hx hb dL_addStep_12 (by decide) ?_
    refine lv_iconst (v := 0) hx hb dL_addStep_23 (by decide) ?_
    refine W.widen (k := 2) (n := 13) (Nat.le_of_ble_eq_true rfl) (Nat.le_of_ble_eq_true rfl) ?_
    refine vx_ret ?_
    have hP9 := hP.sub (ws' := [(o, .inl (dA 3, 1, .inr (.inl (vp_updL g (0 : Int32).toNatClampNeg 1))))]) [0] rfl
    have hD9 := hD.sub (ws' := [(o, .inl (dA 3, 1, .inr (.inl (vp_updL g (0 : Int32).toNatClampNeg 1))))]) [0] (by decide) rfl
    exact W.iret (v := 0) hx hb hr (fun t ht hW => ⟨⟨0, (vp_updL g (0 : Int32).toNatClampNeg 1), rfl, (Or.inl (⟨hq, rfl, rfl⟩)), ⟨by rw [ht]; exact hP9, hD9⟩⟩, hS.F ht⟩) hS.2.2 dL_addStep_24

set_option maxHeartbeats 4000000 in
set_option maxRecDepth 100000 in
theorem c_L_open (l : Launch) (hlt : l.stackTraces = false) (D : va_G) (dA : Nat → ClassId) (E : Nat) (a : Nat → Nat) (o : Nat) (g : Nat → Int64) (p0 p1 : Int32) (sz : Nat)  : vx_Met l yL_open (wq (.codeWith yL_open cL_open 5 (some .int) [(0, 10, 13, 13), (0, 10, 17, 21), (0, 10, 21, 15)])) { frames := 8, cells := 9, slots := 269, locals := 125 } (va_Pc [.ref (a 0), .int p0, .int p1, .ref o] (PcB D dA E [(a 0, .inr (11, [.ref (a 1), .ref (a 2), .ref (a 3), .ref (a 4), .ref (a 5), .ref (a 10), .ref (a 15), .ref (a 17), .null, .int 0, .int 0, .int 0])), (a 2, .inr (2, [.int 0, .ref E, .int 0])), (o, .inl (dA 3, 1, .inr (.inl g)))] sz)) (va_Qi (fun (r : Int32) (u : Nat → Int64) => ((inR 0 5 p0 = true ∧ p1 = -1) ∧ r = 0 ∧ u 0 = 0) ∨ ((inR 0 5 p0 = false) ∧ r = 1) ∨ ((inR 0 5 p0 = true ∧ ¬ p1 = -1) ∧ r = 2)) (fun u t => va_P D vwCl [(o, .inl (dA 3, 1, .inr (.inl u)))] t.heap ∧ va_D (va_A [(a 0, .inr (11, [.ref (a 1), .ref (a 2), .ref (a 3), .ref (a 4), .ref (a 5), .ref (a 10), .ref (a 15), .ref (a 17), .null, .int 0, .int 0, .int 0])), (a 2, .inr (2, [.int 0, .ref E, .int 0])), (o, .inl (dA 3, 1, .inr (.inl g)))] sz) [(o, .inl (dA 3, 1, .inr (.inl u)))]) (va_A [(a 0, .inr (11, [.ref (a 1), .ref (a 2), .ref (a 3), .ref (a 4), .ref (a 5), .ref (a 10), .ref (a 15), .ref (a 17), .null, .int 0, .int 0, .int 0])), (a 2, .inr (2, [.int 0, .ref E, .int 0])), (o, .inl (dA 3, 1, .inr (.inl g)))] sz)) (vx_X (fun (k : Nat) => False) (fun E9 k t => E9 = xN k) (va_A [(a 0, .inr (11, [.ref (a 1), .ref (a 2), .ref (a 3), .ref (a 4), .ref (a 5), .ref (a 10), .ref (a 15), .ref (a 17), .null, .int 0, .int 0, .int 0])), (a 2, .inr (2, [.int 0, .ref E, .int 0])), (o, .inl (dA 3, 1, .inr (.inl g)))] sz)) 9 269 (va_A [(a 0, .inr (11, [.ref (a 1), .ref (a 2), .ref (a 3), .ref (a 4), .ref (a 5), .ref (a 10), .ref (a 15), .ref (a 17), .null, .int 0, .int 0, .int 0])), (a 2, .inr (2, [.int 0, .ref E, .int 0])), (o, .inl (dA 3, 1, .inr (.inl g)))] sz) := by
  refine mh_of (y := yL_open) (av := [.ref (a 0), .int p0, .int p1, .ref o]) (maxL := 5) (Qc := fun A => va_Qi (fun (r : Int32) (u : Nat → Int64) => ((inR 0 5 p0 = true ∧ p1 = -1) ∧ r = 0 ∧ u 0 = 0) ∨ ((inR 0 5 p0 = false) ∧ r = 1) ∨ ((inR 0 5 p0 = true ∧ ¬ p1 = -1) ∧ r = 2)) (fun u t => va_P D vwCl [(o, .inl (dA 3, 1, .inr (.inl u)))] t.heap ∧ va_D A [(o, .inl (dA 3, 1, .inr (.inl u)))]) A) (XC := fun A => vx_X (fun (k : Nat) => False) (fun E9 k t => E9 = xN k) A) RL rfl (by decide) (Nat.le_of_ble_eq_true rfl) ?_
  intro p e s m args below meth c hae hx hb hr hts hown hlocks hml hnm htb hP hK A hAe hD hZ hS hA ls hl
  have hl : lv_has ls 5 [(0, .ref (a 0)), (1, .int p0), (2, .int p1), (3, .ref o)] := hl
  refine lv_aload_n hx hb dL_open_0 rfl (lv_at hl 3 rfl) ?_
  refine lv_iconst (v := 0) hx hb dL_open_1 (by decide) ?_
  refine lv_aload_n hx hb dL_open_2 rfl (lv_at hl 0 rfl) ?_
  refine lv_iload_n hx hb dL_open_3 rfl (lv_at hl 1 rfl) ?_
  refine lv_iload_n hx hb dL_open_4 rfl (lv_at hl 2 rfl) ?_
  have hPc := hP.sub (ws' := [(a 0, .inr (11, [.ref (a 1), .ref (a 2), .ref (a 3), .ref (a 4), .ref (a 5), .ref (a 10), .ref (a 15), .ref (a 17), .null, .int 0, .int 0, .int 0])), (a 2, .inr (2, [.int 0, .ref E, .int 0]))]) [0, 1] rfl
  have hDc := hD.sub (ws' := [(a 0, .inr (11, [.ref (a 1), .ref (a 2), .ref (a 3), .ref (a 4), .ref (a 5), .ref (a 10), .ref (a 15), .ref (a 17), .null, .int 0, .int 0, .int 0])), (a 2, .inr (2, [.int 0, .ref E, .int 0]))]) [0, 1] (by decide) rfl
  have hFc := va_free (wc := [(a 0, .inr (11, [.ref (a 1), .ref (a 2), .ref (a 3), .ref (a 4), .ref (a 5), .ref (a 10), .ref (a 15), .ref (a 17), .null, .int 0, .int 0, .int 0])), (a 2, .inr (2, [.int 0, .ref E, .int 0]))]) hD hS hA [0, 1] rfl
  refine vx_calli (vx_runV (As := [.int p0, .int p1]) (rest := [.int 0, .ref o]) ⟨hx, hb, hml, hown, hts⟩ (c_X8_open l hlt D dA E a p0 p1 s.heap.size ) (cwV 2 hts (ga_V q339 q340 q337 q113 q338) rfl rfl rfl (by decide +kernel) ⟨(Nat.le_of_ble_eq_true rfl), (Nat.le_of_ble_eq_true rfl)⟩) ⟨pb_blind, va_recv hK hPc (ci := 11) (q0 := 0) rfl rfl, pb_pre hK hPc hDc hZ hS hFc _⟩ rfl rfl hl.1 rfl (lv_room (Nat.le_of_ble_eq_true rfl)) dL_open_5 ⟨(Nat.le_of_ble_eq_true rfl), (Nat.le_of_ble_eq_true rfl)⟩) hS (fun q _ h => hFc q h) hFc (fun q _ h => hFc q h) (fun E9 ce q9 k t H1 locs ht hvm hpx hBX hz1 hk1 hS hce hcv hcl => ?_) (fun r u t H1 locs ht hvm hw hB hz1 hk1 hS => ?_)
  · obtain ⟨hP, hD⟩ := jn_drop (wr := [(o, .inl (dA 3, 1, .inr (.inl g)))]) hP hD [0, 1] [2] rfl rfl (by decide) (by decide) hk1 hFc
    generalize H1 = H at hP hS hce ⊢
    have hP : va_P D vwCl [(o, .inl (dA 3, 1, .inr (.inl g)))] H := hP
    have hD : va_D A [(o, .inl (dA 3, 1, .inr (.inl g)))] := hD
    refine vx_widen (k := 9) (n := 269) (Nat.le_of_ble_eq_true rfl) (Nat.le_of_ble_eq_true rfl) ?_
    rcases hpx with ⟨hq, rfl⟩ | ⟨hq, rfl⟩
    · subst hBX
      refine vx_catch (own := RL) (name := "java/lang/IllegalArgumentException") (E := "java/lang/IllegalArgumentException") hown [] ⟨0, 10, 13, 13⟩ [⟨0, 10, 17, 21⟩, ⟨0, 10, 21, 15⟩] htb (fun _ h9 => absurd h9 List.not_mem_nil) rfl (by decide) (hts _ q336) (va_Nw.use rfl (hZ.1.1 _ (List.mem_of_getElem? (i := 0) rfl))) hce hcv hcl ?_
      refine W.eq (g2 := F0 m 13 ls [.ref q9]) rfl ?_
      refine lv_astore (lv' := [(4, .ref q9), (0, .ref (a 0)), (1, .int p0), (2, .int p1), (3, .ref o)]) hx hb dL_open_13 hl (by decide) rfl (fun ls hl => ?_)
      refine lv_iconst (v := 1) hx hb dL_open_15 (by decide) ?_
      refine W.widen (k := 9) (n := 269) (Nat.le_of_ble_eq_true rfl) (Nat.le_of_ble_eq_true rfl) ?_
      refine vx_ret ?_
      have hP9 := hP.sub (ws' := [(o, .inl (dA 3, 1, .inr (.inl g)))]) [0] rfl
      have hD9 := hD.sub (ws' := [(o, .inl (dA 3, 1, .inr (.inl g)))]) [0] (by decide) rfl
      exact W.iret (v := 1) hx hb hr (fun t ht hW => ⟨⟨1, g, rfl, (Or.inr (Or.inl (⟨hq, rfl⟩))), ⟨by rw [ht]; exact hP9, hD9⟩⟩, hS.F ht⟩) hS.2.2 dL_open_16
    · subst hBX
      refine vx_catch (own := RL) (name := "java/lang/IndexOutOfBoundsException") (E := "java/lang/IndexOutOfBoundsException") hown [⟨0, 10, 13, 13⟩] ⟨0, 10, 17, 21⟩ [⟨0, 10, 21, 15⟩] htb (List.forall_mem_cons.mpr ⟨Or.inr ⟨by decide, "java/lang/IllegalArgumentException", hts _ q336, hZ.1.2.2.2.2.2.2 _ (List.mem_of_getElem? (i := 1) rfl)⟩, (fun _ h9 => absurd h9 List.not_mem_nil)⟩) rfl (by decide) (hts _ q341) (va_Nw.use rfl (hZ.1.1 _ (List.mem_of_getElem? (i := 3) rfl))) hce hcv hcl ?_
      refine W.eq (g2 := F0 m 17 ls [.ref q9]) rfl ?_
      refine lv_astore (lv' := [(4, .ref q9), (0, .ref (a 0)), (1, .int p0), (2, .int p1), (3, .ref o)]) hx hb dL_open_17 hl (by decide) rfl (fun ls hl => ?_)
      refine lv_iconst (v := 2) hx hb dL_open_19 (by decide) ?_
      refine W.widen (k := 9) (n := 269) (Nat.le_of_ble_eq_true rfl) (Nat.le_of_ble_eq_true rfl) ?_
      refine vx_ret ?_
      have hP9 := hP.sub (ws' := [(o, .inl (dA 3, 1, .inr (.inl g)))]) [0] rfl
      have hD9 := hD.sub (ws' := [(o, .inl (dA 3, 1, .inr (.inl g)))]) [0] (by decide) rfl
      exact W.iret (v := 2) hx hb hr (fun t ht hW => ⟨⟨2, g, rfl, (Or.inr (Or.inr (⟨hq, rfl⟩))), ⟨by rw [ht]; exact hP9, hD9⟩⟩, hS.F ht⟩) hS.2.2 dL_open_20
  · refine W.widen (k := 9) (n := 269) (Nat.le_of_ble_eq_true rfl) (Nat.le_of_ble_eq_true rfl) ?_
    obtain ⟨r1, rfl⟩ : ∃ z, z = r := ⟨_, rfl⟩
    obtain ⟨u2, rfl⟩ : ∃ z, z = u := ⟨_, rfl⟩
    have hw3 := hw
    clear hw
    obtain ⟨hP, hD⟩ := jn_drop (wr := [(o, .inl (dA 3, 1, .inr (.inl g)))]) hP hD [0, 1] [2] rfl rfl (by decide) (by decide) hk1 hFc
    generalize H1 = H at hP hS ⊢
    have hP : va_P D vwCl [(o, .inl (dA 3, 1, .inr (.inl g)))] H := hP
    have hD : va_D A [(o, .inl (dA 3, 1, .inr (.inl g)))] := hD
    obtain ⟨hq, hw9⟩ := hw3
    obtain rfl : r1 = 0 := hw9
    refine lv_i2l (v := 0) hx hb dL_open_8 (by decide) ?_
    refine va_last hx hb hK hP hD hS 0 3 rfl rfl (vi_c (by decide)) dL_open_9 (fun H locs hP hD hS => ?_)
    have hP : va_P D vwCl [(o, .inl (dA 3, 1, .inr (.inl (vp_updL g (0 : Int32).toNatClampNeg 0))))] H := hP
    have hD : va_D A [(o, .inl (dA 3, 1, .inr (.inl (vp_updL g (0 : Int32).toNatClampNeg 0))))] := hD
    refine lv_goto (tgt := 25) hx hb dL_open_10 (by decide) ?_
    refine lv_iconst (v := 0) hx hb dL_open_25 (by decide) ?_
    refine W.widen (k := 9) (n := 269) (Nat.le_of_ble_eq_true rfl) (Nat.le_of_ble_eq_true rfl) ?_
    refine vx_ret ?_
    have hP9 := hP.sub (ws' := [(o, .inl (dA 3, 1, .inr (.inl (vp_updL g (0 : Int32).toNatClampNeg 0))))]) [0] rfl
    have hD9 := hD.sub (ws' := [(o, .inl (dA 3, 1, .inr (.inl (vp_updL g (0 : Int32).toNatClampNeg 0))))]) [0] (by decide) rfl
    exact W.iret (v := 0) hx hb hr (fun t ht hW => ⟨⟨0, (vp_updL g (0 : Int32).toNatClampNeg 0), rfl, (Or.inl (⟨hq, rfl, rfl⟩)), ⟨by rw [ht]; exact hP9, hD9⟩⟩, hS.F ht⟩) hS.2.2 dL_open_26

set_option maxHeartbeats 4000000 in
set_option maxRecDepth 100000 in
theorem c_L_addWord (l : Launch) (hlt : l.stackTraces = false) (D : va_G) (dA : Nat → ClassId) (E : Nat) (a : Nat → Nat) (o : Nat) (g : Nat → Int64) (p0 : Int32) (sz : Nat)  : vx_Met l yL_addWord (wq (.codeWith yL_addWord cL_addWord 4 (some .int) [(0, 9, 12, 13), (0, 9, 15, 15)])) { frames := 7, cells := 1, slots := 6, locals := 105 } (va_Pc [.ref (a 0), .int p0, .ref o] (PcB D dA E [(a 0, .inr (11, [.ref (a 1), .ref (a 2), .ref (a 3), .ref (a 4), .ref (a 5), .ref (a 10), .ref (a 15), .ref (a 17), .null, .int 0, .int 0, .int 0])), (o, .inl (dA 3, 1, .inr (.inl g)))] sz)) (va_Qi (fun (r : Int32) (u : Nat → Int64) => ((okW p0 = false) ∧ r = 1) ∨ ((okW p0 = true) ∧ r = 2)) (fun u t => va_P D vwCl [(o, .inl (dA 3, 1, .inr (.inl u)))] t.heap ∧ va_D (va_A [(a 0, .inr (11, [.ref (a 1), .ref (a 2), .ref (a 3), .ref (a 4), .ref (a 5), .ref (a 10), .ref (a 15), .ref (a 17), .null, .int 0, .int 0, .int 0])), (o, .inl (dA 3, 1, .inr (.inl g)))] sz) [(o, .inl (dA 3, 1, .inr (.inl u)))]) (va_A [(a 0, .inr (11, [.ref (a 1), .ref (a 2), .ref (a 3), .ref (a 4), .ref (a 5), .ref (a 10), .ref (a 15), .ref (a 17), .null, .int 0, .int 0, .int 0])), (o, .inl (dA 3, 1, .inr (.inl g)))] sz)) (vx_X (fun (k : Nat) => False) (fun E9 k t => E9 = xN k) (va_A [(a 0, .inr (11, [.ref (a 1), .ref (a 2), .ref (a 3), .ref (a 4), .ref (a 5), .ref (a 10), .ref (a 15), .ref (a 17), .null, .int 0, .int 0, .int 0])), (o, .inl (dA 3, 1, .inr (.inl g)))] sz)) 1 6 (va_A [(a 0, .inr (11, [.ref (a 1), .ref (a 2), .ref (a 3), .ref (a 4), .ref (a 5), .ref (a 10), .ref (a 15), .ref (a 17), .null, .int 0, .int 0, .int 0])), (o, .inl (dA 3, 1, .inr (.inl g)))] sz) := by
  refine mh_of (y := yL_addWord) (av := [.ref (a 0), .int p0, .ref o]) (maxL := 4) (Qc := fun A => va_Qi (fun (r : Int32) (u : Nat → Int64) => ((okW p0 = false) ∧ r = 1) ∨ ((okW p0 = true) ∧ r = 2)) (fun u t => va_P D vwCl [(o, .inl (dA 3, 1, .inr (.inl u)))] t.heap ∧ va_D A [(o, .inl (dA 3, 1, .inr (.inl u)))]) A) (XC := fun A => vx_X (fun (k : Nat) => False) (fun E9 k t => E9 = xN k) A) RL rfl (by decide) (Nat.le_of_ble_eq_true rfl) ?_
  intro p e s m args below meth c hae hx hb hr hts hown hlocks hml hnm htb hP hK A hAe hD hZ hS hA ls hl
  have hl : lv_has ls 4 [(0, .ref (a 0)), (1, .int p0), (2, .ref o)] := hl
  refine lv_aload_n hx hb dL_addWord_0 rfl (lv_at hl 2 rfl) ?_
  refine lv_iconst (v := 0) hx hb dL_addWord_1 (by decide) ?_
  refine lv_aload_n hx hb dL_addWord_2 rfl (lv_at hl 0 rfl) ?_
  refine lv_iload_n hx hb dL_addWord_3 rfl (lv_at hl 1 rfl) ?_
  have hPc := hP.sub (ws' := [(a 0, .inr (11, [.ref (a 1), .ref (a 2), .ref (a 3), .ref (a 4), .ref (a 5), .ref (a 10), .ref (a 15), .ref (a 17), .null, .int 0, .int 0, .int 0]))]) [0] rfl
  have hDc := hD.sub (ws' := [(a 0, .inr (11, [.ref (a 1), .ref (a 2), .ref (a 3), .ref (a 4), .ref (a 5), .ref (a 10), .ref (a 15), .ref (a 17), .null, .int 0, .int 0, .int 0]))]) [0] (by decide) rfl
  have hFc := va_free (wc := [(a 0, .inr (11, [.ref (a 1), .ref (a 2), .ref (a 3), .ref (a 4), .ref (a 5), .ref (a 10), .ref (a 15), .ref (a 17), .null, .int 0, .int 0, .int 0]))]) hD hS hA [0] rfl
  refine vx_calli (vx_runV (As := [.int p0]) (rest := [.int 0, .ref o]) ⟨hx, hb, hml, hown, hts⟩ (c_X8_addWord l hlt D dA E a p0 s.heap.size ) (cwV 1 hts (ga_V q344 q345 q342 q113 q343) rfl rfl rfl (by decide +kernel) ⟨(Nat.le_of_ble_eq_true rfl), (Nat.le_of_ble_eq_true rfl)⟩) ⟨pb_blind, va_recv hK hPc (ci := 11) (q0 := 0) rfl rfl, pb_pre hK hPc hDc hZ hS hFc _⟩ rfl rfl hl.1 rfl (lv_room (Nat.le_of_ble_eq_true rfl)) dL_addWord_4 ⟨(Nat.le_of_ble_eq_true rfl), (Nat.le_of_ble_eq_true rfl)⟩) hS (fun q _ h => hFc q h) hFc (fun q _ h => hFc q h) (fun E9 ce q9 k t H1 locs ht hvm hpx hBX hz1 hk1 hS hce hcv hcl => ?_) (fun r u t H1 locs ht hvm hw hB hz1 hk1 hS => ?_)
  · obtain ⟨hP, hD⟩ := jn_drop (wr := [(o, .inl (dA 3, 1, .inr (.inl g)))]) hP hD [0] [1] rfl rfl (by decide) (by decide) hk1 hFc
    generalize H1 = H at hP hS hce ⊢
    have hP : va_P D vwCl [(o, .inl (dA 3, 1, .inr (.inl g)))] H := hP
    have hD : va_D A [(o, .inl (dA 3, 1, .inr (.inl g)))] := hD
    refine vx_widen (k := 1) (n := 6) (Nat.le_of_ble_eq_true rfl) (Nat.le_of_ble_eq_true rfl) ?_
    rcases hpx with ⟨hq, rfl⟩ | ⟨hq, rfl⟩
    · subst hBX
      refine vx_catch (own := RL) (name := "java/lang/IllegalArgumentException") (E := "java/lang/IllegalArgumentException") hown [] ⟨0, 9, 12, 13⟩ [⟨0, 9, 15, 15⟩] htb (fun _ h9 => absurd h9 List.not_mem_nil) rfl (by decide) (hts _ q336) (va_Nw.use rfl (hZ.1.1 _ (List.mem_of_getElem? (i := 0) rfl))) hce hcv hcl ?_
      refine W.eq (g2 := F0 m 12 ls [.ref q9]) rfl ?_
      refine lv_astore_n (lv' := [(3, .ref q9), (0, .ref (a 0)), (1, .int p0), (2, .ref o)]) hx hb dL_addWord_12 rfl hl (by decide) rfl (fun ls hl => ?_)
      refine lv_iconst (v := 1) hx hb dL_addWord_13 (by decide) ?_
      refine W.widen (k := 1) (n := 6) (Nat.le_of_ble_eq_true rfl) (Nat.le_of_ble_eq_true rfl) ?_
      refine vx_ret ?_
      have hP9 := hP.sub (ws' := [(o, .inl (dA 3, 1, .inr (.inl g)))]) [0] rfl
      have hD9 := hD.sub (ws' := [(o, .inl (dA 3, 1, .inr (.inl g)))]) [0] (by decide) rfl
      exact W.iret (v := 1) hx hb hr (fun t ht hW => ⟨⟨1, g, rfl, (Or.inl (⟨hq, rfl⟩)), ⟨by rw [ht]; exact hP9, hD9⟩⟩, hS.F ht⟩) hS.2.2 dL_addWord_14
    · subst hBX
      refine vx_catch (own := RL) (name := "java/lang/IllegalStateException") (E := "java/lang/IllegalStateException") hown [⟨0, 9, 12, 13⟩] ⟨0, 9, 15, 15⟩ [] htb (List.forall_mem_cons.mpr ⟨Or.inr ⟨by decide, "java/lang/IllegalArgumentException", hts _ q336, hZ.1.2.2.2.2.2.2 _ (List.mem_of_getElem? (i := 0) rfl)⟩, (fun _ h9 => absurd h9 List.not_mem_nil)⟩) rfl (by decide) (hts _ q346) (va_Nw.use rfl (hZ.1.1 _ (List.mem_of_getElem? (i := 1) rfl))) hce hcv hcl ?_
      refine W.eq (g2 := F0 m 15 ls [.ref q9]) rfl ?_
      refine lv_astore_n (lv' := [(3, .ref q9), (0, .ref (a 0)), (1, .int p0), (2, .ref o)]) hx hb dL_addWord_15 rfl hl (by decide) rfl (fun ls hl => ?_)
      refine lv_iconst (v := 2) hx hb dL_addWord_16 (by decide) ?_
      refine W.widen (k := 1) (n := 6) (Nat.le_of_ble_eq_true rfl) (Nat.le_of_ble_eq_true rfl) ?_
      refine vx_ret ?_
      have hP9 := hP.sub (ws' := [(o, .inl (dA 3, 1, .inr (.inl g)))]) [0] rfl
      have hD9 := hD.sub (ws' := [(o, .inl (dA 3, 1, .inr (.inl g)))]) [0] (by decide) rfl
      exact W.iret (v := 2) hx hb hr (fun t ht hW => ⟨⟨2, g, rfl, (Or.inr (⟨hq, rfl⟩)), ⟨by rw [ht]; exact hP9, hD9⟩⟩, hS.F ht⟩) hS.2.2 dL_addWord_17
  · exact hw.elim

set_option maxHeartbeats 4000000 in
set_option maxRecDepth 100000 in
theorem c_L_close (l : Launch) (hlt : l.stackTraces = false) (D : va_G) (dA : Nat → ClassId) (E : Nat) (a : Nat → Nat) (o : Nat) (g : Nat → Int64) (sz : Nat)  : vx_Met l yL_close (wq (.codeWith yL_close cL_close 3 (some .int) [(0, 8, 11, 15)])) { frames := 7, cells := 1, slots := 6, locals := 104 } (va_Pc [.ref (a 0), .ref o] (PcB D dA E [(a 0, .inr (11, [.ref (a 1), .ref (a 2), .ref (a 3), .ref (a 4), .ref (a 5), .ref (a 10), .ref (a 15), .ref (a 17), .null, .int 0, .int 0, .int 0])), (o, .inl (dA 3, 1, .inr (.inl g)))] sz)) (va_Qi (fun (r : Int32) (u : Nat → Int64) => r = 1) (fun u t => va_P D vwCl [(o, .inl (dA 3, 1, .inr (.inl u)))] t.heap ∧ va_D (va_A [(a 0, .inr (11, [.ref (a 1), .ref (a 2), .ref (a 3), .ref (a 4), .ref (a 5), .ref (a 10), .ref (a 15), .ref (a 17), .null, .int 0, .int 0, .int 0])), (o, .inl (dA 3, 1, .inr (.inl g)))] sz) [(o, .inl (dA 3, 1, .inr (.inl u)))]) (va_A [(a 0, .inr (11, [.ref (a 1), .ref (a 2), .ref (a 3), .ref (a 4), .ref (a 5), .ref (a 10), .ref (a 15), .ref (a 17), .null, .int 0, .int 0, .int 0])), (o, .inl (dA 3, 1, .inr (.inl g)))] sz)) (vx_X (fun (k : Nat) => False) (fun E9 k t => E9 = xN k) (va_A [(a 0, .inr (11, [.ref (a 1), .ref (a 2), .ref (a 3), .ref (a 4), .ref (a 5), .ref (a 10), .ref (a 15), .ref (a 17), .null, .int 0, .int 0, .int 0])), (o, .inl (dA 3, 1, .inr (.inl g)))] sz)) 1 6 (va_A [(a 0, .inr (11, [.ref (a 1), .ref (a 2), .ref (a 3), .ref (a 4), .ref (a 5), .ref (a 10), .ref (a 15), .ref (a 17), .null, .int 0, .int 0, .int 0])), (o, .inl (dA 3, 1, .inr (.inl g)))] sz) := by
  refine mh_of (y := yL_close) (av := [.ref (a 0), .ref o]) (maxL := 3) (Qc := fun A => va_Qi (fun (r : Int32) (u : Nat → Int64) => r = 1) (fun u t => va_P D vwCl [(o, .inl (dA 3, 1, .inr (.inl u)))] t.heap ∧ va_D A [(o, .inl (dA 3, 1, .inr (.inl u)))]) A) (XC := fun A => vx_X (fun (k : Nat) => False) (fun E9 k t => E9 = xN k) A) RL rfl (by decide) (Nat.le_of_ble_eq_true rfl) ?_
  intro p e s m args below meth c hae hx hb hr hts hown hlocks hml hnm htb hP hK A hAe hD hZ hS hA ls hl
  have hl : lv_has ls 3 [(0, .ref (a 0)), (1, .ref o)] := hl
  refine lv_aload_n hx hb dL_close_0 rfl (lv_at hl 1 rfl) ?_
  refine lv_iconst (v := 0) hx hb dL_close_1 (by decide) ?_
  refine lv_aload_n hx hb dL_close_2 rfl (lv_at hl 0 rfl) ?_
  have hPc := hP.sub (ws' := [(a 0, .inr (11, [.ref (a 1), .ref (a 2), .ref (a 3), .ref (a 4), .ref (a 5), .ref (a 10), .ref (a 15), .ref (a 17), .null, .int 0, .int 0, .int 0]))]) [0] rfl
  have hDc := hD.sub (ws' := [(a 0, .inr (11, [.ref (a 1), .ref (a 2), .ref (a 3), .ref (a 4), .ref (a 5), .ref (a 10), .ref (a 15), .ref (a 17), .null, .int 0, .int 0, .int 0]))]) [0] (by decide) rfl
  have hFc := va_free (wc := [(a 0, .inr (11, [.ref (a 1), .ref (a 2), .ref (a 3), .ref (a 4), .ref (a 5), .ref (a 10), .ref (a 15), .ref (a 17), .null, .int 0, .int 0, .int 0]))]) hD hS hA [0] rfl
  refine vx_calli (vx_runV (As := []) (rest := [.int 0, .ref o]) ⟨hx, hb, hml, hown, hts⟩ (c_X8_close l hlt D dA E a  s.heap.size ) (cwV 0 hts (ga_V q349 q350 q347 q113 q348) rfl rfl rfl (by decide +kernel) ⟨(Nat.le_of_ble_eq_true rfl), (Nat.le_of_ble_eq_true rfl)⟩) ⟨pb_blind, va_recv hK hPc (ci := 11) (q0 := 0) rfl rfl, pb_pre hK hPc hDc hZ hS hFc _⟩ rfl rfl hl.1 rfl (lv_room (Nat.le_of_ble_eq_true rfl)) dL_close_3 ⟨(Nat.le_of_ble_eq_true rfl), (Nat.le_of_ble_eq_true rfl)⟩) hS (fun q _ h => hFc q h) hFc (fun q _ h => hFc q h) (fun E9 ce q9 k t H1 locs ht hvm hpx hBX hz1 hk1 hS hce hcv hcl => ?_) (fun r u t H1 locs ht hvm hw hB hz1 hk1 hS => ?_)
  · obtain ⟨hP, hD⟩ := jn_drop (wr := [(o, .inl (dA 3, 1, .inr (.inl g)))]) hP hD [0] [1] rfl rfl (by decide) (by decide) hk1 hFc
    generalize H1 = H at hP hS hce ⊢
    have hP : va_P D vwCl [(o, .inl (dA 3, 1, .inr (.inl g)))] H := hP
    have hD : va_D A [(o, .inl (dA 3, 1, .inr (.inl g)))] := hD
    refine vx_widen (k := 1) (n := 6) (Nat.le_of_ble_eq_true rfl) (Nat.le_of_ble_eq_true rfl) ?_
    subst hpx
    subst hBX
    refine vx_catch (own := RL) (name := "java/lang/IllegalStateException") (E := "java/lang/IllegalStateException") hown [] ⟨0, 8, 11, 15⟩ [] htb (fun _ h9 => absurd h9 List.not_mem_nil) rfl (by decide) (hts _ q346) (va_Nw.use rfl (hZ.1.1 _ (List.mem_of_getElem? (i := 1) rfl))) hce hcv hcl ?_
    refine W.eq (g2 := F0 m 11 ls [.ref q9]) rfl ?_
    refine lv_astore_n (lv' := [(2, .ref q9), (0, .ref (a 0)), (1, .ref o)]) hx hb dL_close_11 rfl hl (by decide) rfl (fun ls hl => ?_)
    refine lv_iconst (v := 1) hx hb dL_close_12 (by decide) ?_
    refine W.widen (k := 1) (n := 6) (Nat.le_of_ble_eq_true rfl) (Nat.le_of_ble_eq_true rfl) ?_
    refine vx_ret ?_
    have hP9 := hP.sub (ws' := [(o, .inl (dA 3, 1, .inr (.inl g)))]) [0] rfl
    have hD9 := hD.sub (ws' := [(o, .inl (dA 3, 1, .inr (.inl g)))]) [0] (by decide) rfl
    exact W.iret (v := 1) hx hb hr (fun t ht hW => ⟨⟨1, g, rfl, (rfl), ⟨by rw [ht]; exact hP9, hD9⟩⟩, hS.F ht⟩) hS.2.2 dL_close_13
  · exact hw.elim

set_option maxHeartbeats 4000000 in
set_option maxRecDepth 100000 in
theorem c_L_remove (l : Launch) (hlt : l.stackTraces = false) (D : va_G) (dA : Nat → ClassId) (E : Nat) (a : Nat → Nat) (o : Nat) (g : Nat → Int64) (p0 : Int32) (sz : Nat)  : vx_Met l yL_remove (wq (.codeWith yL_remove cL_remove 4 (some .int) [(0, 9, 12, 21), (0, 9, 15, 15)])) { frames := 8, cells := 1, slots := 6, locals := 125 } (va_Pc [.ref (a 0), .int p0, .ref o] (PcB D dA E [(a 0, .inr (11, [.ref (a 1), .ref (a 2), .ref (a 3), .ref (a 4), .ref (a 5), .ref (a 10), .ref (a 15), .ref (a 17), .null, .int 0, .int 0, .int 0])), (a 2, .inr (2, [.int 0, .ref E, .int 0])), (o, .inl (dA 3, 1, .inr (.inl g)))] sz)) (va_Qi (fun (r : Int32) (u : Nat → Int64) => r = 1) (fun u t => va_P D vwCl [(o, .inl (dA 3, 1, .inr (.inl u)))] t.heap ∧ va_D (va_A [(a 0, .inr (11, [.ref (a 1), .ref (a 2), .ref (a 3), .ref (a 4), .ref (a 5), .ref (a 10), .ref (a 15), .ref (a 17), .null, .int 0, .int 0, .int 0])), (a 2, .inr (2, [.int 0, .ref E, .int 0])), (o, .inl (dA 3, 1, .inr (.inl g)))] sz) [(o, .inl (dA 3, 1, .inr (.inl u)))]) (va_A [(a 0, .inr (11, [.ref (a 1), .ref (a 2), .ref (a 3), .ref (a 4), .ref (a 5), .ref (a 10), .ref (a 15), .ref (a 17), .null, .int 0, .int 0, .int 0])), (a 2, .inr (2, [.int 0, .ref E, .int 0])), (o, .inl (dA 3, 1, .inr (.inl g)))] sz)) (vx_X (fun (k : Nat) => False) (fun E9 k t => E9 = xN k) (va_A [(a 0, .inr (11, [.ref (a 1), .ref (a 2), .ref (a 3), .ref (a 4), .ref (a 5), .ref (a 10), .ref (a 15), .ref (a 17), .null, .int 0, .int 0, .int 0])), (a 2, .inr (2, [.int 0, .ref E, .int 0])), (o, .inl (dA 3, 1, .inr (.inl g)))] sz)) 1 6 (va_A [(a 0, .inr (11, [.ref (a 1), .ref (a 2), .ref (a 3), .ref (a 4), .ref (a 5), .ref (a 10), .ref (a 15), .ref (a 17), .null, .int 0, .int 0, .int 0])), (a 2, .inr (2, [.int 0, .ref E, .int 0])), (o, .inl (dA 3, 1, .inr (.inl g)))] sz) := by
  refine mh_of (y := yL_remove) (av := [.ref (a 0), .int p0, .ref o]) (maxL := 4) (Qc := fun A => va_Qi (fun (r : Int32) (u : Nat → Int64) => r = 1) (fun u t => va_P D vwCl [(o, .inl (dA 3, 1, .inr (.inl u)))] t.heap ∧ va_D A [(o, .inl (dA 3, 1, .inr (.inl u)))]) A) (XC := fun A => vx_X (fun (k : Nat) => False) (fun E9 k t => E9 = xN k) A) RL rfl (by decide) (Nat.le_of_ble_eq_true rfl) ?_
  intro p e s m args below meth c hae hx hb hr hts hown hlocks hml hnm htb hP hK A hAe hD hZ hS hA ls hl
  have hl : lv_has ls 4 [(0, .ref (a 0)), (1, .int p0), (2, .ref o)] := hl
  refine lv_aload_n hx hb dL_remove_0 rfl (lv_at hl 2 rfl) ?_
  refine lv_iconst (v := 0) hx hb dL_remove_1 (by decide) ?_
  refine lv_aload_n hx hb dL_remove_2 rfl (lv_at hl 0 rfl) ?_
  refine lv_iload_n hx hb dL_remove_3 rfl (lv_at hl 1 rfl) ?_
  have hPc := hP.sub (ws' := [(a 0, .inr (11, [.ref (a 1), .ref (a 2), .ref (a 3), .ref (a 4), .ref (a 5), .ref (a 10), .ref (a 15), .ref (a 17), .null, .int 0, .int 0, .int 0])), (a 2, .inr (2, [.int 0, .ref E, .int 0]))]) [0, 1] rfl
  have hDc := hD.sub (ws' := [(a 0, .inr (11, [.ref (a 1), .ref (a 2), .ref (a 3), .ref (a 4), .ref (a 5), .ref (a 10), .ref (a 15), .ref (a 17), .null, .int 0, .int 0, .int 0])), (a 2, .inr (2, [.int 0, .ref E, .int 0]))]) [0, 1] (by decide) rfl
  have hFc := va_free (wc := [(a 0, .inr (11, [.ref (a 1), .ref (a 2), .ref (a 3), .ref (a 4), .ref (a 5), .ref (a 10), .ref (a 15), .ref (a 17), .null, .int 0, .int 0, .int 0])), (a 2, .inr (2, [.int 0, .ref E, .int 0]))]) hD hS hA [0, 1] rfl
  refine vx_calli (vx_runV (As := [.int p0]) (rest := [.int 0, .ref o]) ⟨hx, hb, hml, hown, hts⟩ (c_X8_remove l hlt D dA E a p0 s.heap.size ) (cwV 1 hts (ga_V q353 q354 q351 q113 q352) rfl rfl rfl (by decide +kernel) ⟨(Nat.le_of_ble_eq_true rfl), (Nat.le_of_ble_eq_true rfl)⟩) ⟨pb_blind, va_recv hK hPc (ci := 11) (q0 := 0) rfl rfl, pb_pre hK hPc hDc hZ hS hFc _⟩ rfl rfl hl.1 rfl (lv_room (Nat.le_of_ble_eq_true rfl)) dL_remove_4 ⟨(Nat.le_of_ble_eq_true rfl), (Nat.le_of_ble_eq_true rfl)⟩) hS (fun q _ h => hFc q h) hFc (fun q _ h => hFc q h) (fun E9 ce q9 k t H1 locs ht hvm hpx hBX hz1 hk1 hS hce hcv hcl => ?_) (fun r u t H1 locs ht hvm hw hB hz1 hk1 hS => ?_)
  · obtain ⟨hP, hD⟩ := jn_drop (wr := [(o, .inl (dA 3, 1, .inr (.inl g)))]) hP hD [0, 1] [2] rfl rfl (by decide) (by decide) hk1 hFc
    generalize H1 = H at hP hS hce ⊢
    have hP : va_P D vwCl [(o, .inl (dA 3, 1, .inr (.inl g)))] H := hP
    have hD : va_D A [(o, .inl (dA 3, 1, .inr (.inl g)))] := hD
    refine vx_widen (k := 1) (n := 6) (Nat.le_of_ble_eq_true rfl) (Nat.le_of_ble_eq_true rfl) ?_
    subst hpx
    subst hBX
    refine vx_catch (own := RL) (name := "java/lang/IndexOutOfBoundsException") (E := "java/lang/IndexOutOfBoundsException") hown [] ⟨0, 9, 12, 21⟩ [⟨0, 9, 15, 15⟩] htb (fun _ h9 => absurd h9 List.not_mem_nil) rfl (by decide) (hts _ q341) (va_Nw.use rfl (hZ.1.1 _ (List.mem_of_getElem? (i := 3) rfl))) hce hcv hcl ?_
    refine W.eq (g2 := F0 m 12 ls [.ref q9]) rfl ?_
    refine lv_astore_n (lv' := [(3, .ref q9), (0, .ref (a 0)), (1, .int p0), (2, .ref o)]) hx hb dL_remove_12 rfl hl (by decide) rfl (fun ls hl => ?_)
    refine lv_iconst (v := 1) hx hb dL_remove_13 (by decide) ?_
    refine W.widen (k := 1) (n := 6) (Nat.le_of_ble_eq_true rfl) (Nat.le_of_ble_eq_true rfl) ?_
    refine vx_ret ?_
    have hP9 := hP.sub (ws' := [(o, .inl (dA 3, 1, .inr (.inl g)))]) [0] rfl
    have hD9 := hD.sub (ws' := [(o, .inl (dA 3, 1, .inr (.inl g)))]) [0] (by decide) rfl
    exact W.iret (v := 1) hx hb hr (fun t ht hW => ⟨⟨1, g, rfl, (rfl), ⟨by rw [ht]; exact hP9, hD9⟩⟩, hS.F ht⟩) hS.2.2 dL_remove_14
  · exact hw.elim

set_option maxHeartbeats 4000000 in
set_option maxRecDepth 100000 in
theorem c_L_state (l : Launch) (hlt : l.stackTraces = false) (D : va_G) (dA : Nat → ClassId) (E : Nat) (a : Nat → Nat) (o : Nat) (g : Nat → Int64) (p0 : Int32) (sz : Nat)  : vx_Met l yL_state (wq (.codeWith yL_state cL_state 4 (some .int) [(0, 9, 12, 21)])) { frames := 8, cells := 1, slots := 6, locals := 124 } (va_Pc [.ref (a 0), .int p0, .ref o] (PcB D dA E [(a 0, .inr (11, [.ref (a 1), .ref (a 2), .ref (a 3), .ref (a 4), .ref (a 5), .ref (a 10), .ref (a 15), .ref (a 17), .null, .int 0, .int 0, .int 0])), (a 2, .inr (2, [.int 0, .ref E, .int 0])), (o, .inl (dA 3, 1, .inr (.inl g)))] sz)) (va_Qi (fun (r : Int32) (u : Nat → Int64) => r = 1) (fun u t => va_P D vwCl [(o, .inl (dA 3, 1, .inr (.inl u)))] t.heap ∧ va_D (va_A [(a 0, .inr (11, [.ref (a 1), .ref (a 2), .ref (a 3), .ref (a 4), .ref (a 5), .ref (a 10), .ref (a 15), .ref (a 17), .null, .int 0, .int 0, .int 0])), (a 2, .inr (2, [.int 0, .ref E, .int 0])), (o, .inl (dA 3, 1, .inr (.inl g)))] sz) [(o, .inl (dA 3, 1, .inr (.inl u)))]) (va_A [(a 0, .inr (11, [.ref (a 1), .ref (a 2), .ref (a 3), .ref (a 4), .ref (a 5), .ref (a 10), .ref (a 15), .ref (a 17), .null, .int 0, .int 0, .int 0])), (a 2, .inr (2, [.int 0, .ref E, .int 0])), (o, .inl (dA 3, 1, .inr (.inl g)))] sz)) (vx_X (fun (k : Nat) => False) (fun E9 k t => E9 = xN k) (va_A [(a 0, .inr (11, [.ref (a 1), .ref (a 2), .ref (a 3), .ref (a 4), .ref (a 5), .ref (a 10), .ref (a 15), .ref (a 17), .null, .int 0, .int 0, .int 0])), (a 2, .inr (2, [.int 0, .ref E, .int 0])), (o, .inl (dA 3, 1, .inr (.inl g)))] sz)) 1 6 (va_A [(a 0, .inr (11, [.ref (a 1), .ref (a 2), .ref (a 3), .ref (a 4), .ref (a 5), .ref (a 10), .ref (a 15), .ref (a 17), .null, .int 0, .int 0, .int 0])), (a 2, .inr (2, [.int 0, .ref E, .int 0])), (o, .inl (dA 3, 1, .inr (.inl g)))] sz) := by
  refine mh_of (y := yL_state) (av := [.ref (a 0), .int p0, .ref o]) (maxL := 4) (Qc := fun A => va_Qi (fun (r : Int32) (u : Nat → Int64) => r = 1) (fun u t => va_P D vwCl [(o, .inl (dA 3, 1, .inr (.inl u)))] t.heap ∧ va_D A [(o, .inl (dA 3, 1, .inr (.inl u)))]) A) (XC := fun A => vx_X (fun (k : Nat) => False) (fun E9 k t => E9 = xN k) A) RL rfl (by decide) (Nat.le_of_ble_eq_true rfl) ?_
  intro p e s m args below meth c hae hx hb hr hts hown hlocks hml hnm htb hP hK A hAe hD hZ hS hA ls hl
  have hl : lv_has ls 4 [(0, .ref (a 0)), (1, .int p0), (2, .ref o)] := hl
  refine lv_aload_n hx hb dL_state_0 rfl (lv_at hl 2 rfl) ?_
  refine lv_iconst (v := 0) hx hb dL_state_1 (by decide) ?_
  refine lv_aload_n hx hb dL_state_2 rfl (lv_at hl 0 rfl) ?_
  refine lv_iload_n hx hb dL_state_3 rfl (lv_at hl 1 rfl) ?_
  have hPc := hP.sub (ws' := [(a 0, .inr (11, [.ref (a 1), .ref (a 2), .ref (a 3), .ref (a 4), .ref (a 5), .ref (a 10), .ref (a 15), .ref (a 17), .null, .int 0, .int 0, .int 0])), (a 2, .inr (2, [.int 0, .ref E, .int 0]))]) [0, 1] rfl
  have hDc := hD.sub (ws' := [(a 0, .inr (11, [.ref (a 1), .ref (a 2), .ref (a 3), .ref (a 4), .ref (a 5), .ref (a 10), .ref (a 15), .ref (a 17), .null, .int 0, .int 0, .int 0])), (a 2, .inr (2, [.int 0, .ref E, .int 0]))]) [0, 1] (by decide) rfl
  have hFc := va_free (wc := [(a 0, .inr (11, [.ref (a 1), .ref (a 2), .ref (a 3), .ref (a 4), .ref (a 5), .ref (a 10), .ref (a 15), .ref (a 17), .null, .int 0, .int 0, .int 0])), (a 2, .inr (2, [.int 0, .ref E, .int 0]))]) hD hS hA [0, 1] rfl
  refine vx_calli (vx_runV (As := [.int p0]) (rest := [.int 0, .ref o]) ⟨hx, hb, hml, hown, hts⟩ (c_X8_state l hlt D dA E a p0 s.heap.size ) (cwV 1 hts (ga_V q357 q358 q355 q113 q356) rfl rfl rfl (by decide +kernel) ⟨(Nat.le_of_ble_eq_true rfl), (Nat.le_of_ble_eq_true rfl)⟩) ⟨pb_blind, va_recv hK hPc (ci := 11) (q0 := 0) rfl rfl, pb_pre hK hPc hDc hZ hS hFc _⟩ rfl rfl hl.1 rfl (lv_room (Nat.le_of_ble_eq_true rfl)) dL_state_4 ⟨(Nat.le_of_ble_eq_true rfl), (Nat.le_of_ble_eq_true rfl)⟩) hS (fun q _ h => hFc q h) hFc (fun q _ h => hFc q h) (fun E9 ce q9 k t H1 locs ht hvm hpx hBX hz1 hk1 hS hce hcv hcl => ?_) (fun r u t H1 locs ht hvm hw hB hz1 hk1 hS => ?_)
  · obtain ⟨hP, hD⟩ := jn_drop (wr := [(o, .inl (dA 3, 1, .inr (.inl g)))]) hP hD [0, 1] [2] rfl rfl (by decide) (by decide) hk1 hFc
    generalize H1 = H at hP hS hce ⊢
    have hP : va_P D vwCl [(o, .inl (dA 3, 1, .inr (.inl g)))] H := hP
    have hD : va_D A [(o, .inl (dA 3, 1, .inr (.inl g)))] := hD
    refine vx_widen (k := 1) (n := 6) (Nat.le_of_ble_eq_true rfl) (Nat.le_of_ble_eq_true rfl) ?_
    subst hpx
    subst hBX
    refine vx_catch (own := RL) (name := "java/lang/IndexOutOfBoundsException") (E := "java/lang/IndexOutOfBoundsException") hown [] ⟨0, 9, 12, 21⟩ [] htb (fun _ h9 => absurd h9 List.not_mem_nil) rfl (by decide) (hts _ q341) (va_Nw.use rfl (hZ.1.1 _ (List.mem_of_getElem? (i := 3) rfl))) hce hcv hcl ?_
    refine W.eq (g2 := F0 m 12 ls [.ref q9]) rfl ?_
    refine lv_astore_n (lv' := [(3, .ref q9), (0, .ref (a 0)), (1, .int p0), (2, .ref o)]) hx hb dL_state_12 rfl hl (by decide) rfl (fun ls hl => ?_)
    refine lv_iconst (v := 1) hx hb dL_state_13 (by decide) ?_
    refine W.widen (k := 1) (n := 6) (Nat.le_of_ble_eq_true rfl) (Nat.le_of_ble_eq_true rfl) ?_
    refine vx_ret ?_
    have hP9 := hP.sub (ws' := [(o, .inl (dA 3, 1, .inr (.inl g)))]) [0] rfl
    have hD9 := hD.sub (ws' := [(o, .inl (dA 3, 1, .inr (.inl g)))]) [0] (by decide) rfl
    exact W.iret (v := 1) hx hb hr (fun t ht hW => ⟨⟨1, g, rfl, (rfl), ⟨by rw [ht]; exact hP9, hD9⟩⟩, hS.F ht⟩) hS.2.2 dL_state_14
  · exact hw.elim

set_option maxHeartbeats 4000000 in
set_option maxRecDepth 100000 in
theorem c_L_length (l : Launch) (hlt : l.stackTraces = false) (D : va_G) (dA : Nat → ClassId) (E : Nat) (a : Nat → Nat) (o : Nat) (g : Nat → Int64) (p0 : Int32) (sz : Nat)  : vx_Met l yL_length (wq (.codeWith yL_length cL_length 4 (some .int) [(0, 9, 12, 21)])) { frames := 9, cells := 1, slots := 6, locals := 145 } (va_Pc [.ref (a 0), .int p0, .ref o] (PcB D dA E [(a 0, .inr (11, [.ref (a 1), .ref (a 2), .ref (a 3), .ref (a 4), .ref (a 5), .ref (a 10), .ref (a 15), .ref (a 17), .null, .int 0, .int 0, .int 0])), (a 2, .inr (2, [.int 0, .ref E, .int 0])), (o, .inl (dA 3, 1, .inr (.inl g)))] sz)) (va_Qi (fun (r : Int32) (u : Nat → Int64) => r = 1) (fun u t => va_P D vwCl [(o, .inl (dA 3, 1, .inr (.inl u)))] t.heap ∧ va_D (va_A [(a 0, .inr (11, [.ref (a 1), .ref (a 2), .ref (a 3), .ref (a 4), .ref (a 5), .ref (a 10), .ref (a 15), .ref (a 17), .null, .int 0, .int 0, .int 0])), (a 2, .inr (2, [.int 0, .ref E, .int 0])), (o, .inl (dA 3, 1, .inr (.inl g)))] sz) [(o, .inl (dA 3, 1, .inr (.inl u)))]) (va_A [(a 0, .inr (11, [.ref (a 1), .ref (a 2), .ref (a 3), .ref (a 4), .ref (a 5), .ref (a 10), .ref (a 15), .ref (a 17), .null, .int 0, .int 0, .int 0])), (a 2, .inr (2, [.int 0, .ref E, .int 0])), (o, .inl (dA 3, 1, .inr (.inl g)))] sz)) (vx_X (fun (k : Nat) => False) (fun E9 k t => E9 = xN k) (va_A [(a 0, .inr (11, [.ref (a 1), .ref (a 2), .ref (a 3), .ref (a 4), .ref (a 5), .ref (a 10), .ref (a 15), .ref (a 17), .null, .int 0, .int 0, .int 0])), (a 2, .inr (2, [.int 0, .ref E, .int 0])), (o, .inl (dA 3, 1, .inr (.inl g)))] sz)) 1 6 (va_A [(a 0, .inr (11, [.ref (a 1), .ref (a 2), .ref (a 3), .ref (a 4), .ref (a 5), .ref (a 10), .ref (a 15), .ref (a 17), .null, .int 0, .int 0, .int 0])), (a 2, .inr (2, [.int 0, .ref E, .int 0])), (o, .inl (dA 3, 1, .inr (.inl g)))] sz) := by
  refine mh_of (y := yL_length) (av := [.ref (a 0), .int p0, .ref o]) (maxL := 4) (Qc := fun A => va_Qi (fun (r : Int32) (u : Nat → Int64) => r = 1) (fun u t => va_P D vwCl [(o, .inl (dA 3, 1, .inr (.inl u)))] t.heap ∧ va_D A [(o, .inl (dA 3, 1, .inr (.inl u)))]) A) (XC := fun A => vx_X (fun (k : Nat) => False) (fun E9 k t => E9 = xN k) A) RL rfl (by decide) (Nat.le_of_ble_eq_true rfl) ?_
  intro p e s m args below meth c hae hx hb hr hts hown hlocks hml hnm htb hP hK A hAe hD hZ hS hA ls hl
  have hl : lv_has ls 4 [(0, .ref (a 0)), (1, .int p0), (2, .ref o)] := hl
  refine lv_aload_n hx hb dL_length_0 rfl (lv_at hl 2 rfl) ?_
  refine lv_iconst (v := 0) hx hb dL_length_1 (by decide) ?_
  refine lv_aload_n hx hb dL_length_2 rfl (lv_at hl 0 rfl) ?_
  refine lv_iload_n hx hb dL_length_3 rfl (lv_at hl 1 rfl) ?_
  have hPc := hP.sub (ws' := [(a 0, .inr (11, [.ref (a 1), .ref (a 2), .ref (a 3), .ref (a 4), .ref (a 5), .ref (a 10), .ref (a 15), .ref (a 17), .null, .int 0, .int 0, .int 0])), (a 2, .inr (2, [.int 0, .ref E, .int 0]))]) [0, 1] rfl
  have hDc := hD.sub (ws' := [(a 0, .inr (11, [.ref (a 1), .ref (a 2), .ref (a 3), .ref (a 4), .ref (a 5), .ref (a 10), .ref (a 15), .ref (a 17), .null, .int 0, .int 0, .int 0])), (a 2, .inr (2, [.int 0, .ref E, .int 0]))]) [0, 1] (by decide) rfl
  have hFc := va_free (wc := [(a 0, .inr (11, [.ref (a 1), .ref (a 2), .ref (a 3), .ref (a 4), .ref (a 5), .ref (a 10), .ref (a 15), .ref (a 17), .null, .int 0, .int 0, .int 0])), (a 2, .inr (2, [.int 0, .ref E, .int 0]))]) hD hS hA [0, 1] rfl
  refine vx_calli (vx_runV (As := [.int p0]) (rest := [.int 0, .ref o]) ⟨hx, hb, hml, hown, hts⟩ (c_X8_length l hlt D dA E a p0 s.heap.size ) (cwV 1 hts (ga_V q361 q362 q359 q113 q360) rfl rfl rfl (by decide +kernel) ⟨(Nat.le_of_ble_eq_true rfl), (Nat.le_of_ble_eq_true rfl)⟩) ⟨pb_blind, va_recv hK hPc (ci := 11) (q0 := 0) rfl rfl, pb_pre hK hPc hDc hZ hS hFc _⟩ rfl rfl hl.1 rfl (lv_room (Nat.le_of_ble_eq_true rfl)) dL_length_4 ⟨(Nat.le_of_ble_eq_true rfl), (Nat.le_of_ble_eq_true rfl)⟩) hS (fun q _ h => hFc q h) hFc (fun q _ h => hFc q h) (fun E9 ce q9 k t H1 locs ht hvm hpx hBX hz1 hk1 hS hce hcv hcl => ?_) (fun r u t H1 locs ht hvm hw hB hz1 hk1 hS => ?_)
  · obtain ⟨hP, hD⟩ := jn_drop (wr := [(o, .inl (dA 3, 1, .inr (.inl g)))]) hP hD [0, 1] [2] rfl rfl (by decide) (by decide) hk1 hFc
    generalize H1 = H at hP hS hce ⊢
    have hP : va_P D vwCl [(o, .inl (dA 3, 1, .inr (.inl g)))] H := hP
    have hD : va_D A [(o, .inl (dA 3, 1, .inr (.inl g)))] := hD
    refine vx_widen (k := 1) (n := 6) (Nat.le_of_ble_eq_true rfl) (Nat.le_of_ble_eq_true rfl) ?_
    subst hpx
    subst hBX
    refine vx_catch (own := RL) (name := "java/lang/IndexOutOfBoundsException") (E := "java/lang/IndexOutOfBoundsException") hown [] ⟨0, 9, 12, 21⟩ [] htb (fun _ h9 => absurd h9 List.not_mem_nil) rfl (by decide) (hts _ q341) (va_Nw.use rfl (hZ.1.1 _ (List.mem_of_getElem? (i := 3) rfl))) hce hcv hcl ?_
    refine W.eq (g2 := F0 m 12 ls [.ref q9]) rfl ?_
    refine lv_astore_n (lv' := [(3, .ref q9), (0, .ref (a 0)), (1, .int p0), (2, .ref o)]) hx hb dL_length_12 rfl hl (by decide) rfl (fun ls hl => ?_)
    refine lv_iconst (v := 1) hx hb dL_length_13 (by decide) ?_
    refine W.widen (k := 1) (n := 6) (Nat.le_of_ble_eq_true rfl) (Nat.le_of_ble_eq_true rfl) ?_
    refine vx_ret ?_
    have hP9 := hP.sub (ws' := [(o, .inl (dA 3, 1, .inr (.inl g)))]) [0] rfl
    have hD9 := hD.sub (ws' := [(o, .inl (dA 3, 1, .inr (.inl g)))]) [0] (by decide) rfl
    exact W.iret (v := 1) hx hb hr (fun t ht hW => ⟨⟨1, g, rfl, (rfl), ⟨by rw [ht]; exact hP9, hD9⟩⟩, hS.F ht⟩) hS.2.2 dL_length_14
  · exact hw.elim

set_option maxHeartbeats 4000000 in
set_option maxRecDepth 100000 in
theorem c_L_standing (l : Launch) (hlt : l.stackTraces = false) (D : va_G) (dA : Nat → ClassId) (E : Nat) (a : Nat → Nat) (o : Nat) (g : Nat → Int64) (p0 p1 p2 : Int32) (sz : Nat)  : vx_Met l yL_standing (wq (.codeWith yL_standing cL_standing 6 (some .int) [(0, 12, 15, 21)])) { frames := 9, cells := 1, slots := 6, locals := 147 } (va_Pc [.ref (a 0), .int p0, .int p1, .int p2, .ref o] (PcB D dA E [(a 0, .inr (11, [.ref (a 1), .ref (a 2), .ref (a 3), .ref (a 4), .ref (a 5), .ref (a 10), .ref (a 15), .ref (a 17), .null, .int 0, .int 0, .int 0])), (a 2, .inr (2, [.int 0, .ref E, .int 0])), (o, .inl (dA 3, 1, .inr (.inl g)))] sz)) (va_Qi (fun (r : Int32) (u : Nat → Int64) => r = 1) (fun u t => va_P D vwCl [(o, .inl (dA 3, 1, .inr (.inl u)))] t.heap ∧ va_D (va_A [(a 0, .inr (11, [.ref (a 1), .ref (a 2), .ref (a 3), .ref (a 4), .ref (a 5), .ref (a 10), .ref (a 15), .ref (a 17), .null, .int 0, .int 0, .int 0])), (a 2, .inr (2, [.int 0, .ref E, .int 0])), (o, .inl (dA 3, 1, .inr (.inl g)))] sz) [(o, .inl (dA 3, 1, .inr (.inl u)))]) (va_A [(a 0, .inr (11, [.ref (a 1), .ref (a 2), .ref (a 3), .ref (a 4), .ref (a 5), .ref (a 10), .ref (a 15), .ref (a 17), .null, .int 0, .int 0, .int 0])), (a 2, .inr (2, [.int 0, .ref E, .int 0])), (o, .inl (dA 3, 1, .inr (.inl g)))] sz)) (vx_X (fun (k : Nat) => False) (fun E9 k t => E9 = xN k) (va_A [(a 0, .inr (11, [.ref (a 1), .ref (a 2), .ref (a 3), .ref (a 4), .ref (a 5), .ref (a 10), .ref (a 15), .ref (a 17), .null, .int 0, .int 0, .int 0])), (a 2, .inr (2, [.int 0, .ref E, .int 0])), (o, .inl (dA 3, 1, .inr (.inl g)))] sz)) 1 6 (va_A [(a 0, .inr (11, [.ref (a 1), .ref (a 2), .ref (a 3), .ref (a 4), .ref (a 5), .ref (a 10), .ref (a 15), .ref (a 17), .null, .int 0, .int 0, .int 0])), (a 2, .inr (2, [.int 0, .ref E, .int 0])), (o, .inl (dA 3, 1, .inr (.inl g)))] sz) := by
  refine mh_of (y := yL_standing) (av := [.ref (a 0), .int p0, .int p1, .int p2, .ref o]) (maxL := 6) (Qc := fun A => va_Qi (fun (r : Int32) (u : Nat → Int64) => r = 1) (fun u t => va_P D vwCl [(o, .inl (dA 3, 1, .inr (.inl u)))] t.heap ∧ va_D A [(o, .inl (dA 3, 1, .inr (.inl u)))]) A) (XC := fun A => vx_X (fun (k : Nat) => False) (fun E9 k t => E9 = xN k) A) RL rfl (by decide) (Nat.le_of_ble_eq_true rfl) ?_
  intro p e s m args below meth c hae hx hb hr hts hown hlocks hml hnm htb hP hK A hAe hD hZ hS hA ls hl
  have hl : lv_has ls 6 [(0, .ref (a 0)), (1, .int p0), (2, .int p1), (3, .int p2), (4, .ref o)] := hl
  refine lv_aload hx hb dL_standing_0 (lv_at hl 4 rfl) ?_
  refine lv_iconst (v := 0) hx hb dL_standing_2 (by decide) ?_
  refine lv_aload_n hx hb dL_standing_3 rfl (lv_at hl 0 rfl) ?_
  refine lv_iload_n hx hb dL_standing_4 rfl (lv_at hl 1 rfl) ?_
  refine lv_iload_n hx hb dL_standing_5 rfl (lv_at hl 2 rfl) ?_
  refine lv_iload_n hx hb dL_standing_6 rfl (lv_at hl 3 rfl) ?_
  have hPc := hP.sub (ws' := [(a 0, .inr (11, [.ref (a 1), .ref (a 2), .ref (a 3), .ref (a 4), .ref (a 5), .ref (a 10), .ref (a 15), .ref (a 17), .null, .int 0, .int 0, .int 0])), (a 2, .inr (2, [.int 0, .ref E, .int 0]))]) [0, 1] rfl
  have hDc := hD.sub (ws' := [(a 0, .inr (11, [.ref (a 1), .ref (a 2), .ref (a 3), .ref (a 4), .ref (a 5), .ref (a 10), .ref (a 15), .ref (a 17), .null, .int 0, .int 0, .int 0])), (a 2, .inr (2, [.int 0, .ref E, .int 0]))]) [0, 1] (by decide) rfl
  have hFc := va_free (wc := [(a 0, .inr (11, [.ref (a 1), .ref (a 2), .ref (a 3), .ref (a 4), .ref (a 5), .ref (a 10), .ref (a 15), .ref (a 17), .null, .int 0, .int 0, .int 0])), (a 2, .inr (2, [.int 0, .ref E, .int 0]))]) hD hS hA [0, 1] rfl
  refine vx_calli (vx_runV (As := [.int p0, .int p1, .int p2]) (rest := [.int 0, .ref o]) ⟨hx, hb, hml, hown, hts⟩ (c_X8_standing l hlt D dA E a p0 p1 p2 s.heap.size ) (cwV 3 hts (ga_V q365 q366 q363 q113 q364) rfl rfl rfl (by decide +kernel) ⟨(Nat.le_of_ble_eq_true rfl), (Nat.le_of_ble_eq_true rfl)⟩) ⟨pb_blind, va_recv hK hPc (ci := 11) (q0 := 0) rfl rfl, pb_pre hK hPc hDc hZ hS hFc _⟩ rfl rfl hl.1 rfl (lv_room (Nat.le_of_ble_eq_true rfl)) dL_standing_7 ⟨(Nat.le_of_ble_eq_true rfl), (Nat.le_of_ble_eq_true rfl)⟩) hS (fun q _ h => hFc q h) hFc (fun q _ h => hFc q h) (fun E9 ce q9 k t H1 locs ht hvm hpx hBX hz1 hk1 hS hce hcv hcl => ?_) (fun r u t H1 locs ht hvm hw hB hz1 hk1 hS => ?_)
  · obtain ⟨hP, hD⟩ := jn_drop (wr := [(o, .inl (dA 3, 1, .inr (.inl g)))]) hP hD [0, 1] [2] rfl rfl (by decide) (by decide) hk1 hFc
    generalize H1 = H at hP hS hce ⊢
    have hP : va_P D vwCl [(o, .inl (dA 3, 1, .inr (.inl g)))] H := hP
    have hD : va_D A [(o, .inl (dA 3, 1, .inr (.inl g)))] := hD
    refine vx_widen (k := 1) (n := 6) (Nat.le_of_ble_eq_true rfl) (Nat.le_of_ble_eq_true rfl) ?_
    subst hpx
    subst hBX
    refine vx_catch (own := RL) (name := "java/lang/IndexOutOfBoundsException") (E := "java/lang/IndexOutOfBoundsException") hown [] ⟨0, 12, 15, 21⟩ [] htb (fun _ h9 => absurd h9 List.not_mem_nil) rfl (by decide) (hts _ q341) (va_Nw.use rfl (hZ.1.1 _ (List.mem_of_getElem? (i := 3) rfl))) hce hcv hcl ?_
    refine W.eq (g2 := F0 m 15 ls [.ref q9]) rfl ?_
    refine lv_astore (lv' := [(5, .ref q9), (0, .ref (a 0)), (1, .int p0), (2, .int p1), (3, .int p2), (4, .ref o)]) hx hb dL_standing_15 hl (by decide) rfl (fun ls hl => ?_)
    refine lv_iconst (v := 1) hx hb dL_standing_17 (by decide) ?_
    refine W.widen (k := 1) (n := 6) (Nat.le_of_ble_eq_true rfl) (Nat.le_of_ble_eq_true rfl) ?_
    refine vx_ret ?_
    have hP9 := hP.sub (ws' := [(o, .inl (dA 3, 1, .inr (.inl g)))]) [0] rfl
    have hD9 := hD.sub (ws' := [(o, .inl (dA 3, 1, .inr (.inl g)))]) [0] (by decide) rfl
    exact W.iret (v := 1) hx hb hr (fun t ht hW => ⟨⟨1, g, rfl, (rfl), ⟨by rw [ht]; exact hP9, hD9⟩⟩, hS.F ht⟩) hS.2.2 dL_standing_18
  · exact hw.elim

set_option maxHeartbeats 4000000 in
set_option maxRecDepth 100000 in
theorem c_L_size (l : Launch) (hlt : l.stackTraces = false) (D : va_G) (dA : Nat → ClassId) (E : Nat) (a : Nat → Nat) (o : Nat) (g : Nat → Int64) (p0 : Int32) (sz : Nat)  : vx_Met l yL_size (wq (.codeWith yL_size cL_size 4 (some .int) [(0, 9, 12, 21)])) { frames := 7, cells := 1, slots := 6, locals := 103 } (va_Pc [.ref (a 0), .int p0, .ref o] (PcB D dA E [(a 0, .inr (11, [.ref (a 1), .ref (a 2), .ref (a 3), .ref (a 4), .ref (a 5), .ref (a 10), .ref (a 15), .ref (a 17), .null, .int 0, .int 0, .int 0])), (a 5, .inr (7, [.ref (a 6), .ref (a 8), .int 0, .int 0])), (o, .inl (dA 3, 1, .inr (.inl g)))] sz)) (va_Qi (fun (r : Int32) (u : Nat → Int64) => r = 1) (fun u t => va_P D vwCl [(o, .inl (dA 3, 1, .inr (.inl u)))] t.heap ∧ va_D (va_A [(a 0, .inr (11, [.ref (a 1), .ref (a 2), .ref (a 3), .ref (a 4), .ref (a 5), .ref (a 10), .ref (a 15), .ref (a 17), .null, .int 0, .int 0, .int 0])), (a 5, .inr (7, [.ref (a 6), .ref (a 8), .int 0, .int 0])), (o, .inl (dA 3, 1, .inr (.inl g)))] sz) [(o, .inl (dA 3, 1, .inr (.inl u)))]) (va_A [(a 0, .inr (11, [.ref (a 1), .ref (a 2), .ref (a 3), .ref (a 4), .ref (a 5), .ref (a 10), .ref (a 15), .ref (a 17), .null, .int 0, .int 0, .int 0])), (a 5, .inr (7, [.ref (a 6), .ref (a 8), .int 0, .int 0])), (o, .inl (dA 3, 1, .inr (.inl g)))] sz)) (vx_X (fun (k : Nat) => False) (fun E9 k t => E9 = xN k) (va_A [(a 0, .inr (11, [.ref (a 1), .ref (a 2), .ref (a 3), .ref (a 4), .ref (a 5), .ref (a 10), .ref (a 15), .ref (a 17), .null, .int 0, .int 0, .int 0])), (a 5, .inr (7, [.ref (a 6), .ref (a 8), .int 0, .int 0])), (o, .inl (dA 3, 1, .inr (.inl g)))] sz)) 1 6 (va_A [(a 0, .inr (11, [.ref (a 1), .ref (a 2), .ref (a 3), .ref (a 4), .ref (a 5), .ref (a 10), .ref (a 15), .ref (a 17), .null, .int 0, .int 0, .int 0])), (a 5, .inr (7, [.ref (a 6), .ref (a 8), .int 0, .int 0])), (o, .inl (dA 3, 1, .inr (.inl g)))] sz) := by
  refine mh_of (y := yL_size) (av := [.ref (a 0), .int p0, .ref o]) (maxL := 4) (Qc := fun A => va_Qi (fun (r : Int32) (u : Nat → Int64) => r = 1) (fun u t => va_P D vwCl [(o, .inl (dA 3, 1, .inr (.inl u)))] t.heap ∧ va_D A [(o, .inl (dA 3, 1, .inr (.inl u)))]) A) (XC := fun A => vx_X (fun (k : Nat) => False) (fun E9 k t => E9 = xN k) A) RL rfl (by decide) (Nat.le_of_ble_eq_true rfl) ?_
  intro p e s m args below meth c hae hx hb hr hts hown hlocks hml hnm htb hP hK A hAe hD hZ hS hA ls hl
  have hl : lv_has ls 4 [(0, .ref (a 0)), (1, .int p0), (2, .ref o)] := hl
  refine lv_aload_n hx hb dL_size_0 rfl (lv_at hl 2 rfl) ?_
  refine lv_iconst (v := 0) hx hb dL_size_1 (by decide) ?_
  refine lv_aload_n hx hb dL_size_2 rfl (lv_at hl 0 rfl) ?_
  refine lv_iload_n hx hb dL_size_3 rfl (lv_at hl 1 rfl) ?_
  have hPc := hP.sub (ws' := [(a 0, .inr (11, [.ref (a 1), .ref (a 2), .ref (a 3), .ref (a 4), .ref (a 5), .ref (a 10), .ref (a 15), .ref (a 17), .null, .int 0, .int 0, .int 0])), (a 5, .inr (7, [.ref (a 6), .ref (a 8), .int 0, .int 0]))]) [0, 1] rfl
  have hDc := hD.sub (ws' := [(a 0, .inr (11, [.ref (a 1), .ref (a 2), .ref (a 3), .ref (a 4), .ref (a 5), .ref (a 10), .ref (a 15), .ref (a 17), .null, .int 0, .int 0, .int 0])), (a 5, .inr (7, [.ref (a 6), .ref (a 8), .int 0, .int 0]))]) [0, 1] (by decide) rfl
  have hFc := va_free (wc := [(a 0, .inr (11, [.ref (a 1), .ref (a 2), .ref (a 3), .ref (a 4), .ref (a 5), .ref (a 10), .ref (a 15), .ref (a 17), .null, .int 0, .int 0, .int 0])), (a 5, .inr (7, [.ref (a 6), .ref (a 8), .int 0, .int 0]))]) hD hS hA [0, 1] rfl
  refine vx_calli (vx_runV (As := [.int p0]) (rest := [.int 0, .ref o]) ⟨hx, hb, hml, hown, hts⟩ (c_X8_size l hlt D dA E a p0 s.heap.size ) (cwV 1 hts (ga_V q369 q370 q367 q113 q368) rfl rfl rfl (by decide +kernel) ⟨(Nat.le_of_ble_eq_true rfl), (Nat.le_of_ble_eq_true rfl)⟩) ⟨pb_blind, va_recv hK hPc (ci := 11) (q0 := 0) rfl rfl, pb_pre hK hPc hDc hZ hS hFc _⟩ rfl rfl hl.1 rfl (lv_room (Nat.le_of_ble_eq_true rfl)) dL_size_4 ⟨(Nat.le_of_ble_eq_true rfl), (Nat.le_of_ble_eq_true rfl)⟩) hS (fun q _ h => hFc q h) hFc (fun q _ h => hFc q h) (fun E9 ce q9 k t H1 locs ht hvm hpx hBX hz1 hk1 hS hce hcv hcl => ?_) (fun r u t H1 locs ht hvm hw hB hz1 hk1 hS => ?_)
  · obtain ⟨hP, hD⟩ := jn_drop (wr := [(o, .inl (dA 3, 1, .inr (.inl g)))]) hP hD [0, 1] [2] rfl rfl (by decide) (by decide) hk1 hFc
    generalize H1 = H at hP hS hce ⊢
    have hP : va_P D vwCl [(o, .inl (dA 3, 1, .inr (.inl g)))] H := hP
    have hD : va_D A [(o, .inl (dA 3, 1, .inr (.inl g)))] := hD
    refine vx_widen (k := 1) (n := 6) (Nat.le_of_ble_eq_true rfl) (Nat.le_of_ble_eq_true rfl) ?_
    subst hpx
    subst hBX
    refine vx_catch (own := RL) (name := "java/lang/IndexOutOfBoundsException") (E := "java/lang/IndexOutOfBoundsException") hown [] ⟨0, 9, 12, 21⟩ [] htb (fun _ h9 => absurd h9 List.not_mem_nil) rfl (by decide) (hts _ q341) (va_Nw.use rfl (hZ.1.1 _ (List.mem_of_getElem? (i := 3) rfl))) hce hcv hcl ?_
    refine W.eq (g2 := F0 m 12 ls [.ref q9]) rfl ?_
    refine lv_astore_n (lv' := [(3, .ref q9), (0, .ref (a 0)), (1, .int p0), (2, .ref o)]) hx hb dL_size_12 rfl hl (by decide) rfl (fun ls hl => ?_)
    refine lv_iconst (v := 1) hx hb dL_size_13 (by decide) ?_
    refine W.widen (k := 1) (n := 6) (Nat.le_of_ble_eq_true rfl) (Nat.le_of_ble_eq_true rfl) ?_
    refine vx_ret ?_
    have hP9 := hP.sub (ws' := [(o, .inl (dA 3, 1, .inr (.inl g)))]) [0] rfl
    have hD9 := hD.sub (ws' := [(o, .inl (dA 3, 1, .inr (.inl g)))]) [0] (by decide) rfl
    exact W.iret (v := 1) hx hb hr (fun t ht hW => ⟨⟨1, g, rfl, (rfl), ⟨by rw [ht]; exact hP9, hD9⟩⟩, hS.F ht⟩) hS.2.2 dL_size_14
  · exact hw.elim

set_option maxHeartbeats 4000000 in
set_option maxRecDepth 100000 in
theorem c_L_merge (l : Launch) (hlt : l.stackTraces = false) (D : va_G) (dA : Nat → ClassId) (E : Nat) (a : Nat → Nat) (o : Nat) (g : Nat → Int64) (p0 : Int32) (sz : Nat)  : vx_Met l yL_merge (wq (.codeWith yL_merge cL_merge 4 (some .int) [(0, 9, 12, 21)])) { frames := 7, cells := 1, slots := 6, locals := 103 } (va_Pc [.ref (a 0), .int p0, .ref o] (PcB D dA E [(a 0, .inr (11, [.ref (a 1), .ref (a 2), .ref (a 3), .ref (a 4), .ref (a 5), .ref (a 10), .ref (a 15), .ref (a 17), .null, .int 0, .int 0, .int 0])), (a 5, .inr (7, [.ref (a 6), .ref (a 8), .int 0, .int 0])), (o, .inl (dA 3, 1, .inr (.inl g)))] sz)) (va_Qi (fun (r : Int32) (u : Nat → Int64) => r = 1) (fun u t => va_P D vwCl [(o, .inl (dA 3, 1, .inr (.inl u)))] t.heap ∧ va_D (va_A [(a 0, .inr (11, [.ref (a 1), .ref (a 2), .ref (a 3), .ref (a 4), .ref (a 5), .ref (a 10), .ref (a 15), .ref (a 17), .null, .int 0, .int 0, .int 0])), (a 5, .inr (7, [.ref (a 6), .ref (a 8), .int 0, .int 0])), (o, .inl (dA 3, 1, .inr (.inl g)))] sz) [(o, .inl (dA 3, 1, .inr (.inl u)))]) (va_A [(a 0, .inr (11, [.ref (a 1), .ref (a 2), .ref (a 3), .ref (a 4), .ref (a 5), .ref (a 10), .ref (a 15), .ref (a 17), .null, .int 0, .int 0, .int 0])), (a 5, .inr (7, [.ref (a 6), .ref (a 8), .int 0, .int 0])), (o, .inl (dA 3, 1, .inr (.inl g)))] sz)) (vx_X (fun (k : Nat) => False) (fun E9 k t => E9 = xN k) (va_A [(a 0, .inr (11, [.ref (a 1), .ref (a 2), .ref (a 3), .ref (a 4), .ref (a 5), .ref (a 10), .ref (a 15), .ref (a 17), .null, .int 0, .int 0, .int 0])), (a 5, .inr (7, [.ref (a 6), .ref (a 8), .int 0, .int 0])), (o, .inl (dA 3, 1, .inr (.inl g)))] sz)) 1 6 (va_A [(a 0, .inr (11, [.ref (a 1), .ref (a 2), .ref (a 3), .ref (a 4), .ref (a 5), .ref (a 10), .ref (a 15), .ref (a 17), .null, .int 0, .int 0, .int 0])), (a 5, .inr (7, [.ref (a 6), .ref (a 8), .int 0, .int 0])), (o, .inl (dA 3, 1, .inr (.inl g)))] sz) := by
  refine mh_of (y := yL_merge) (av := [.ref (a 0), .int p0, .ref o]) (maxL := 4) (Qc := fun A => va_Qi (fun (r : Int32) (u : Nat → Int64) => r = 1) (fun u t => va_P D vwCl [(o, .inl (dA 3, 1, .inr (.inl u)))] t.heap ∧ va_D A [(o, .inl (dA 3, 1, .inr (.inl u)))]) A) (XC := fun A => vx_X (fun (k : Nat) => False) (fun E9 k t => E9 = xN k) A) RL rfl (by decide) (Nat.le_of_ble_eq_true rfl) ?_
  intro p e s m args below meth c hae hx hb hr hts hown hlocks hml hnm htb hP hK A hAe hD hZ hS hA ls hl
  have hl : lv_has ls 4 [(0, .ref (a 0)), (1, .int p0), (2, .ref o)] := hl
  refine lv_aload_n hx hb dL_merge_0 rfl (lv_at hl 2 rfl) ?_
  refine lv_iconst (v := 0) hx hb dL_merge_1 (by decide) ?_
  refine lv_aload_n hx hb dL_merge_2 rfl (lv_at hl 0 rfl) ?_
  refine lv_iload_n hx hb dL_merge_3 rfl (lv_at hl 1 rfl) ?_
  have hPc := hP.sub (ws' := [(a 0, .inr (11, [.ref (a 1), .ref (a 2), .ref (a 3), .ref (a 4), .ref (a 5), .ref (a 10), .ref (a 15), .ref (a 17), .null, .int 0, .int 0, .int 0])), (a 5, .inr (7, [.ref (a 6), .ref (a 8), .int 0, .int 0]))]) [0, 1] rfl
  have hDc := hD.sub (ws' := [(a 0, .inr (11, [.ref (a 1), .ref (a 2), .ref (a 3), .ref (a 4), .ref (a 5), .ref (a 10), .ref (a 15), .ref (a 17), .null, .int 0, .int 0, .int 0])), (a 5, .inr (7, [.ref (a 6), .ref (a 8), .int 0, .int 0]))]) [0, 1] (by decide) rfl
  have hFc := va_free (wc := [(a 0, .inr (11, [.ref (a 1), .ref (a 2), .ref (a 3), .ref (a 4), .ref (a 5), .ref (a 10), .ref (a 15), .ref (a 17), .null, .int 0, .int 0, .int 0])), (a 5, .inr (7, [.ref (a 6), .ref (a 8), .int 0, .int 0]))]) hD hS hA [0, 1] rfl
  refine vx_calli (vx_runV (As := [.int p0]) (rest := [.int 0, .ref o]) ⟨hx, hb, hml, hown, hts⟩ (c_X8_merge l hlt D dA E a p0 s.heap.size ) (cwV 1 hts (ga_V q373 q374 q371 q113 q372) rfl rfl rfl (by decide +kernel) ⟨(Nat.le_of_ble_eq_true rfl), (Nat.le_of_ble_eq_true rfl)⟩) ⟨pb_blind, va_recv hK hPc (ci := 11) (q0 := 0) rfl rfl, pb_pre hK hPc hDc hZ hS hFc _⟩ rfl rfl hl.1 rfl (lv_room (Nat.le_of_ble_eq_true rfl)) dL_merge_4 ⟨(Nat.le_of_ble_eq_true rfl), (Nat.le_of_ble_eq_true rfl)⟩) hS (fun q _ h => hFc q h) hFc (fun q _ h => hFc q h) (fun E9 ce q9 k t H1 locs ht hvm hpx hBX hz1 hk1 hS hce hcv hcl => ?_) (fun r u t H1 locs ht hvm hw hB hz1 hk1 hS => ?_)
  · obtain ⟨hP, hD⟩ := jn_drop (wr := [(o, .inl (dA 3, 1, .inr (.inl g)))]) hP hD [0, 1] [2] rfl rfl (by decide) (by decide) hk1 hFc
    generalize H1 = H at hP hS hce ⊢
    have hP : va_P D vwCl [(o, .inl (dA 3, 1, .inr (.inl g)))] H := hP
    have hD : va_D A [(o, .inl (dA 3, 1, .inr (.inl g)))] := hD
    refine vx_widen (k := 1) (n := 6) (Nat.le_of_ble_eq_true rfl) (Nat.le_of_ble_eq_true rfl) ?_
    subst hpx
    subst hBX
    refine vx_catch (own := RL) (name := "java/lang/IndexOutOfBoundsException") (E := "java/lang/IndexOutOfBoundsException") hown [] ⟨0, 9, 12, 21⟩ [] htb (fun _ h9 => absurd h9 List.not_mem_nil) rfl (by decide) (hts _ q341) (va_Nw.use rfl (hZ.1.1 _ (List.mem_of_getElem? (i := 3) rfl))) hce hcv hcl ?_
    refine W.eq (g2 := F0 m 12 ls [.ref q9]) rfl ?_
    refine lv_astore_n (lv' := [(3, .ref q9), (0, .ref (a 0)), (1, .int p0), (2, .ref o)]) hx hb dL_merge_12 rfl hl (by decide) rfl (fun ls hl => ?_)
    refine lv_iconst (v := 1) hx hb dL_merge_13 (by decide) ?_
    refine W.widen (k := 1) (n := 6) (Nat.le_of_ble_eq_true rfl) (Nat.le_of_ble_eq_true rfl) ?_
    refine vx_ret ?_
    have hP9 := hP.sub (ws' := [(o, .inl (dA 3, 1, .inr (.inl g)))]) [0] rfl
    have hD9 := hD.sub (ws' := [(o, .inl (dA 3, 1, .inr (.inl g)))]) [0] (by decide) rfl
    exact W.iret (v := 1) hx hb hr (fun t ht hW => ⟨⟨1, g, rfl, (rfl), ⟨by rw [ht]; exact hP9, hD9⟩⟩, hS.F ht⟩) hS.2.2 dL_merge_14
  · exact hw.elim

set_option maxHeartbeats 4000000 in
set_option maxRecDepth 100000 in
theorem c_L_follow (l : Launch) (hlt : l.stackTraces = false) (D : va_G) (dA : Nat → ClassId) (E : Nat) (a : Nat → Nat) (o : Nat) (g : Nat → Int64) (sz : Nat)  : vx_Met l yL_follow (wq (.codeWith yL_follow cL_follow 3 (some .int) [(0, 8, 11, 15)])) { frames := 7, cells := 1, slots := 6, locals := 102 } (va_Pc [.ref (a 0), .ref o] (PcB D dA E [(a 0, .inr (11, [.ref (a 1), .ref (a 2), .ref (a 3), .ref (a 4), .ref (a 5), .ref (a 10), .ref (a 15), .ref (a 17), .null, .int 0, .int 0, .int 0])), (o, .inl (dA 3, 1, .inr (.inl g)))] sz)) (va_Qi (fun (r : Int32) (u : Nat → Int64) => r = 1) (fun u t => va_P D vwCl [(o, .inl (dA 3, 1, .inr (.inl u)))] t.heap ∧ va_D (va_A [(a 0, .inr (11, [.ref (a 1), .ref (a 2), .ref (a 3), .ref (a 4), .ref (a 5), .ref (a 10), .ref (a 15), .ref (a 17), .null, .int 0, .int 0, .int 0])), (o, .inl (dA 3, 1, .inr (.inl g)))] sz) [(o, .inl (dA 3, 1, .inr (.inl u)))]) (va_A [(a 0, .inr (11, [.ref (a 1), .ref (a 2), .ref (a 3), .ref (a 4), .ref (a 5), .ref (a 10), .ref (a 15), .ref (a 17), .null, .int 0, .int 0, .int 0])), (o, .inl (dA 3, 1, .inr (.inl g)))] sz)) (vx_X (fun (k : Nat) => False) (fun E9 k t => E9 = xN k) (va_A [(a 0, .inr (11, [.ref (a 1), .ref (a 2), .ref (a 3), .ref (a 4), .ref (a 5), .ref (a 10), .ref (a 15), .ref (a 17), .null, .int 0, .int 0, .int 0])), (o, .inl (dA 3, 1, .inr (.inl g)))] sz)) 1 6 (va_A [(a 0, .inr (11, [.ref (a 1), .ref (a 2), .ref (a 3), .ref (a 4), .ref (a 5), .ref (a 10), .ref (a 15), .ref (a 17), .null, .int 0, .int 0, .int 0])), (o, .inl (dA 3, 1, .inr (.inl g)))] sz) := by
  refine mh_of (y := yL_follow) (av := [.ref (a 0), .ref o]) (maxL := 3) (Qc := fun A => va_Qi (fun (r : Int32) (u : Nat → Int64) => r = 1) (fun u t => va_P D vwCl [(o, .inl (dA 3, 1, .inr (.inl u)))] t.heap ∧ va_D A [(o, .inl (dA 3, 1, .inr (.inl u)))]) A) (XC := fun A => vx_X (fun (k : Nat) => False) (fun E9 k t => E9 = xN k) A) RL rfl (by decide) (Nat.le_of_ble_eq_true rfl) ?_
  intro p e s m args below meth c hae hx hb hr hts hown hlocks hml hnm htb hP hK A hAe hD hZ hS hA ls hl
  have hl : lv_has ls 3 [(0, .ref (a 0)), (1, .ref o)] := hl
  refine lv_aload_n hx hb dL_follow_0 rfl (lv_at hl 1 rfl) ?_
  refine lv_iconst (v := 0) hx hb dL_follow_1 (by decide) ?_
  refine lv_aload_n hx hb dL_follow_2 rfl (lv_at hl 0 rfl) ?_
  have hPc := hP.sub (ws' := [(a 0, .inr (11, [.ref (a 1), .ref (a 2), .ref (a 3), .ref (a 4), .ref (a 5), .ref (a 10), .ref (a 15), .ref (a 17), .null, .int 0, .int 0, .int 0]))]) [0] rfl
  have hDc := hD.sub (ws' := [(a 0, .inr (11, [.ref (a 1), .ref (a 2), .ref (a 3), .ref (a 4), .ref (a 5), .ref (a 10), .ref (a 15), .ref (a 17), .null, .int 0, .int 0, .int 0]))]) [0] (by decide) rfl
  have hFc := va_free (wc := [(a 0, .inr (11, [.ref (a 1), .ref (a 2), .ref (a 3), .ref (a 4), .ref (a 5), .ref (a 10), .ref (a 15), .ref (a 17), .null, .int 0, .int 0, .int 0]))]) hD hS hA [0] rfl
  refine vx_calli (vx_runV (As := []) (rest := [.int 0, .ref o]) ⟨hx, hb, hml, hown, hts⟩ (c_X8_follow l hlt D dA E a  s.heap.size ) (cwV 0 hts (ga_V q377 q378 q375 q113 q376) rfl rfl rfl (by decide +kernel) ⟨(Nat.le_of_ble_eq_true rfl), (Nat.le_of_ble_eq_true rfl)⟩) ⟨pb_blind, va_recv hK hPc (ci := 11) (q0 := 0) rfl rfl, pb_pre hK hPc hDc hZ hS hFc _⟩ rfl rfl hl.1 rfl (lv_room (Nat.le_of_ble_eq_true rfl)) dL_follow_3 ⟨(Nat.le_of_ble_eq_true rfl), (Nat.le_of_ble_eq_true rfl)⟩) hS (fun q _ h => hFc q h) hFc (fun q _ h => hFc q h) (fun E9 ce q9 k t H1 locs ht hvm hpx hBX hz1 hk1 hS hce hcv hcl => ?_) (fun r u t H1 locs ht hvm hw hB hz1 hk1 hS => ?_)
  · obtain ⟨hP, hD⟩ := jn_drop (wr := [(o, .inl (dA 3, 1, .inr (.inl g)))]) hP hD [0] [1] rfl rfl (by decide) (by decide) hk1 hFc
    generalize H1 = H at hP hS hce ⊢
    have hP : va_P D vwCl [(o, .inl (dA 3, 1, .inr (.inl g)))] H := hP
    have hD : va_D A [(o, .inl (dA 3, 1, .inr (.inl g)))] := hD
    refine vx_widen (k := 1) (n := 6) (Nat.le_of_ble_eq_true rfl) (Nat.le_of_ble_eq_true rfl) ?_
    subst hpx
    subst hBX
    refine vx_catch (own := RL) (name := "java/lang/IllegalStateException") (E := "java/lang/IllegalStateException") hown [] ⟨0, 8, 11, 15⟩ [] htb (fun _ h9 => absurd h9 List.not_mem_nil) rfl (by decide) (hts _ q346) (va_Nw.use rfl (hZ.1.1 _ (List.mem_of_getElem? (i := 1) rfl))) hce hcv hcl ?_
    refine W.eq (g2 := F0 m 11 ls [.ref q9]) rfl ?_
    refine lv_astore_n (lv' := [(2, .ref q9), (0, .ref (a 0)), (1, .ref o)]) hx hb dL_follow_11 rfl hl (by decide) rfl (fun ls hl => ?_)
    refine lv_iconst (v := 1) hx hb dL_follow_12 (by decide) ?_
    refine W.widen (k := 1) (n := 6) (Nat.le_of_ble_eq_true rfl) (Nat.le_of_ble_eq_true rfl) ?_
    refine vx_ret ?_
    have hP9 := hP.sub (ws' := [(o, .inl (dA 3, 1, .inr (.inl g)))]) [0] rfl
    have hD9 := hD.sub (ws' := [(o, .inl (dA 3, 1, .inr (.inl g)))]) [0] (by decide) rfl
    exact W.iret (v := 1) hx hb hr (fun t ht hW => ⟨⟨1, g, rfl, (rfl), ⟨by rw [ht]; exact hP9, hD9⟩⟩, hS.F ht⟩) hS.2.2 dL_follow_13
  · exact hw.elim

set_option maxHeartbeats 4000000 in
set_option maxRecDepth 100000 in
theorem c_L_isOnReplica (l : Launch) (hlt : l.stackTraces = false) (D : va_G) (dA : Nat → ClassId) (E : Nat) (a : Nat → Nat) (o : Nat) (g : Nat → Int64) (p0 : Int32) (sz : Nat)  : vx_Met l yL_isOnReplica (wq (.codeWith yL_isOnReplica cL_isOnReplica 4 (some .int) [(0, 16, 19, 21)])) { frames := 8, cells := 1, slots := 6, locals := 124 } (va_Pc [.ref (a 0), .int p0, .ref o] (PcB D dA E [(a 0, .inr (11, [.ref (a 1), .ref (a 2), .ref (a 3), .ref (a 4), .ref (a 5), .ref (a 10), .ref (a 15), .ref (a 17), .null, .int 0, .int 0, .int 0])), (a 2, .inr (2, [.int 0, .ref E, .int 0])), (o, .inl (dA 3, 1, .inr (.inl g)))] sz)) (va_Qi (fun (r : Int32) (u : Nat → Int64) => r = 1) (fun u t => va_P D vwCl [(o, .inl (dA 3, 1, .inr (.inl u)))] t.heap ∧ va_D (va_A [(a 0, .inr (11, [.ref (a 1), .ref (a 2), .ref (a 3), .ref (a 4), .ref (a 5), .ref (a 10), .ref (a 15), .ref (a 17), .null, .int 0, .int 0, .int 0])), (a 2, .inr (2, [.int 0, .ref E, .int 0])), (o, .inl (dA 3, 1, .inr (.inl g)))] sz) [(o, .inl (dA 3, 1, .inr (.inl u)))]) (va_A [(a 0, .inr (11, [.ref (a 1), .ref (a 2), .ref (a 3), .ref (a 4), .ref (a 5), .ref (a 10), .ref (a 15), .ref (a 17), .null, .int 0, .int 0, .int 0])), (a 2, .inr (2, [.int 0, .ref E, .int 0])), (o, .inl (dA 3, 1, .inr (.inl g)))] sz)) (vx_X (fun (k : Nat) => False) (fun E9 k t => E9 = xN k) (va_A [(a 0, .inr (11, [.ref (a 1), .ref (a 2), .ref (a 3), .ref (a 4), .ref (a 5), .ref (a 10), .ref (a 15), .ref (a 17), .null, .int 0, .int 0, .int 0])), (a 2, .inr (2, [.int 0, .ref E, .int 0])), (o, .inl (dA 3, 1, .inr (.inl g)))] sz)) 1 6 (va_A [(a 0, .inr (11, [.ref (a 1), .ref (a 2), .ref (a 3), .ref (a 4), .ref (a 5), .ref (a 10), .ref (a 15), .ref (a 17), .null, .int 0, .int 0, .int 0])), (a 2, .inr (2, [.int 0, .ref E, .int 0])), (o, .inl (dA 3, 1, .inr (.inl g)))] sz) := by
  refine mh_of (y := yL_isOnReplica) (av := [.ref (a 0), .int p0, .ref o]) (maxL := 4) (Qc := fun A => va_Qi (fun (r : Int32) (u : Nat → Int64) => r = 1) (fun u t => va_P D vwCl [(o, .inl (dA 3, 1, .inr (.inl u)))] t.heap ∧ va_D A [(o, .inl (dA 3, 1, .inr (.inl u)))]) A) (XC := fun A => vx_X (fun (k : Nat) => False) (fun E9 k t => E9 = xN k) A) RL rfl (by decide) (Nat.le_of_ble_eq_true rfl) ?_
  intro p e s m args below meth c hae hx hb hr hts hown hlocks hml hnm htb hP hK A hAe hD hZ hS hA ls hl
  have hl : lv_has ls 4 [(0, .ref (a 0)), (1, .int p0), (2, .ref o)] := hl
  refine lv_aload_n hx hb dL_isOnReplica_0 rfl (lv_at hl 2 rfl) ?_
  refine lv_iconst (v := 0) hx hb dL_isOnReplica_1 (by decide) ?_
  refine lv_aload_n hx hb dL_isOnReplica_2 rfl (lv_at hl 0 rfl) ?_
  refine lv_iload_n hx hb dL_isOnReplica_3 rfl (lv_at hl 1 rfl) ?_
  have hPc := hP.sub (ws' := [(a 0, .inr (11, [.ref (a 1), .ref (a 2), .ref (a 3), .ref (a 4), .ref (a 5), .ref (a 10), .ref (a 15), .ref (a 17), .null, .int 0, .int 0, .int 0])), (a 2, .inr (2, [.int 0, .ref E, .int 0]))]) [0, 1] rfl
  have hDc := hD.sub (ws' := [(a 0, .inr (11, [.ref (a 1), .ref (a 2), .ref (a 3), .ref (a 4), .ref (a 5), .ref (a 10), .ref (a 15), .ref (a 17), .null, .int 0, .int 0, .int 0])), (a 2, .inr (2, [.int 0, .ref E, .int 0]))]) [0, 1] (by decide) rfl
  have hFc := va_free (wc := [(a 0, .inr (11, [.ref (a 1), .ref (a 2), .ref (a 3), .ref (a 4), .ref (a 5), .ref (a 10), .ref (a 15), .ref (a 17), .null, .int 0, .int 0, .int 0])), (a 2, .inr (2, [.int 0, .ref E, .int 0]))]) hD hS hA [0, 1] rfl
  refine vx_calli (vx_runV (As := [.int p0]) (rest := [.int 0, .ref o]) ⟨hx, hb, hml, hown, hts⟩ (c_X8_isOnReplica l hlt D dA E a p0 s.heap.size ) (cwV 1 hts (ga_V q381 q382 q379 q113 q380) rfl rfl rfl (by decide +kernel) ⟨(Nat.le_of_ble_eq_true rfl), (Nat.le_of_ble_eq_true rfl)⟩) ⟨pb_blind, va_recv hK hPc (ci := 11) (q0 := 0) rfl rfl, pb_pre hK hPc hDc hZ hS hFc _⟩ rfl rfl hl.1 rfl (lv_room (Nat.le_of_ble_eq_true rfl)) dL_isOnReplica_4 ⟨(Nat.le_of_ble_eq_true rfl), (Nat.le_of_ble_eq_true rfl)⟩) hS (fun q _ h => hFc q h) hFc (fun q _ h => hFc q h) (fun E9 ce q9 k t H1 locs ht hvm hpx hBX hz1 hk1 hS hce hcv hcl => ?_) (fun r u t H1 locs ht hvm hw hB hz1 hk1 hS => ?_)
  · obtain ⟨hP, hD⟩ := jn_drop (wr := [(o, .inl (dA 3, 1, .inr (.inl g)))]) hP hD [0, 1] [2] rfl rfl (by decide) (by decide) hk1 hFc
    generalize H1 = H at hP hS hce ⊢
    have hP : va_P D vwCl [(o, .inl (dA 3, 1, .inr (.inl g)))] H := hP
    have hD : va_D A [(o, .inl (dA 3, 1, .inr (.inl g)))] := hD
    refine vx_widen (k := 1) (n := 6) (Nat.le_of_ble_eq_true rfl) (Nat.le_of_ble_eq_true rfl) ?_
    subst hpx
    subst hBX
    refine vx_catch (own := RL) (name := "java/lang/IndexOutOfBoundsException") (E := "java/lang/IndexOutOfBoundsException") hown [] ⟨0, 16, 19, 21⟩ [] htb (fun _ h9 => absurd h9 List.not_mem_nil) rfl (by decide) (hts _ q341) (va_Nw.use rfl (hZ.1.1 _ (List.mem_of_getElem? (i := 3) rfl))) hce hcv hcl ?_
    refine W.eq (g2 := F0 m 19 ls [.ref q9]) rfl ?_
    refine lv_astore_n (lv' := [(3, .ref q9), (0, .ref (a 0)), (1, .int p0), (2, .ref o)]) hx hb dL_isOnReplica_19 rfl hl (by decide) rfl (fun ls hl => ?_)
    refine lv_iconst (v := 1) hx hb dL_isOnReplica_20 (by decide) ?_
    refine W.widen (k := 1) (n := 6) (Nat.le_of_ble_eq_true rfl) (Nat.le_of_ble_eq_true rfl) ?_
    refine vx_ret ?_
    have hP9 := hP.sub (ws' := [(o, .inl (dA 3, 1, .inr (.inl g)))]) [0] rfl
    have hD9 := hD.sub (ws' := [(o, .inl (dA 3, 1, .inr (.inl g)))]) [0] (by decide) rfl
    exact W.iret (v := 1) hx hb hr (fun t ht hW => ⟨⟨1, g, rfl, (rfl), ⟨by rw [ht]; exact hP9, hD9⟩⟩, hS.F ht⟩) hS.2.2 dL_isOnReplica_21
  · exact hw.elim

set_option maxHeartbeats 4000000 in
set_option maxRecDepth 100000 in
theorem c_L_openView (l : Launch) (hlt : l.stackTraces = false) (D : va_G) (dA : Nat → ClassId) (E : Nat) (a : Nat → Nat) (o : Nat) (g : Nat → Int64) (sz : Nat)  : vx_Met l yL_openView (wq (.codeWith yL_openView cL_openView 3 (some .int) [(0, 8, 11, 15)])) { frames := 6, cells := 4, slots := 44, locals := 123 } (va_Pc [.ref (a 0), .ref o] (PcB D dA E [(a 0, .inr (11, [.ref (a 1), .ref (a 2), .ref (a 3), .ref (a 4), .ref (a 5), .ref (a 10), .ref (a 15), .ref (a 17), .null, .int 0, .int 0, .int 0])), (a 3, .inr (2, [.int 0, .ref E, .int 0])), (a 5, .inr (7, [.ref (a 6), .ref (a 8), .int 0, .int 0])), (o, .inl (dA 3, 1, .inr (.inl g)))] sz)) (va_Qi (fun (r : Int32) (u : Nat → Int64) => r = 0 ∧ u 0 = 0) (fun u t => va_P D vwCl [(o, .inl (dA 3, 1, .inr (.inl u)))] t.heap ∧ va_D (va_A [(a 0, .inr (11, [.ref (a 1), .ref (a 2), .ref (a 3), .ref (a 4), .ref (a 5), .ref (a 10), .ref (a 15), .ref (a 17), .null, .int 0, .int 0, .int 0])), (a 3, .inr (2, [.int 0, .ref E, .int 0])), (a 5, .inr (7, [.ref (a 6), .ref (a 8), .int 0, .int 0])), (o, .inl (dA 3, 1, .inr (.inl g)))] sz) [(o, .inl (dA 3, 1, .inr (.inl u)))]) (va_A [(a 0, .inr (11, [.ref (a 1), .ref (a 2), .ref (a 3), .ref (a 4), .ref (a 5), .ref (a 10), .ref (a 15), .ref (a 17), .null, .int 0, .int 0, .int 0])), (a 3, .inr (2, [.int 0, .ref E, .int 0])), (a 5, .inr (7, [.ref (a 6), .ref (a 8), .int 0, .int 0])), (o, .inl (dA 3, 1, .inr (.inl g)))] sz)) (vx_X (fun (k : Nat) => False) (fun E9 k t => E9 = xN k) (va_A [(a 0, .inr (11, [.ref (a 1), .ref (a 2), .ref (a 3), .ref (a 4), .ref (a 5), .ref (a 10), .ref (a 15), .ref (a 17), .null, .int 0, .int 0, .int 0])), (a 3, .inr (2, [.int 0, .ref E, .int 0])), (a 5, .inr (7, [.ref (a 6), .ref (a 8), .int 0, .int 0])), (o, .inl (dA 3, 1, .inr (.inl g)))] sz)) 4 44 (va_A [(a 0, .inr (11, [.ref (a 1), .ref (a 2), .ref (a 3), .ref (a 4), .ref (a 5), .ref (a 10), .ref (a 15), .ref (a 17), .null, .int 0, .int 0, .int 0])), (a 3, .inr (2, [.int 0, .ref E, .int 0])), (a 5, .inr (7, [.ref (a 6), .ref (a 8), .int 0, .int 0])), (o, .inl (dA 3, 1, .inr (.inl g)))] sz) := by
  refine mh_of (y := yL_openView) (av := [.ref (a 0), .ref o]) (maxL := 3) (Qc := fun A => va_Qi (fun (r : Int32) (u : Nat → Int64) => r = 0 ∧ u 0 = 0) (fun u t => va_P D vwCl [(o, .inl (dA 3, 1, .inr (.inl u)))] t.heap ∧ va_D A [(o, .inl (dA 3, 1, .inr (.inl u)))]) A) (XC := fun A => vx_X (fun (k : Nat) => False) (fun E9 k t => E9 = xN k) A) RL rfl (by decide) (Nat.le_of_ble_eq_true rfl) ?_
  intro p e s m args below meth c hae hx hb hr hts hown hlocks hml hnm htb hP hK A hAe hD hZ hS hA ls hl
  have hl : lv_has ls 3 [(0, .ref (a 0)), (1, .ref o)] := hl
  refine lv_aload_n hx hb dL_openView_0 rfl (lv_at hl 1 rfl) ?_
  refine lv_iconst (v := 0) hx hb dL_openView_1 (by decide) ?_
  refine lv_aload_n hx hb dL_openView_2 rfl (lv_at hl 0 rfl) ?_
  have hPc := hP.sub (ws' := [(a 0, .inr (11, [.ref (a 1), .ref (a 2), .ref (a 3), .ref (a 4), .ref (a 5), .ref (a 10), .ref (a 15), .ref (a 17), .null, .int 0, .int 0, .int 0])), (a 3, .inr (2, [.int 0, .ref E, .int 0])), (a 5, .inr (7, [.ref (a 6), .ref (a 8), .int 0, .int 0]))]) [0, 1, 2] rfl
  have hDc := hD.sub (ws' := [(a 0, .inr (11, [.ref (a 1), .ref (a 2), .ref (a 3), .ref (a 4), .ref (a 5), .ref (a 10), .ref (a 15), .ref (a 17), .null, .int 0, .int 0, .int 0])), (a 3, .inr (2, [.int 0, .ref E, .int 0])), (a 5, .inr (7, [.ref (a 6), .ref (a 8), .int 0, .int 0]))]) [0, 1, 2] (by decide) rfl
  have hFc := va_free (wc := [(a 0, .inr (11, [.ref (a 1), .ref (a 2), .ref (a 3), .ref (a 4), .ref (a 5), .ref (a 10), .ref (a 15), .ref (a 17), .null, .int 0, .int 0, .int 0])), (a 3, .inr (2, [.int 0, .ref E, .int 0])), (a 5, .inr (7, [.ref (a 6), .ref (a 8), .int 0, .int 0]))]) hD hS hA [0, 1, 2] rfl
  refine va_calli (va_runV (As := []) (rest := [.int 0, .ref o]) ⟨hx, hb, hml, hown, hts⟩ (c_X8_openView l D dA E a  s.heap.size ) (cwV 0 hts (ga_V q385 q386 q383 q113 q384) rfl rfl rfl (by decide +kernel) ⟨(Nat.le_of_ble_eq_true rfl), (Nat.le_of_ble_eq_true rfl)⟩) ⟨pb_blind, va_recv hK hPc (ci := 11) (q0 := 0) rfl rfl, pb_pre hK hPc hDc hZ hS hFc _⟩ rfl rfl hl.1 rfl (lv_room (Nat.le_of_ble_eq_true rfl)) dL_openView_3 ⟨(Nat.le_of_ble_eq_true rfl), (Nat.le_of_ble_eq_true rfl)⟩) hS (fun q _ h => hFc q h) hFc (fun r u t H1 locs ht hvm hw hB hz1 hk1 hS => ?_)
  refine W.widen (k := 4) (n := 44) (Nat.le_of_ble_eq_true rfl) (Nat.le_of_ble_eq_true rfl) ?_
  obtain ⟨r1, rfl⟩ : ∃ z, z = r := ⟨_, rfl⟩
  obtain ⟨u2, rfl⟩ : ∃ z, z = u := ⟨_, rfl⟩
  have hw3 := hw
  clear hw
  obtain ⟨hP, hD⟩ := jn_drop (wr := [(o, .inl (dA 3, 1, .inr (.inl g)))]) hP hD [0, 1, 2] [3] rfl rfl (by decide) (by decide) hk1 hFc
  generalize H1 = H at hP hS ⊢
  have hP : va_P D vwCl [(o, .inl (dA 3, 1, .inr (.inl g)))] H := hP
  have hD : va_D A [(o, .inl (dA 3, 1, .inr (.inl g)))] := hD
  obtain rfl : r1 = 0 := hw3
  refine lv_i2l (v := 0) hx hb dL_openView_6 (by decide) ?_
  refine va_last hx hb hK hP hD hS 0 3 rfl rfl (vi_c (by decide)) dL_openView_7 (fun H locs hP hD hS => ?_)
  have hP : va_P D vwCl [(o, .inl (dA 3, 1, .inr (.inl (vp_updL g (0 : Int32).toNatClampNeg 0))))] H := hP
  have hD : va_D A [(o, .inl (dA 3, 1, .inr (.inl (vp_updL g (0 : Int32).toNatClampNeg 0))))] := hD
  refine lv_goto (tgt := 14) hx hb dL_openView_8 (by decide) ?_
  refine lv_iconst (v := 0) hx hb dL_openView_14 (by decide) ?_
  refine W.widen (k := 4) (n := 44) (Nat.le_of_ble_eq_true rfl) (Nat.le_of_ble_eq_true rfl) ?_
  refine vx_ret ?_
  have hP9 := hP.sub (ws' := [(o, .inl (dA 3, 1, .inr (.inl (vp_updL g (0 : Int32).toNatClampNeg 0))))]) [0] rfl
  have hD9 := hD.sub (ws' := [(o, .inl (dA 3, 1, .inr (.inl (vp_updL g (0 : Int32).toNatClampNeg 0))))]) [0] (by decide) rfl
  exact W.iret (v := 0) hx hb hr (fun t ht hW => ⟨⟨0, (vp_updL g (0 : Int32).toNatClampNeg 0), rfl, (⟨rfl, rfl⟩), ⟨by rw [ht]; exact hP9, hD9⟩⟩, hS.F ht⟩) hS.2.2 dL_openView_15

set_option maxHeartbeats 4000000 in
set_option maxRecDepth 100000 in
theorem c_L_closeView (l : Launch) (hlt : l.stackTraces = false) (D : va_G) (dA : Nat → ClassId) (E : Nat) (a : Nat → Nat) (o : Nat) (g : Nat → Int64) (p0 : Int32) (sz : Nat)  : vx_Met l yL_closeView (wq (.codeWith yL_closeView cL_closeView 4 (some .int) [(0, 9, 12, 21)])) { frames := 7, cells := 1, slots := 6, locals := 104 } (va_Pc [.ref (a 0), .int p0, .ref o] (PcB D dA E [(a 0, .inr (11, [.ref (a 1), .ref (a 2), .ref (a 3), .ref (a 4), .ref (a 5), .ref (a 10), .ref (a 15), .ref (a 17), .null, .int 0, .int 0, .int 0])), (a 3, .inr (2, [.int 0, .ref E, .int 0])), (o, .inl (dA 3, 1, .inr (.inl g)))] sz)) (va_Qi (fun (r : Int32) (u : Nat → Int64) => r = 1) (fun u t => va_P D vwCl [(o, .inl (dA 3, 1, .inr (.inl u)))] t.heap ∧ va_D (va_A [(a 0, .inr (11, [.ref (a 1), .ref (a 2), .ref (a 3), .ref (a 4), .ref (a 5), .ref (a 10), .ref (a 15), .ref (a 17), .null, .int 0, .int 0, .int 0])), (a 3, .inr (2, [.int 0, .ref E, .int 0])), (o, .inl (dA 3, 1, .inr (.inl g)))] sz) [(o, .inl (dA 3, 1, .inr (.inl u)))]) (va_A [(a 0, .inr (11, [.ref (a 1), .ref (a 2), .ref (a 3), .ref (a 4), .ref (a 5), .ref (a 10), .ref (a 15), .ref (a 17), .null, .int 0, .int 0, .int 0])), (a 3, .inr (2, [.int 0, .ref E, .int 0])), (o, .inl (dA 3, 1, .inr (.inl g)))] sz)) (vx_X (fun (k : Nat) => False) (fun E9 k t => E9 = xN k) (va_A [(a 0, .inr (11, [.ref (a 1), .ref (a 2), .ref (a 3), .ref (a 4), .ref (a 5), .ref (a 10), .ref (a 15), .ref (a 17), .null, .int 0, .int 0, .int 0])), (a 3, .inr (2, [.int 0, .ref E, .int 0])), (o, .inl (dA 3, 1, .inr (.inl g)))] sz)) 1 6 (va_A [(a 0, .inr (11, [.ref (a 1), .ref (a 2), .ref (a 3), .ref (a 4), .ref (a 5), .ref (a 10), .ref (a 15), .ref (a 17), .null, .int 0, .int 0, .int 0])), (a 3, .inr (2, [.int 0, .ref E, .int 0])), (o, .inl (dA 3, 1, .inr (.inl g)))] sz) := by
  refine mh_of (y := yL_closeView) (av := [.ref (a 0), .int p0, .ref o]) (maxL := 4) (Qc := fun A => va_Qi (fun (r : Int32) (u : Nat → Int64) => r = 1) (fun u t => va_P D vwCl [(o, .inl (dA 3, 1, .inr (.inl u)))] t.heap ∧ va_D A [(o, .inl (dA 3, 1, .inr (.inl u)))]) A) (XC := fun A => vx_X (fun (k : Nat) => False) (fun E9 k t => E9 = xN k) A) RL rfl (by decide) (Nat.le_of_ble_eq_true rfl) ?_
  intro p e s m args below meth c hae hx hb hr hts hown hlocks hml hnm htb hP hK A hAe hD hZ hS hA ls hl
  have hl : lv_has ls 4 [(0, .ref (a 0)), (1, .int p0), (2, .ref o)] := hl
  refine lv_aload_n hx hb dL_closeView_0 rfl (lv_at hl 2 rfl) ?_
  refine lv_iconst (v := 0) hx hb dL_closeView_1 (by decide) ?_
  refine lv_aload_n hx hb dL_closeView_2 rfl (lv_at hl 0 rfl) ?_
  refine lv_iload_n hx hb dL_closeView_3 rfl (lv_at hl 1 rfl) ?_
  have hPc := hP.sub (ws' := [(a 0, .inr (11, [.ref (a 1), .ref (a 2), .ref (a 3), .ref (a 4), .ref (a 5), .ref (a 10), .ref (a 15), .ref (a 17), .null, .int 0, .int 0, .int 0])), (a 3, .inr (2, [.int 0, .ref E, .int 0]))]) [0, 1] rfl
  have hDc := hD.sub (ws' := [(a 0, .inr (11, [.ref (a 1), .ref (a 2), .ref (a 3), .ref (a 4), .ref (a 5), .ref (a 10), .ref (a 15), .ref (a 17), .null, .int 0, .int 0, .int 0])), (a 3, .inr (2, [.int 0, .ref E, .int 0]))]) [0, 1] (by decide) rfl
  have hFc := va_free (wc := [(a 0, .inr (11, [.ref (a 1), .ref (a 2), .ref (a 3), .ref (a 4), .ref (a 5), .ref (a 10), .ref (a 15), .ref (a 17), .null, .int 0, .int 0, .int 0])), (a 3, .inr (2, [.int 0, .ref E, .int 0]))]) hD hS hA [0, 1] rfl
  refine vx_calli (vx_runV (As := [.int p0]) (rest := [.int 0, .ref o]) ⟨hx, hb, hml, hown, hts⟩ (c_X8_closeView l hlt D dA E a p0 s.heap.size ) (cwV 1 hts (ga_V q389 q390 q387 q113 q388) rfl rfl rfl (by decide +kernel) ⟨(Nat.le_of_ble_eq_true rfl), (Nat.le_of_ble_eq_true rfl)⟩) ⟨pb_blind, va_recv hK hPc (ci := 11) (q0 := 0) rfl rfl, pb_pre hK hPc hDc hZ hS hFc _⟩ rfl rfl hl.1 rfl (lv_room (Nat.le_of_ble_eq_true rfl)) dL_closeView_4 ⟨(Nat.le_of_ble_eq_true rfl), (Nat.le_of_ble_eq_true rfl)⟩) hS (fun q _ h => hFc q h) hFc (fun q _ h => hFc q h) (fun E9 ce q9 k t H1 locs ht hvm hpx hBX hz1 hk1 hS hce hcv hcl => ?_) (fun r u t H1 locs ht hvm hw hB hz1 hk1 hS => ?_)
  · obtain ⟨hP, hD⟩ := jn_drop (wr := [(o, .inl (dA 3, 1, .inr (.inl g)))]) hP hD [0, 1] [2] rfl rfl (by decide) (by decide) hk1 hFc
    generalize H1 = H at hP hS hce ⊢
    have hP : va_P D vwCl [(o, .inl (dA 3, 1, .inr (.inl g)))] H := hP
    have hD : va_D A [(o, .inl (dA 3, 1, .inr (.inl g)))] := hD
    refine vx_widen (k := 1) (n := 6) (Nat.le_of_ble_eq_true rfl) (Nat.le_of_ble_eq_true rfl) ?_
    subst hpx
    subst hBX
    refine vx_catch (own := RL) (name := "java/lang/IndexOutOfBoundsException") (E := "java/lang/IndexOutOfBoundsException") hown [] ⟨0, 9, 12, 21⟩ [] htb (fun _ h9 => absurd h9 List.not_mem_nil) rfl (by decide) (hts _ q341) (va_Nw.use rfl (hZ.1.1 _ (List.mem_of_getElem? (i := 3) rfl))) hce hcv hcl ?_
    refine W.eq (g2 := F0 m 12 ls [.ref q9]) rfl ?_
    refine lv_astore_n (lv' := [(3, .ref q9), (0, .ref (a 0)), (1, .int p0), (2, .ref o)]) hx hb dL_closeView_12 rfl hl (by decide) rfl (fun ls hl => ?_)
    refine lv_iconst (v := 1) hx hb dL_closeView_13 (by decide) ?_
    refine W.widen (k := 1) (n := 6) (Nat.le_of_ble_eq_true rfl) (Nat.le_of_ble_eq_true rfl) ?_
    refine vx_ret ?_
    have hP9 := hP.sub (ws' := [(o, .inl (dA 3, 1, .inr (.inl g)))]) [0] rfl
    have hD9 := hD.sub (ws' := [(o, .inl (dA 3, 1, .inr (.inl g)))]) [0] (by decide) rfl
    exact W.iret (v := 1) hx hb hr (fun t ht hW => ⟨⟨1, g, rfl, (rfl), ⟨by rw [ht]; exact hP9, hD9⟩⟩, hS.F ht⟩) hS.2.2 dL_closeView_14
  · exact hw.elim

set_option maxHeartbeats 4000000 in
set_option maxRecDepth 100000 in
theorem c_L_seen (l : Launch) (hlt : l.stackTraces = false) (D : va_G) (dA : Nat → ClassId) (E : Nat) (a : Nat → Nat) (o : Nat) (g : Nat → Int64) (p0 : Int32) (sz : Nat)  : vx_Met l yL_seen (wq (.codeWith yL_seen cL_seen 4 (some .int) [(0, 9, 12, 21)])) { frames := 8, cells := 1, slots := 6, locals := 125 } (va_Pc [.ref (a 0), .int p0, .ref o] (PcB D dA E [(a 0, .inr (11, [.ref (a 1), .ref (a 2), .ref (a 3), .ref (a 4), .ref (a 5), .ref (a 10), .ref (a 15), .ref (a 17), .null, .int 0, .int 0, .int 0])), (a 3, .inr (2, [.int 0, .ref E, .int 0])), (o, .inl (dA 3, 1, .inr (.inl g)))] sz)) (va_Qi (fun (r : Int32) (u : Nat → Int64) => r = 1) (fun u t => va_P D vwCl [(o, .inl (dA 3, 1, .inr (.inl u)))] t.heap ∧ va_D (va_A [(a 0, .inr (11, [.ref (a 1), .ref (a 2), .ref (a 3), .ref (a 4), .ref (a 5), .ref (a 10), .ref (a 15), .ref (a 17), .null, .int 0, .int 0, .int 0])), (a 3, .inr (2, [.int 0, .ref E, .int 0])), (o, .inl (dA 3, 1, .inr (.inl g)))] sz) [(o, .inl (dA 3, 1, .inr (.inl u)))]) (va_A [(a 0, .inr (11, [.ref (a 1), .ref (a 2), .ref (a 3), .ref (a 4), .ref (a 5), .ref (a 10), .ref (a 15), .ref (a 17), .null, .int 0, .int 0, .int 0])), (a 3, .inr (2, [.int 0, .ref E, .int 0])), (o, .inl (dA 3, 1, .inr (.inl g)))] sz)) (vx_X (fun (k : Nat) => False) (fun E9 k t => E9 = xN k) (va_A [(a 0, .inr (11, [.ref (a 1), .ref (a 2), .ref (a 3), .ref (a 4), .ref (a 5), .ref (a 10), .ref (a 15), .ref (a 17), .null, .int 0, .int 0, .int 0])), (a 3, .inr (2, [.int 0, .ref E, .int 0])), (o, .inl (dA 3, 1, .inr (.inl g)))] sz)) 1 6 (va_A [(a 0, .inr (11, [.ref (a 1), .ref (a 2), .ref (a 3), .ref (a 4), .ref (a 5), .ref (a 10), .ref (a 15), .ref (a 17), .null, .int 0, .int 0, .int 0])), (a 3, .inr (2, [.int 0, .ref E, .int 0])), (o, .inl (dA 3, 1, .inr (.inl g)))] sz) := by
  refine mh_of (y := yL_seen) (av := [.ref (a 0), .int p0, .ref o]) (maxL := 4) (Qc := fun A => va_Qi (fun (r : Int32) (u : Nat → Int64) => r = 1) (fun u t => va_P D vwCl [(o, .inl (dA 3, 1, .inr (.inl u)))] t.heap ∧ va_D A [(o, .inl (dA 3, 1, .inr (.inl u)))]) A) (XC := fun A => vx_X (fun (k : Nat) => False) (fun E9 k t => E9 = xN k) A) RL rfl (by decide) (Nat.le_of_ble_eq_true rfl) ?_
  intro p e s m args below meth c hae hx hb hr hts hown hlocks hml hnm htb hP hK A hAe hD hZ hS hA ls hl
  have hl : lv_has ls 4 [(0, .ref (a 0)), (1, .int p0), (2, .ref o)] := hl
  refine lv_aload_n hx hb dL_seen_0 rfl (lv_at hl 2 rfl) ?_
  refine lv_iconst (v := 0) hx hb dL_seen_1 (by decide) ?_
  refine lv_aload_n hx hb dL_seen_2 rfl (lv_at hl 0 rfl) ?_
  refine lv_iload_n hx hb dL_seen_3 rfl (lv_at hl 1 rfl) ?_
  have hPc := hP.sub (ws' := [(a 0, .inr (11, [.ref (a 1), .ref (a 2), .ref (a 3), .ref (a 4), .ref (a 5), .ref (a 10), .ref (a 15), .ref (a 17), .null, .int 0, .int 0, .int 0])), (a 3, .inr (2, [.int 0, .ref E, .int 0]))]) [0, 1] rfl
  have hDc := hD.sub (ws' := [(a 0, .inr (11, [.ref (a 1), .ref (a 2), .ref (a 3), .ref (a 4), .ref (a 5), .ref (a 10), .ref (a 15), .ref (a 17), .null, .int 0, .int 0, .int 0])), (a 3, .inr (2, [.int 0, .ref E, .int 0]))]) [0, 1] (by decide) rfl
  have hFc := va_free (wc := [(a 0, .inr (11, [.ref (a 1), .ref (a 2), .ref (a 3), .ref (a 4), .ref (a 5), .ref (a 10), .ref (a 15), .ref (a 17), .null, .int 0, .int 0, .int 0])), (a 3, .inr (2, [.int 0, .ref E, .int 0]))]) hD hS hA [0, 1] rfl
  refine vx_calli (vx_runV (As := [.int p0]) (rest := [.int 0, .ref o]) ⟨hx, hb, hml, hown, hts⟩ (c_X8_seen l hlt D dA E a p0 s.heap.size ) (cwV 1 hts (ga_V q393 q394 q391 q113 q392) rfl rfl rfl (by decide +kernel) ⟨(Nat.le_of_ble_eq_true rfl), (Nat.le_of_ble_eq_true rfl)⟩) ⟨pb_blind, va_recv hK hPc (ci := 11) (q0 := 0) rfl rfl, pb_pre hK hPc hDc hZ hS hFc _⟩ rfl rfl hl.1 rfl (lv_room (Nat.le_of_ble_eq_true rfl)) dL_seen_4 ⟨(Nat.le_of_ble_eq_true rfl), (Nat.le_of_ble_eq_true rfl)⟩) hS (fun q _ h => hFc q h) hFc (fun q _ h => hFc q h) (fun E9 ce q9 k t H1 locs ht hvm hpx hBX hz1 hk1 hS hce hcv hcl => ?_) (fun r u t H1 locs ht hvm hw hB hz1 hk1 hS => ?_)
  · obtain ⟨hP, hD⟩ := jn_drop (wr := [(o, .inl (dA 3, 1, .inr (.inl g)))]) hP hD [0, 1] [2] rfl rfl (by decide) (by decide) hk1 hFc
    generalize H1 = H at hP hS hce ⊢
    have hP : va_P D vwCl [(o, .inl (dA 3, 1, .inr (.inl g)))] H := hP
    have hD : va_D A [(o, .inl (dA 3, 1, .inr (.inl g)))] := hD
    refine vx_widen (k := 1) (n := 6) (Nat.le_of_ble_eq_true rfl) (Nat.le_of_ble_eq_true rfl) ?_
    subst hpx
    subst hBX
    refine vx_catch (own := RL) (name := "java/lang/IndexOutOfBoundsException") (E := "java/lang/IndexOutOfBoundsException") hown [] ⟨0, 9, 12, 21⟩ [] htb (fun _ h9 => absurd h9 List.not_mem_nil) rfl (by decide) (hts _ q341) (va_Nw.use rfl (hZ.1.1 _ (List.mem_of_getElem? (i := 3) rfl))) hce hcv hcl ?_
    refine W.eq (g2 := F0 m 12 ls [.ref q9]) rfl ?_
    refine lv_astore_n (lv' := [(3, .ref q9), (0, .ref (a 0)), (1, .int p0), (2, .ref o)]) hx hb dL_seen_12 rfl hl (by decide) rfl (fun ls hl => ?_)
    refine lv_iconst (v := 1) hx hb dL_seen_13 (by decide) ?_
    refine W.widen (k := 1) (n := 6) (Nat.le_of_ble_eq_true rfl) (Nat.le_of_ble_eq_true rfl) ?_
    refine vx_ret ?_
    have hP9 := hP.sub (ws' := [(o, .inl (dA 3, 1, .inr (.inl g)))]) [0] rfl
    have hD9 := hD.sub (ws' := [(o, .inl (dA 3, 1, .inr (.inl g)))]) [0] (by decide) rfl
    exact W.iret (v := 1) hx hb hr (fun t ht hW => ⟨⟨1, g, rfl, (rfl), ⟨by rw [ht]; exact hP9, hD9⟩⟩, hS.F ht⟩) hS.2.2 dL_seen_14
  · exact hw.elim

set_option maxHeartbeats 4000000 in
set_option maxRecDepth 100000 in
theorem c_L_ask (l : Launch) (hlt : l.stackTraces = false) (D : va_G) (dA : Nat → ClassId) (E : Nat) (a : Nat → Nat) (o : Nat) (g : Nat → Int64) (p0 p1 p2 p3 p4 : Int32) (sz : Nat) (hch : narrow .char (.int p0) = .int p0 ∧ fits .char (.int p0) = true) : vx_Met l yL_ask (wq (.codeWith yL_ask cL_ask 8 (some .int) [(0, 16, 19, 13), (0, 16, 23, 15)])) { frames := 7, cells := 2, slots := 16, locals := 126 } (va_Pc [.ref (a 0), .int p0, .int p1, .int p2, .int p3, .int p4, .ref o] (PcB D dA E [(a 0, .inr (11, [.ref (a 1), .ref (a 2), .ref (a 3), .ref (a 4), .ref (a 5), .ref (a 10), .ref (a 15), .ref (a 17), .null, .int 0, .int 0, .int 0])), (a 4, .inr (2, [.int 0, .ref E, .int 0])), (o, .inl (dA 3, 1, .inr (.inl g)))] sz)) (va_Qi (fun (r : Int32) (u : Nat → Int64) => ((okAsk p0 p1 p2 p3 p4 = true) ∧ r = 0 ∧ u 0 = 0) ∨ ((okAsk p0 p1 p2 p3 p4 = false) ∧ r = 1)) (fun u t => va_P D vwCl [(o, .inl (dA 3, 1, .inr (.inl u)))] t.heap ∧ va_D (va_A [(a 0, .inr (11, [.ref (a 1), .ref (a 2), .ref (a 3), .ref (a 4), .ref (a 5), .ref (a 10), .ref (a 15), .ref (a 17), .null, .int 0, .int 0, .int 0])), (a 4, .inr (2, [.int 0, .ref E, .int 0])), (o, .inl (dA 3, 1, .inr (.inl g)))] sz) [(o, .inl (dA 3, 1, .inr (.inl u)))]) (va_A [(a 0, .inr (11, [.ref (a 1), .ref (a 2), .ref (a 3), .ref (a 4), .ref (a 5), .ref (a 10), .ref (a 15), .ref (a 17), .null, .int 0, .int 0, .int 0])), (a 4, .inr (2, [.int 0, .ref E, .int 0])), (o, .inl (dA 3, 1, .inr (.inl g)))] sz)) (vx_X (fun (k : Nat) => False) (fun E9 k t => E9 = xN k) (va_A [(a 0, .inr (11, [.ref (a 1), .ref (a 2), .ref (a 3), .ref (a 4), .ref (a 5), .ref (a 10), .ref (a 15), .ref (a 17), .null, .int 0, .int 0, .int 0])), (a 4, .inr (2, [.int 0, .ref E, .int 0])), (o, .inl (dA 3, 1, .inr (.inl g)))] sz)) 2 16 (va_A [(a 0, .inr (11, [.ref (a 1), .ref (a 2), .ref (a 3), .ref (a 4), .ref (a 5), .ref (a 10), .ref (a 15), .ref (a 17), .null, .int 0, .int 0, .int 0])), (a 4, .inr (2, [.int 0, .ref E, .int 0])), (o, .inl (dA 3, 1, .inr (.inl g)))] sz) := by
  refine mh_of (y := yL_ask) (av := [.ref (a 0), .int p0, .int p1, .int p2, .int p3, .int p4, .ref o]) (maxL := 8) (Qc := fun A => va_Qi (fun (r : Int32) (u : Nat → Int64) => ((okAsk p0 p1 p2 p3 p4 = true) ∧ r = 0 ∧ u 0 = 0) ∨ ((okAsk p0 p1 p2 p3 p4 = false) ∧ r = 1)) (fun u t => va_P D vwCl [(o, .inl (dA 3, 1, .inr (.inl u)))] t.heap ∧ va_D A [(o, .inl (dA 3, 1, .inr (.inl u)))]) A) (XC := fun A => vx_X (fun (k : Nat) => False) (fun E9 k t => E9 = xN k) A) RL rfl (by decide) (Nat.le_of_ble_eq_true rfl) ?_
  intro p e s m args below meth c hae hx hb hr hts hown hlocks hml hnm htb hP hK A hAe hD hZ hS hA ls hl
  have hl : lv_has ls 8 [(0, .ref (a 0)), (1, .int p0), (2, .int p1), (3, .int p2), (4, .int p3), (5, .int p4), (6, .ref o)] := hl
  refine lv_aload hx hb dL_ask_0 (lv_at hl 6 rfl) ?_
  refine lv_iconst (v := 0) hx hb dL_ask_2 (by decide) ?_
  refine lv_aload_n hx hb dL_ask_3 rfl (lv_at hl 0 rfl) ?_
  refine lv_iload_n hx hb dL_ask_4 rfl (lv_at hl 1 rfl) ?_
  refine lv_iload_n hx hb dL_ask_5 rfl (lv_at hl 2 rfl) ?_
  refine lv_iload_n hx hb dL_ask_6 rfl (lv_at hl 3 rfl) ?_
  refine lv_iload hx hb dL_ask_7 (lv_at hl 4 rfl) ?_
  refine lv_iload hx hb dL_ask_9 (lv_at hl 5 rfl) ?_
  have hPc := hP.sub (ws' := [(a 0, .inr (11, [.ref (a 1), .ref (a 2), .ref (a 3), .ref (a 4), .ref (a 5), .ref (a 10), .ref (a 15), .ref (a 17), .null, .int 0, .int 0, .int 0])), (a 4, .inr (2, [.int 0, .ref E, .int 0]))]) [0, 1] rfl
  have hDc := hD.sub (ws' := [(a 0, .inr (11, [.ref (a 1), .ref (a 2), .ref (a 3), .ref (a 4), .ref (a 5), .ref (a 10), .ref (a 15), .ref (a 17), .null, .int 0, .int 0, .int 0])), (a 4, .inr (2, [.int 0, .ref E, .int 0]))]) [0, 1] (by decide) rfl
  have hFc := va_free (wc := [(a 0, .inr (11, [.ref (a 1), .ref (a 2), .ref (a 3), .ref (a 4), .ref (a 5), .ref (a 10), .ref (a 15), .ref (a 17), .null, .int 0, .int 0, .int 0])), (a 4, .inr (2, [.int 0, .ref E, .int 0]))]) hD hS hA [0, 1] rfl
  refine vx_calli (vx_runV (As := [.int p0, .int p1, .int p2, .int p3, .int p4]) (rest := [.int 0, .ref o]) ⟨hx, hb, hml, hown, hts⟩ (c_X8_ask l hlt D dA E a p0 p1 p2 p3 p4 s.heap.size hch) (cwV 5 hts (ga_V q397 q398 q395 q113 q396) rfl rfl rfl (by decide +kernel) ⟨(Nat.le_of_ble_eq_true rfl), (Nat.le_of_ble_eq_true rfl)⟩) ⟨pb_blind, va_recv hK hPc (ci := 11) (q0 := 0) rfl rfl, pb_pre hK hPc hDc hZ hS hFc _⟩ rfl rfl hl.1 rfl (lv_room (Nat.le_of_ble_eq_true rfl)) dL_ask_11 ⟨(Nat.le_of_ble_eq_true rfl), (Nat.le_of_ble_eq_true rfl)⟩) hS (fun q _ h => hFc q h) hFc (fun q _ h => hFc q h) (fun E9 ce q9 k t H1 locs ht hvm hpx hBX hz1 hk1 hS hce hcv hcl => ?_) (fun r u t H1 locs ht hvm hw hB hz1 hk1 hS => ?_)
  · obtain ⟨hP, hD⟩ := jn_drop (wr := [(o, .inl (dA 3, 1, .inr (.inl g)))]) hP hD [0, 1] [2] rfl rfl (by decide) (by decide) hk1 hFc
    generalize H1 = H at hP hS hce ⊢
    have hP : va_P D vwCl [(o, .inl (dA 3, 1, .inr (.inl g)))] H := hP
    have hD : va_D A [(o, .inl (dA 3, 1, .inr (.inl g)))] := hD
    refine vx_widen (k := 2) (n := 16) (Nat.le_of_ble_eq_true rfl) (Nat.le_of_ble_eq_true rfl) ?_
    obtain ⟨hq, rfl⟩ := hpx
    subst hBX
    refine vx_catch (own := RL) (name := "java/lang/IllegalArgumentException") (E := "java/lang/IllegalArgumentException") hown [] ⟨0, 16, 19, 13⟩ [⟨0, 16, 23, 15⟩] htb (fun _ h9 => absurd h9 List.not_mem_nil) rfl (by decide) (hts _ q336) (va_Nw.use rfl (hZ.1.1 _ (List.mem_of_getElem? (i := 0) rfl))) hce hcv hcl ?_
    refine W.eq (g2 := F0 m 19 ls [.ref q9]) rfl ?_
    refine lv_astore (lv' := [(7, .ref q9), (0, .ref (a 0)), (1, .int p0), (2, .int p1), (3, .int p2), (4, .int p3), (5, .int p4), (6, .ref o)]) hx hb dL_ask_19 hl (by decide) rfl (fun ls hl => ?_)
    refine lv_iconst (v := 1) hx hb dL_ask_21 (by decide) ?_
    refine W.widen (k := 2) (n := 16) (Nat.le_of_ble_eq_true rfl) (Nat.le_of_ble_eq_true rfl) ?_
    refine vx_ret ?_
    have hP9 := hP.sub (ws' := [(o, .inl (dA 3, 1, .inr (.inl g)))]) [0] rfl
    have hD9 := hD.sub (ws' := [(o, .inl (dA 3, 1, .inr (.inl g)))]) [0] (by decide) rfl
    exact W.iret (v := 1) hx hb hr (fun t ht hW => ⟨⟨1, g, rfl, (Or.inr (⟨hq, rfl⟩)), ⟨by rw [ht]; exact hP9, hD9⟩⟩, hS.F ht⟩) hS.2.2 dL_ask_22
  · refine W.widen (k := 2) (n := 16) (Nat.le_of_ble_eq_true rfl) (Nat.le_of_ble_eq_true rfl) ?_
    obtain ⟨r1, rfl⟩ : ∃ z, z = r := ⟨_, rfl⟩
    obtain ⟨u2, rfl⟩ : ∃ z, z = u := ⟨_, rfl⟩
    have hw3 := hw
    clear hw
    obtain ⟨hP, hD⟩ := jn_drop (wr := [(o, .inl (dA 3, 1, .inr (.inl g)))]) hP hD [0, 1] [2] rfl rfl (by decide) (by decide) hk1 hFc
    generalize H1 = H at hP hS ⊢
    have hP : va_P D vwCl [(o, .inl (dA 3, 1, .inr (.inl g)))] H := hP
    have hD : va_D A [(o, .inl (dA 3, 1, .inr (.inl g)))] := hD
    obtain ⟨hq, hw9⟩ := hw3
    obtain rfl : r1 = 0 := hw9
    refine lv_i2l (v := 0) hx hb dL_ask_14 (by decide) ?_
    refine va_last hx hb hK hP hD hS 0 3 rfl rfl (vi_c (by decide)) dL_ask_15 (fun H locs hP hD hS => ?_)
    have hP : va_P D vwCl [(o, .inl (dA 3, 1, .inr (.inl (vp_updL g (0 : Int32).toNatClampNeg 0))))] H := hP
    have hD : va_D A [(o, .inl (dA 3, 1, .inr (.inl (vp_updL g (0 : Int32).toNatClampNeg 0))))] := hD
    refine lv_goto (tgt := 27) hx hb dL_ask_16 (by decide) ?_
    refine lv_iconst (v := 0) hx hb dL_ask_27 (by decide) ?_
    refine W.widen (k := 2) (n := 16) (Nat.le_of_ble_eq_true rfl) (Nat.le_of_ble_eq_true rfl) ?_
    refine vx_ret ?_
    have hP9 := hP.sub (ws' := [(o, .inl (dA 3, 1, .inr (.inl (vp_updL g (0 : Int32).toNatClampNeg 0))))]) [0] rfl
    have hD9 := hD.sub (ws' := [(o, .inl (dA 3, 1, .inr (.inl (vp_updL g (0 : Int32).toNatClampNeg 0))))]) [0] (by decide) rfl
    exact W.iret (v := 0) hx hb hr (fun t ht hW => ⟨⟨0, (vp_updL g (0 : Int32).toNatClampNeg 0), rfl, (Or.inl (⟨hq, rfl, rfl⟩)), ⟨by rw [ht]; exact hP9, hD9⟩⟩, hS.F ht⟩) hS.2.2 dL_ask_28

set_option maxHeartbeats 4000000 in
set_option maxRecDepth 100000 in
theorem c_L_join (l : Launch) (hlt : l.stackTraces = false) (D : va_G) (dA : Nat → ClassId) (E : Nat) (a : Nat → Nat) (o : Nat) (g : Nat → Int64) (p0 p1 p2 : Int32) (sz : Nat) (hch : narrow .char (.int p0) = .int p0 ∧ fits .char (.int p0) = true) : vx_Met l yL_join (wq (.codeWith yL_join cL_join 6 (some .int) [(0, 12, 15, 13), (0, 12, 19, 21), (0, 12, 23, 15)])) { frames := 8, cells := 1, slots := 6, locals := 127 } (va_Pc [.ref (a 0), .int p0, .int p1, .int p2, .ref o] (PcB D dA E [(a 0, .inr (11, [.ref (a 1), .ref (a 2), .ref (a 3), .ref (a 4), .ref (a 5), .ref (a 10), .ref (a 15), .ref (a 17), .null, .int 0, .int 0, .int 0])), (a 4, .inr (2, [.int 0, .ref E, .int 0])), (o, .inl (dA 3, 1, .inr (.inl g)))] sz)) (va_Qi (fun (r : Int32) (u : Nat → Int64) => ((okJ p0 = false) ∧ r = 1) ∨ ((okJ p0 = true) ∧ r = 2)) (fun u t => va_P D vwCl [(o, .inl (dA 3, 1, .inr (.inl u)))] t.heap ∧ va_D (va_A [(a 0, .inr (11, [.ref (a 1), .ref (a 2), .ref (a 3), .ref (a 4), .ref (a 5), .ref (a 10), .ref (a 15), .ref (a 17), .null, .int 0, .int 0, .int 0])), (a 4, .inr (2, [.int 0, .ref E, .int 0])), (o, .inl (dA 3, 1, .inr (.inl g)))] sz) [(o, .inl (dA 3, 1, .inr (.inl u)))]) (va_A [(a 0, .inr (11, [.ref (a 1), .ref (a 2), .ref (a 3), .ref (a 4), .ref (a 5), .ref (a 10), .ref (a 15), .ref (a 17), .null, .int 0, .int 0, .int 0])), (a 4, .inr (2, [.int 0, .ref E, .int 0])), (o, .inl (dA 3, 1, .inr (.inl g)))] sz)) (vx_X (fun (k : Nat) => False) (fun E9 k t => E9 = xN k) (va_A [(a 0, .inr (11, [.ref (a 1), .ref (a 2), .ref (a 3), .ref (a 4), .ref (a 5), .ref (a 10), .ref (a 15), .ref (a 17), .null, .int 0, .int 0, .int 0])), (a 4, .inr (2, [.int 0, .ref E, .int 0])), (o, .inl (dA 3, 1, .inr (.inl g)))] sz)) 1 6 (va_A [(a 0, .inr (11, [.ref (a 1), .ref (a 2), .ref (a 3), .ref (a 4), .ref (a 5), .ref (a 10), .ref (a 15), .ref (a 17), .null, .int 0, .int 0, .int 0])), (a 4, .inr (2, [.int 0, .ref E, .int 0])), (o, .inl (dA 3, 1, .inr (.inl g)))] sz) := by
  refine mh_of (y := yL_join) (av := [.ref (a 0), .int p0, .int p1, .int p2, .ref o]) (maxL := 6) (Qc := fun A => va_Qi (fun (r : Int32) (u : Nat → Int64) => ((okJ p0 = false) ∧ r = 1) ∨ ((okJ p0 = true) ∧ r = 2)) (fun u t => va_P D vwCl [(o, .inl (dA 3, 1, .inr (.inl u)))] t.heap ∧ va_D A [(o, .inl (dA 3, 1, .inr (.inl u)))]) A) (XC := fun A => vx_X (fun (k : Nat) => False) (fun E9 k t => E9 = xN k) A) RL rfl (by decide) (Nat.le_of_ble_eq_true rfl) ?_
  intro p e s m args below meth c hae hx hb hr hts hown hlocks hml hnm htb hP hK A hAe hD hZ hS hA ls hl
  have hl : lv_has ls 6 [(0, .ref (a 0)), (1, .int p0), (2, .int p1), (3, .int p2), (4, .ref o)] := hl
  refine lv_aload hx hb dL_join_0 (lv_at hl 4 rfl) ?_
  refine lv_iconst (v := 0) hx hb dL_join_2 (by decide) ?_
  refine lv_aload_n hx hb dL_join_3 rfl (lv_at hl 0 rfl) ?_
  refine lv_iload_n hx hb dL_join_4 rfl (lv_at hl 1 rfl) ?_
  refine lv_iload_n hx hb dL_join_5 rfl (lv_at hl 2 rfl) ?_
  refine lv_iload_n hx hb dL_join_6 rfl (lv_at hl 3 rfl) ?_
  have hPc := hP.sub (ws' := [(a 0, .inr (11, [.ref (a 1), .ref (a 2), .ref (a 3), .ref (a 4), .ref (a 5), .ref (a 10), .ref (a 15), .ref (a 17), .null, .int 0, .int 0, .int 0])), (a 4, .inr (2, [.int 0, .ref E, .int 0]))]) [0, 1] rfl
  have hDc := hD.sub (ws' := [(a 0, .inr (11, [.ref (a 1), .ref (a 2), .ref (a 3), .ref (a 4), .ref (a 5), .ref (a 10), .ref (a 15), .ref (a 17), .null, .int 0, .int 0, .int 0])), (a 4, .inr (2, [.int 0, .ref E, .int 0]))]) [0, 1] (by decide) rfl
  have hFc := va_free (wc := [(a 0, .inr (11, [.ref (a 1), .ref (a 2), .ref (a 3), .ref (a 4), .ref (a 5), .ref (a 10), .ref (a 15), .ref (a 17), .null, .int 0, .int 0, .int 0])), (a 4, .inr (2, [.int 0, .ref E, .int 0]))]) hD hS hA [0, 1] rfl
  refine vx_calli (vx_runV (As := [.int p0, .int p1, .int p2]) (rest := [.int 0, .ref o]) ⟨hx, hb, hml, hown, hts⟩ (c_X8_join l hlt D dA E a p0 p1 p2 s.heap.size hch) (cwV 3 hts (ga_V q401 q402 q399 q113 q400) rfl rfl rfl (by decide +kernel) ⟨(Nat.le_of_ble_eq_true rfl), (Nat.le_of_ble_eq_true rfl)⟩) ⟨pb_blind, va_recv hK hPc (ci := 11) (q0 := 0) rfl rfl, pb_pre hK hPc hDc hZ hS hFc _⟩ rfl rfl hl.1 rfl (lv_room (Nat.le_of_ble_eq_true rfl)) dL_join_7 ⟨(Nat.le_of_ble_eq_true rfl), (Nat.le_of_ble_eq_true rfl)⟩) hS (fun q _ h => hFc q h) hFc (fun q _ h => hFc q h) (fun E9 ce q9 k t H1 locs ht hvm hpx hBX hz1 hk1 hS hce hcv hcl => ?_) (fun r u t H1 locs ht hvm hw hB hz1 hk1 hS => ?_)
  · obtain ⟨hP, hD⟩ := jn_drop (wr := [(o, .inl (dA 3, 1, .inr (.inl g)))]) hP hD [0, 1] [2] rfl rfl (by decide) (by decide) hk1 hFc
    generalize H1 = H at hP hS hce ⊢
    have hP : va_P D vwCl [(o, .inl (dA 3, 1, .inr (.inl g)))] H := hP
    have hD : va_D A [(o, .inl (dA 3, 1, .inr (.inl g)))] := hD
    refine vx_widen (k := 1) (n := 6) (Nat.le_of_ble_eq_true rfl) (Nat.le_of_ble_eq_true rfl) ?_
    rcases hpx with ⟨hq, rfl⟩ | ⟨hq, rfl⟩
    · subst hBX
      refine vx_catch (own := RL) (name := "java/lang/IllegalArgumentException") (E := "java/lang/IllegalArgumentException") hown [] ⟨0, 12, 15, 13⟩ [⟨0, 12, 19, 21⟩, ⟨0, 12, 23, 15⟩] htb (fun _ h9 => absurd h9 List.not_mem_nil) rfl (by decide) (hts _ q336) (va_Nw.use rfl (hZ.1.1 _ (List.mem_of_getElem? (i := 0) rfl))) hce hcv hcl ?_
      refine W.eq (g2 := F0 m 15 ls [.ref q9]) rfl ?_
      refine lv_astore (lv' := [(5, .ref q9), (0, .ref (a 0)), (1, .int p0), (2, .int p1), (3, .int p2), (4, .ref o)]) hx hb dL_join_15 hl (by decide) rfl (fun ls hl => ?_)
      refine lv_iconst (v := 1) hx hb dL_join_17 (by decide) ?_
      refine W.widen (k := 1) (n := 6) (Nat.le_of_ble_eq_true rfl) (Nat.le_of_ble_eq_true rfl) ?_
      refine vx_ret ?_
      have hP9 := hP.sub (ws' := [(o, .inl (dA 3, 1, .inr (.inl g)))]) [0] rfl
      have hD9 := hD.sub (ws' := [(o, .inl (dA 3, 1, .inr (.inl g)))]) [0] (by decide) rfl
      exact W.iret (v := 1) hx hb hr (fun t ht hW => ⟨⟨1, g, rfl, (Or.inl (⟨hq, rfl⟩)), ⟨by rw [ht]; exact hP9, hD9⟩⟩, hS.F ht⟩) hS.2.2 dL_join_18
    · subst hBX
      refine vx_catch (own := RL) (name := "java/lang/IndexOutOfBoundsException") (E := "java/lang/IndexOutOfBoundsException") hown [⟨0, 12, 15, 13⟩] ⟨0, 12, 19, 21⟩ [⟨0, 12, 23, 15⟩] htb (List.forall_mem_cons.mpr ⟨Or.inr ⟨by decide, "java/lang/IllegalArgumentException", hts _ q336, hZ.1.2.2.2.2.2.2 _ (List.mem_of_getElem? (i := 1) rfl)⟩, (fun _ h9 => absurd h9 List.not_mem_nil)⟩) rfl (by decide) (hts _ q341) (va_Nw.use rfl (hZ.1.1 _ (List.mem_of_getElem? (i := 3) rfl))) hce hcv hcl ?_
      refine W.eq (g2 := F0 m 19 ls [.ref q9]) rfl ?_
      refine lv_astore (lv' := [(5, .ref q9), (0, .ref (a 0)), (1, .int p0), (2, .int p1), (3, .int p2), (4, .ref o)]) hx hb dL_join_19 hl (by decide) rfl (fun ls hl => ?_)
      refine lv_iconst (v := 2) hx hb dL_join_21 (by decide) ?_
      refine W.widen (k := 1) (n := 6) (Nat.le_of_ble_eq_true rfl) (Nat.le_of_ble_eq_true rfl) ?_
      refine vx_ret ?_
      have hP9 := hP.sub (ws' := [(o, .inl (dA 3, 1, .inr (.inl g)))]) [0] rfl
      have hD9 := hD.sub (ws' := [(o, .inl (dA 3, 1, .inr (.inl g)))]) [0] (by decide) rfl
      exact W.iret (v := 2) hx hb hr (fun t ht hW => ⟨⟨2, g, rfl, (Or.inr (⟨hq, rfl⟩)), ⟨by rw [ht]; exact hP9, hD9⟩⟩, hS.F ht⟩) hS.2.2 dL_join_22
  · exact hw.elim

set_option maxHeartbeats 4000000 in
set_option maxRecDepth 100000 in
theorem c_L_hits (l : Launch) (hlt : l.stackTraces = false) (D : va_G) (dA : Nat → ClassId) (E : Nat) (a : Nat → Nat) (o : Nat) (g : Nat → Int64) (p0 p1 : Int32) (sz : Nat)  : vx_Met l yL_hits (wq (.codeWith yL_hits cL_hits 5 (some .int) [(0, 10, 13, 21)])) { frames := 9, cells := 1, slots := 6, locals := 149 } (va_Pc [.ref (a 0), .int p0, .int p1, .ref o] (PcB D dA E [(a 0, .inr (11, [.ref (a 1), .ref (a 2), .ref (a 3), .ref (a 4), .ref (a 5), .ref (a 10), .ref (a 15), .ref (a 17), .null, .int 0, .int 0, .int 0])), (a 3, .inr (2, [.int 0, .ref E, .int 0])), (o, .inl (dA 3, 1, .inr (.inl g)))] sz)) (va_Qi (fun (r : Int32) (u : Nat → Int64) => r = 1) (fun u t => va_P D vwCl [(o, .inl (dA 3, 1, .inr (.inl u)))] t.heap ∧ va_D (va_A [(a 0, .inr (11, [.ref (a 1), .ref (a 2), .ref (a 3), .ref (a 4), .ref (a 5), .ref (a 10), .ref (a 15), .ref (a 17), .null, .int 0, .int 0, .int 0])), (a 3, .inr (2, [.int 0, .ref E, .int 0])), (o, .inl (dA 3, 1, .inr (.inl g)))] sz) [(o, .inl (dA 3, 1, .inr (.inl u)))]) (va_A [(a 0, .inr (11, [.ref (a 1), .ref (a 2), .ref (a 3), .ref (a 4), .ref (a 5), .ref (a 10), .ref (a 15), .ref (a 17), .null, .int 0, .int 0, .int 0])), (a 3, .inr (2, [.int 0, .ref E, .int 0])), (o, .inl (dA 3, 1, .inr (.inl g)))] sz)) (vx_X (fun (k : Nat) => False) (fun E9 k t => E9 = xN k) (va_A [(a 0, .inr (11, [.ref (a 1), .ref (a 2), .ref (a 3), .ref (a 4), .ref (a 5), .ref (a 10), .ref (a 15), .ref (a 17), .null, .int 0, .int 0, .int 0])), (a 3, .inr (2, [.int 0, .ref E, .int 0])), (o, .inl (dA 3, 1, .inr (.inl g)))] sz)) 1 6 (va_A [(a 0, .inr (11, [.ref (a 1), .ref (a 2), .ref (a 3), .ref (a 4), .ref (a 5), .ref (a 10), .ref (a 15), .ref (a 17), .null, .int 0, .int 0, .int 0])), (a 3, .inr (2, [.int 0, .ref E, .int 0])), (o, .inl (dA 3, 1, .inr (.inl g)))] sz) := by
  refine mh_of (y := yL_hits) (av := [.ref (a 0), .int p0, .int p1, .ref o]) (maxL := 5) (Qc := fun A => va_Qi (fun (r : Int32) (u : Nat → Int64) => r = 1) (fun u t => va_P D vwCl [(o, .inl (dA 3, 1, .inr (.inl u)))] t.heap ∧ va_D A [(o, .inl (dA 3, 1, .inr (.inl u)))]) A) (XC := fun A => vx_X (fun (k : Nat) => False) (fun E9 k t => E9 = xN k) A) RL rfl (by decide) (Nat.le_of_ble_eq_true rfl) ?_
  intro p e s m args below meth c hae hx hb hr hts hown hlocks hml hnm htb hP hK A hAe hD hZ hS hA ls hl
  have hl : lv_has ls 5 [(0, .ref (a 0)), (1, .int p0), (2, .int p1), (3, .ref o)] := hl
  refine lv_aload_n hx hb dL_hits_0 rfl (lv_at hl 3 rfl) ?_
  refine lv_iconst (v := 0) hx hb dL_hits_1 (by decide) ?_
  refine lv_aload_n hx hb dL_hits_2 rfl (lv_at hl 0 rfl) ?_
  refine lv_iload_n hx hb dL_hits_3 rfl (lv_at hl 1 rfl) ?_
  refine lv_iload_n hx hb dL_hits_4 rfl (lv_at hl 2 rfl) ?_
  have hPc := hP.sub (ws' := [(a 0, .inr (11, [.ref (a 1), .ref (a 2), .ref (a 3), .ref (a 4), .ref (a 5), .ref (a 10), .ref (a 15), .ref (a 17), .null, .int 0, .int 0, .int 0])), (a 3, .inr (2, [.int 0, .ref E, .int 0]))]) [0, 1] rfl
  have hDc := hD.sub (ws' := [(a 0, .inr (11, [.ref (a 1), .ref (a 2), .ref (a 3), .ref (a 4), .ref (a 5), .ref (a 10), .ref (a 15), .ref (a 17), .null, .int 0, .int 0, .int 0])), (a 3, .inr (2, [.int 0, .ref E, .int 0]))]) [0, 1] (by decide) rfl
  have hFc := va_free (wc := [(a 0, .inr (11, [.ref (a 1), .ref (a 2), .ref (a 3), .ref (a 4), .ref (a 5), .ref (a 10), .ref (a 15), .ref (a 17), .null, .int 0, .int 0, .int 0])), (a 3, .inr (2, [.int 0, .ref E, .int 0]))]) hD hS hA [0, 1] rfl
  refine vx_calli (vx_runV (As := [.int p0, .int p1]) (rest := [.int 0, .ref o]) ⟨hx, hb, hml, hown, hts⟩ (c_X8_hits l hlt D dA E a p0 p1 s.heap.size ) (cwV 2 hts (ga_V q405 q406 q403 q113 q404) rfl rfl rfl (by decide +kernel) ⟨(Nat.le_of_ble_eq_true rfl), (Nat.le_of_ble_eq_true rfl)⟩) ⟨pb_blind, va_recv hK hPc (ci := 11) (q0 := 0) rfl rfl, pb_pre hK hPc hDc hZ hS hFc _⟩ rfl rfl hl.1 rfl (lv_room (Nat.le_of_ble_eq_true rfl)) dL_hits_5 ⟨(Nat.le_of_ble_eq_true rfl), (Nat.le_of_ble_eq_true rfl)⟩) hS (fun q _ h => hFc q h) hFc (fun q _ h => hFc q h) (fun E9 ce q9 k t H1 locs ht hvm hpx hBX hz1 hk1 hS hce hcv hcl => ?_) (fun r u t H1 locs ht hvm hw hB hz1 hk1 hS => ?_)
  · obtain ⟨hP, hD⟩ := jn_drop (wr := [(o, .inl (dA 3, 1, .inr (.inl g)))]) hP hD [0, 1] [2] rfl rfl (by decide) (by decide) hk1 hFc
    generalize H1 = H at hP hS hce ⊢
    have hP : va_P D vwCl [(o, .inl (dA 3, 1, .inr (.inl g)))] H := hP
    have hD : va_D A [(o, .inl (dA 3, 1, .inr (.inl g)))] := hD
    refine vx_widen (k := 1) (n := 6) (Nat.le_of_ble_eq_true rfl) (Nat.le_of_ble_eq_true rfl) ?_
    subst hpx
    subst hBX
    refine vx_catch (own := RL) (name := "java/lang/IndexOutOfBoundsException") (E := "java/lang/IndexOutOfBoundsException") hown [] ⟨0, 10, 13, 21⟩ [] htb (fun _ h9 => absurd h9 List.not_mem_nil) rfl (by decide) (hts _ q341) (va_Nw.use rfl (hZ.1.1 _ (List.mem_of_getElem? (i := 3) rfl))) hce hcv hcl ?_
    refine W.eq (g2 := F0 m 13 ls [.ref q9]) rfl ?_
    refine lv_astore (lv' := [(4, .ref q9), (0, .ref (a 0)), (1, .int p0), (2, .int p1), (3, .ref o)]) hx hb dL_hits_13 hl (by decide) rfl (fun ls hl => ?_)
    refine lv_iconst (v := 1) hx hb dL_hits_15 (by decide) ?_
    refine W.widen (k := 1) (n := 6) (Nat.le_of_ble_eq_true rfl) (Nat.le_of_ble_eq_true rfl) ?_
    refine vx_ret ?_
    have hP9 := hP.sub (ws' := [(o, .inl (dA 3, 1, .inr (.inl g)))]) [0] rfl
    have hD9 := hD.sub (ws' := [(o, .inl (dA 3, 1, .inr (.inl g)))]) [0] (by decide) rfl
    exact W.iret (v := 1) hx hb hr (fun t ht hW => ⟨⟨1, g, rfl, (rfl), ⟨by rw [ht]; exact hP9, hD9⟩⟩, hS.F ht⟩) hS.2.2 dL_hits_16
  · exact hw.elim

set_option maxHeartbeats 4000000 in
set_option maxRecDepth 100000 in
theorem c_L_hit (l : Launch) (hlt : l.stackTraces = false) (D : va_G) (dA : Nat → ClassId) (E : Nat) (a : Nat → Nat) (o : Nat) (g : Nat → Int64) (p0 p1 p2 : Int32) (sz : Nat)  : vx_Met l yL_hit (wq (.codeWith yL_hit cL_hit 6 (some .int) [(0, 12, 15, 21), (0, 12, 19, 80)])) { frames := 9, cells := 1, slots := 6, locals := 150 } (va_Pc [.ref (a 0), .int p0, .int p1, .int p2, .ref o] (PcB D dA E [(a 0, .inr (11, [.ref (a 1), .ref (a 2), .ref (a 3), .ref (a 4), .ref (a 5), .ref (a 10), .ref (a 15), .ref (a 17), .null, .int 0, .int 0, .int 0])), (a 3, .inr (2, [.int 0, .ref E, .int 0])), (o, .inl (dA 3, 1, .inr (.inl g)))] sz)) (va_Qi (fun (r : Int32) (u : Nat → Int64) => r = 1) (fun u t => va_P D vwCl [(o, .inl (dA 3, 1, .inr (.inl u)))] t.heap ∧ va_D (va_A [(a 0, .inr (11, [.ref (a 1), .ref (a 2), .ref (a 3), .ref (a 4), .ref (a 5), .ref (a 10), .ref (a 15), .ref (a 17), .null, .int 0, .int 0, .int 0])), (a 3, .inr (2, [.int 0, .ref E, .int 0])), (o, .inl (dA 3, 1, .inr (.inl g)))] sz) [(o, .inl (dA 3, 1, .inr (.inl u)))]) (va_A [(a 0, .inr (11, [.ref (a 1), .ref (a 2), .ref (a 3), .ref (a 4), .ref (a 5), .ref (a 10), .ref (a 15), .ref (a 17), .null, .int 0, .int 0, .int 0])), (a 3, .inr (2, [.int 0, .ref E, .int 0])), (o, .inl (dA 3, 1, .inr (.inl g)))] sz)) (vx_X (fun (k : Nat) => False) (fun E9 k t => E9 = xN k) (va_A [(a 0, .inr (11, [.ref (a 1), .ref (a 2), .ref (a 3), .ref (a 4), .ref (a 5), .ref (a 10), .ref (a 15), .ref (a 17), .null, .int 0, .int 0, .int 0])), (a 3, .inr (2, [.int 0, .ref E, .int 0])), (o, .inl (dA 3, 1, .inr (.inl g)))] sz)) 1 6 (va_A [(a 0, .inr (11, [.ref (a 1), .ref (a 2), .ref (a 3), .ref (a 4), .ref (a 5), .ref (a 10), .ref (a 15), .ref (a 17), .null, .int 0, .int 0, .int 0])), (a 3, .inr (2, [.int 0, .ref E, .int 0])), (o, .inl (dA 3, 1, .inr (.inl g)))] sz) := by
  refine mh_of (y := yL_hit) (av := [.ref (a 0), .int p0, .int p1, .int p2, .ref o]) (maxL := 6) (Qc := fun A => va_Qi (fun (r : Int32) (u : Nat → Int64) => r = 1) (fun u t => va_P D vwCl [(o, .inl (dA 3, 1, .inr (.inl u)))] t.heap ∧ va_D A [(o, .inl (dA 3, 1, .inr (.inl u)))]) A) (XC := fun A => vx_X (fun (k : Nat) => False) (fun E9 k t => E9 = xN k) A) RL rfl (by decide) (Nat.le_of_ble_eq_true rfl) ?_
  intro p e s m args below meth c hae hx hb hr hts hown hlocks hml hnm htb hP hK A hAe hD hZ hS hA ls hl
  have hl : lv_has ls 6 [(0, .ref (a 0)), (1, .int p0), (2, .int p1), (3, .int p2), (4, .ref o)] := hl
  refine lv_aload hx hb dL_hit_0 (lv_at hl 4 rfl) ?_
  refine lv_iconst (v := 0) hx hb dL_hit_2 (by decide) ?_
  refine lv_aload_n hx hb dL_hit_3 rfl (lv_at hl 0 rfl) ?_
  refine lv_iload_n hx hb dL_hit_4 rfl (lv_at hl 1 rfl) ?_
  refine lv_iload_n hx hb dL_hit_5 rfl (lv_at hl 2 rfl) ?_
  refine lv_iload_n hx hb dL_hit_6 rfl (lv_at hl 3 rfl) ?_
  have hPc := hP.sub (ws' := [(a 0, .inr (11, [.ref (a 1), .ref (a 2), .ref (a 3), .ref (a 4), .ref (a 5), .ref (a 10), .ref (a 15), .ref (a 17), .null, .int 0, .int 0, .int 0])), (a 3, .inr (2, [.int 0, .ref E, .int 0]))]) [0, 1] rfl
  have hDc := hD.sub (ws' := [(a 0, .inr (11, [.ref (a 1), .ref (a 2), .ref (a 3), .ref (a 4), .ref (a 5), .ref (a 10), .ref (a 15), .ref (a 17), .null, .int 0, .int 0, .int 0])), (a 3, .inr (2, [.int 0, .ref E, .int 0]))]) [0, 1] (by decide) rfl
  have hFc := va_free (wc := [(a 0, .inr (11, [.ref (a 1), .ref (a 2), .ref (a 3), .ref (a 4), .ref (a 5), .ref (a 10), .ref (a 15), .ref (a 17), .null, .int 0, .int 0, .int 0])), (a 3, .inr (2, [.int 0, .ref E, .int 0]))]) hD hS hA [0, 1] rfl
  refine vx_calli (vx_runV (As := [.int p0, .int p1, .int p2]) (rest := [.int 0, .ref o]) ⟨hx, hb, hml, hown, hts⟩ (c_X8_hit l hlt D dA E a p0 p1 p2 s.heap.size ) (cwV 3 hts (ga_V q409 q410 q407 q113 q408) rfl rfl rfl (by decide +kernel) ⟨(Nat.le_of_ble_eq_true rfl), (Nat.le_of_ble_eq_true rfl)⟩) ⟨pb_blind, va_recv hK hPc (ci := 11) (q0 := 0) rfl rfl, pb_pre hK hPc hDc hZ hS hFc _⟩ rfl rfl hl.1 rfl (lv_room (Nat.le_of_ble_eq_true rfl)) dL_hit_7 ⟨(Nat.le_of_ble_eq_true rfl), (Nat.le_of_ble_eq_true rfl)⟩) hS (fun q _ h => hFc q h) hFc (fun q _ h => hFc q h) (fun E9 ce q9 k t H1 locs ht hvm hpx hBX hz1 hk1 hS hce hcv hcl => ?_) (fun r u t H1 locs ht hvm hw hB hz1 hk1 hS => ?_)
  · obtain ⟨hP, hD⟩ := jn_drop (wr := [(o, .inl (dA 3, 1, .inr (.inl g)))]) hP hD [0, 1] [2] rfl rfl (by decide) (by decide) hk1 hFc
    generalize H1 = H at hP hS hce ⊢
    have hP : va_P D vwCl [(o, .inl (dA 3, 1, .inr (.inl g)))] H := hP
    have hD : va_D A [(o, .inl (dA 3, 1, .inr (.inl g)))] := hD
    refine vx_widen (k := 1) (n := 6) (Nat.le_of_ble_eq_true rfl) (Nat.le_of_ble_eq_true rfl) ?_
    subst hpx
    subst hBX
    refine vx_catch (own := RL) (name := "java/lang/IndexOutOfBoundsException") (E := "java/lang/IndexOutOfBoundsException") hown [] ⟨0, 12, 15, 21⟩ [⟨0, 12, 19, 80⟩] htb (fun _ h9 => absurd h9 List.not_mem_nil) rfl (by decide) (hts _ q341) (va_Nw.use rfl (hZ.1.1 _ (List.mem_of_getElem? (i := 3) rfl))) hce hcv hcl ?_
    refine W.eq (g2 := F0 m 15 ls [.ref q9]) rfl ?_
    refine lv_astore (lv' := [(5, .ref q9), (0, .ref (a 0)), (1, .int p0), (2, .int p1), (3, .int p2), (4, .ref o)]) hx hb dL_hit_15 hl (by decide) rfl (fun ls hl => ?_)
    refine lv_iconst (v := 1) hx hb dL_hit_17 (by decide) ?_
    refine W.widen (k := 1) (n := 6) (Nat.le_of_ble_eq_true rfl) (Nat.le_of_ble_eq_true rfl) ?_
    refine vx_ret ?_
    have hP9 := hP.sub (ws' := [(o, .inl (dA 3, 1, .inr (.inl g)))]) [0] rfl
    have hD9 := hD.sub (ws' := [(o, .inl (dA 3, 1, .inr (.inl g)))]) [0] (by decide) rfl
    exact W.iret (v := 1) hx hb hr (fun t ht hW => ⟨⟨1, g, rfl, (rfl), ⟨by rw [ht]; exact hP9, hD9⟩⟩, hS.F ht⟩) hS.2.2 dL_hit_18
  · exact hw.elim

set_option maxHeartbeats 4000000 in
set_option maxRecDepth 100000 in
theorem c_L_score (l : Launch) (hlt : l.stackTraces = false) (D : va_G) (dA : Nat → ClassId) (E : Nat) (a : Nat → Nat) (o : Nat) (g : Nat → Int64) (p0 p1 p2 : Int32) (sz : Nat)  : vx_Met l yL_score (wq (.codeWith yL_score cL_score 6 (some .int) [(0, 11, 14, 21), (0, 11, 18, 80)])) { frames := 9, cells := 1, slots := 6, locals := 150 } (va_Pc [.ref (a 0), .int p0, .int p1, .int p2, .ref o] (PcB D dA E [(a 0, .inr (11, [.ref (a 1), .ref (a 2), .ref (a 3), .ref (a 4), .ref (a 5), .ref (a 10), .ref (a 15), .ref (a 17), .null, .int 0, .int 0, .int 0])), (a 3, .inr (2, [.int 0, .ref E, .int 0])), (o, .inl (dA 3, 1, .inr (.inl g)))] sz)) (va_Qi (fun (r : Int32) (u : Nat → Int64) => r = 1) (fun u t => va_P D vwCl [(o, .inl (dA 3, 1, .inr (.inl u)))] t.heap ∧ va_D (va_A [(a 0, .inr (11, [.ref (a 1), .ref (a 2), .ref (a 3), .ref (a 4), .ref (a 5), .ref (a 10), .ref (a 15), .ref (a 17), .null, .int 0, .int 0, .int 0])), (a 3, .inr (2, [.int 0, .ref E, .int 0])), (o, .inl (dA 3, 1, .inr (.inl g)))] sz) [(o, .inl (dA 3, 1, .inr (.inl u)))]) (va_A [(a 0, .inr (11, [.ref (a 1), .ref (a 2), .ref (a 3), .ref (a 4), .ref (a 5), .ref (a 10), .ref (a 15), .ref (a 17), .null, .int 0, .int 0, .int 0])), (a 3, .inr (2, [.int 0, .ref E, .int 0])), (o, .inl (dA 3, 1, .inr (.inl g)))] sz)) (vx_X (fun (k : Nat) => False) (fun E9 k t => E9 = xN k) (va_A [(a 0, .inr (11, [.ref (a 1), .ref (a 2), .ref (a 3), .ref (a 4), .ref (a 5), .ref (a 10), .ref (a 15), .ref (a 17), .null, .int 0, .int 0, .int 0])), (a 3, .inr (2, [.int 0, .ref E, .int 0])), (o, .inl (dA 3, 1, .inr (.inl g)))] sz)) 1 6 (va_A [(a 0, .inr (11, [.ref (a 1), .ref (a 2), .ref (a 3), .ref (a 4), .ref (a 5), .ref (a 10), .ref (a 15), .ref (a 17), .null, .int 0, .int 0, .int 0])), (a 3, .inr (2, [.int 0, .ref E, .int 0])), (o, .inl (dA 3, 1, .inr (.inl g)))] sz) := by
  refine mh_of (y := yL_score) (av := [.ref (a 0), .int p0, .int p1, .int p2, .ref o]) (maxL := 6) (Qc := fun A => va_Qi (fun (r : Int32) (u : Nat → Int64) => r = 1) (fun u t => va_P D vwCl [(o, .inl (dA 3, 1, .inr (.inl u)))] t.heap ∧ va_D A [(o, .inl (dA 3, 1, .inr (.inl u)))]) A) (XC := fun A => vx_X (fun (k : Nat) => False) (fun E9 k t => E9 = xN k) A) RL rfl (by decide) (Nat.le_of_ble_eq_true rfl) ?_
  intro p e s m args below meth c hae hx hb hr hts hown hlocks hml hnm htb hP hK A hAe hD hZ hS hA ls hl
  have hl : lv_has ls 6 [(0, .ref (a 0)), (1, .int p0), (2, .int p1), (3, .int p2), (4, .ref o)] := hl
  refine lv_aload hx hb dL_score_0 (lv_at hl 4 rfl) ?_
  refine lv_iconst (v := 0) hx hb dL_score_2 (by decide) ?_
  refine lv_aload_n hx hb dL_score_3 rfl (lv_at hl 0 rfl) ?_
  refine lv_iload_n hx hb dL_score_4 rfl (lv_at hl 1 rfl) ?_
  refine lv_iload_n hx hb dL_score_5 rfl (lv_at hl 2 rfl) ?_
  refine lv_iload_n hx hb dL_score_6 rfl (lv_at hl 3 rfl) ?_
  have hPc := hP.sub (ws' := [(a 0, .inr (11, [.ref (a 1), .ref (a 2), .ref (a 3), .ref (a 4), .ref (a 5), .ref (a 10), .ref (a 15), .ref (a 17), .null, .int 0, .int 0, .int 0])), (a 3, .inr (2, [.int 0, .ref E, .int 0]))]) [0, 1] rfl
  have hDc := hD.sub (ws' := [(a 0, .inr (11, [.ref (a 1), .ref (a 2), .ref (a 3), .ref (a 4), .ref (a 5), .ref (a 10), .ref (a 15), .ref (a 17), .null, .int 0, .int 0, .int 0])), (a 3, .inr (2, [.int 0, .ref E, .int 0]))]) [0, 1] (by decide) rfl
  have hFc := va_free (wc := [(a 0, .inr (11, [.ref (a 1), .ref (a 2), .ref (a 3), .ref (a 4), .ref (a 5), .ref (a 10), .ref (a 15), .ref (a 17), .null, .int 0, .int 0, .int 0])), (a 3, .inr (2, [.int 0, .ref E, .int 0]))]) hD hS hA [0, 1] rfl
  refine vx_calll (vx_runV (As := [.int p0, .int p1, .int p2]) (rest := [.int 0, .ref o]) ⟨hx, hb, hml, hown, hts⟩ (c_X8_score l hlt D dA E a p0 p1 p2 s.heap.size ) (cwV 3 hts (ga_V q413 q414 q411 q113 q412) rfl rfl rfl (by decide +kernel) ⟨(Nat.le_of_ble_eq_true rfl), (Nat.le_of_ble_eq_true rfl)⟩) ⟨pb_blind, va_recv hK hPc (ci := 11) (q0 := 0) rfl rfl, pb_pre hK hPc hDc hZ hS hFc _⟩ rfl rfl hl.1 rfl (lv_room (Nat.le_of_ble_eq_true rfl)) dL_score_7 ⟨(Nat.le_of_ble_eq_true rfl), (Nat.le_of_ble_eq_true rfl)⟩) hS (fun q _ h => hFc q h) hFc (fun q _ h => hFc q h) (fun E9 ce q9 k t H1 locs ht hvm hpx hBX hz1 hk1 hS hce hcv hcl => ?_) (fun r u t H1 locs ht hvm hw hB hz1 hk1 hS => ?_)
  · obtain ⟨hP, hD⟩ := jn_drop (wr := [(o, .inl (dA 3, 1, .inr (.inl g)))]) hP hD [0, 1] [2] rfl rfl (by decide) (by decide) hk1 hFc
    generalize H1 = H at hP hS hce ⊢
    have hP : va_P D vwCl [(o, .inl (dA 3, 1, .inr (.inl g)))] H := hP
    have hD : va_D A [(o, .inl (dA 3, 1, .inr (.inl g)))] := hD
    refine vx_widen (k := 1) (n := 6) (Nat.le_of_ble_eq_true rfl) (Nat.le_of_ble_eq_true rfl) ?_
    subst hpx
    subst hBX
    refine vx_catch (own := RL) (name := "java/lang/IndexOutOfBoundsException") (E := "java/lang/IndexOutOfBoundsException") hown [] ⟨0, 11, 14, 21⟩ [⟨0, 11, 18, 80⟩] htb (fun _ h9 => absurd h9 List.not_mem_nil) rfl (by decide) (hts _ q341) (va_Nw.use rfl (hZ.1.1 _ (List.mem_of_getElem? (i := 3) rfl))) hce hcv hcl ?_
    refine W.eq (g2 := F0 m 14 ls [.ref q9]) rfl ?_
    refine lv_astore (lv' := [(5, .ref q9), (0, .ref (a 0)), (1, .int p0), (2, .int p1), (3, .int p2), (4, .ref o)]) hx hb dL_score_14 hl (by decide) rfl (fun ls hl => ?_)
    refine lv_iconst (v := 1) hx hb dL_score_16 (by decide) ?_
    refine W.widen (k := 1) (n := 6) (Nat.le_of_ble_eq_true rfl) (Nat.le_of_ble_eq_true rfl) ?_
    refine vx_ret ?_
    have hP9 := hP.sub (ws' := [(o, .inl (dA 3, 1, .inr (.inl g)))]) [0] rfl
    have hD9 := hD.sub (ws' := [(o, .inl (dA 3, 1, .inr (.inl g)))]) [0] (by decide) rfl
    exact W.iret (v := 1) hx hb hr (fun t ht hW => ⟨⟨1, g, rfl, (rfl), ⟨by rw [ht]; exact hP9, hD9⟩⟩, hS.F ht⟩) hS.2.2 dL_score_17
  · exact hw.elim

set_option maxHeartbeats 4000000 in
set_option maxRecDepth 100000 in
theorem c_L_scoreAlone (l : Launch) (hlt : l.stackTraces = false) (D : va_G) (dA : Nat → ClassId) (E : Nat) (a : Nat → Nat) (o : Nat) (g : Nat → Int64) (p0 p1 p2 : Int32) (sz : Nat)  : vx_Met l yL_scoreAlone (wq (.codeWith yL_scoreAlone cL_scoreAlone 6 (some .int) [(0, 11, 14, 21)])) { frames := 9, cells := 1, slots := 6, locals := 150 } (va_Pc [.ref (a 0), .int p0, .int p1, .int p2, .ref o] (PcB D dA E [(a 0, .inr (11, [.ref (a 1), .ref (a 2), .ref (a 3), .ref (a 4), .ref (a 5), .ref (a 10), .ref (a 15), .ref (a 17), .null, .int 0, .int 0, .int 0])), (a 3, .inr (2, [.int 0, .ref E, .int 0])), (o, .inl (dA 3, 1, .inr (.inl g)))] sz)) (va_Qi (fun (r : Int32) (u : Nat → Int64) => r = 1) (fun u t => va_P D vwCl [(o, .inl (dA 3, 1, .inr (.inl u)))] t.heap ∧ va_D (va_A [(a 0, .inr (11, [.ref (a 1), .ref (a 2), .ref (a 3), .ref (a 4), .ref (a 5), .ref (a 10), .ref (a 15), .ref (a 17), .null, .int 0, .int 0, .int 0])), (a 3, .inr (2, [.int 0, .ref E, .int 0])), (o, .inl (dA 3, 1, .inr (.inl g)))] sz) [(o, .inl (dA 3, 1, .inr (.inl u)))]) (va_A [(a 0, .inr (11, [.ref (a 1), .ref (a 2), .ref (a 3), .ref (a 4), .ref (a 5), .ref (a 10), .ref (a 15), .ref (a 17), .null, .int 0, .int 0, .int 0])), (a 3, .inr (2, [.int 0, .ref E, .int 0])), (o, .inl (dA 3, 1, .inr (.inl g)))] sz)) (vx_X (fun (k : Nat) => False) (fun E9 k t => E9 = xN k) (va_A [(a 0, .inr (11, [.ref (a 1), .ref (a 2), .ref (a 3), .ref (a 4), .ref (a 5), .ref (a 10), .ref (a 15), .ref (a 17), .null, .int 0, .int 0, .int 0])), (a 3, .inr (2, [.int 0, .ref E, .int 0])), (o, .inl (dA 3, 1, .inr (.inl g)))] sz)) 1 6 (va_A [(a 0, .inr (11, [.ref (a 1), .ref (a 2), .ref (a 3), .ref (a 4), .ref (a 5), .ref (a 10), .ref (a 15), .ref (a 17), .null, .int 0, .int 0, .int 0])), (a 3, .inr (2, [.int 0, .ref E, .int 0])), (o, .inl (dA 3, 1, .inr (.inl g)))] sz) := by
  refine mh_of (y := yL_scoreAlone) (av := [.ref (a 0), .int p0, .int p1, .int p2, .ref o]) (maxL := 6) (Qc := fun A => va_Qi (fun (r : Int32) (u : Nat → Int64) => r = 1) (fun u t => va_P D vwCl [(o, .inl (dA 3, 1, .inr (.inl u)))] t.heap ∧ va_D A [(o, .inl (dA 3, 1, .inr (.inl u)))]) A) (XC := fun A => vx_X (fun (k : Nat) => False) (fun E9 k t => E9 = xN k) A) RL rfl (by decide) (Nat.le_of_ble_eq_true rfl) ?_
  intro p e s m args below meth c hae hx hb hr hts hown hlocks hml hnm htb hP hK A hAe hD hZ hS hA ls hl
  have hl : lv_has ls 6 [(0, .ref (a 0)), (1, .int p0), (2, .int p1), (3, .int p2), (4, .ref o)] := hl
  refine lv_aload hx hb dL_scoreAlone_0 (lv_at hl 4 rfl) ?_
  refine lv_iconst (v := 0) hx hb dL_scoreAlone_2 (by decide) ?_
  refine lv_aload_n hx hb dL_scoreAlone_3 rfl (lv_at hl 0 rfl) ?_
  refine lv_iload_n hx hb dL_scoreAlone_4 rfl (lv_at hl 1 rfl) ?_
  refine lv_iload_n hx hb dL_scoreAlone_5 rfl (lv_at hl 2 rfl) ?_
  refine lv_iload_n hx hb dL_scoreAlone_6 rfl (lv_at hl 3 rfl) ?_
  have hPc := hP.sub (ws' := [(a 0, .inr (11, [.ref (a 1), .ref (a 2), .ref (a 3), .ref (a 4), .ref (a 5), .ref (a 10), .ref (a 15), .ref (a 17), .null, .int 0, .int 0, .int 0])), (a 3, .inr (2, [.int 0, .ref E, .int 0]))]) [0, 1] rfl
  have hDc := hD.sub (ws' := [(a 0, .inr (11, [.ref (a 1), .ref (a 2), .ref (a 3), .ref (a 4), .ref (a 5), .ref (a 10), .ref (a 15), .ref (a 17), .null, .int 0, .int 0, .int 0])), (a 3, .inr (2, [.int 0, .ref E, .int 0]))]) [0, 1] (by decide) rfl
  have hFc := va_free (wc := [(a 0, .inr (11, [.ref (a 1), .ref (a 2), .ref (a 3), .ref (a 4), .ref (a 5), .ref (a 10), .ref (a 15), .ref (a 17), .null, .int 0, .int 0, .int 0])), (a 3, .inr (2, [.int 0, .ref E, .int 0]))]) hD hS hA [0, 1] rfl
  refine vx_calll (vx_runV (As := [.int p0, .int p1, .int p2]) (rest := [.int 0, .ref o]) ⟨hx, hb, hml, hown, hts⟩ (c_X8_scoreAlone l hlt D dA E a p0 p1 p2 s.heap.size ) (cwV 3 hts (ga_V q417 q418 q415 q113 q416) rfl rfl rfl (by decide +kernel) ⟨(Nat.le_of_ble_eq_true rfl), (Nat.le_of_ble_eq_true rfl)⟩) ⟨pb_blind, va_recv hK hPc (ci := 11) (q0 := 0) rfl rfl, pb_pre hK hPc hDc hZ hS hFc _⟩ rfl rfl hl.1 rfl (lv_room (Nat.le_of_ble_eq_true rfl)) dL_scoreAlone_7 ⟨(Nat.le_of_ble_eq_true rfl), (Nat.le_of_ble_eq_true rfl)⟩) hS (fun q _ h => hFc q h) hFc (fun q _ h => hFc q h) (fun E9 ce q9 k t H1 locs ht hvm hpx hBX hz1 hk1 hS hce hcv hcl => ?_) (fun r u t H1 locs ht hvm hw hB hz1 hk1 hS => ?_)
  · obtain ⟨hP, hD⟩ := jn_drop (wr := [(o, .inl (dA 3, 1, .inr (.inl g)))]) hP hD [0, 1] [2] rfl rfl (by decide) (by decide) hk1 hFc
    generalize H1 = H at hP hS hce ⊢
    have hP : va_P D vwCl [(o, .inl (dA 3, 1, .inr (.inl g)))] H := hP
    have hD : va_D A [(o, .inl (dA 3, 1, .inr (.inl g)))] := hD
    refine vx_widen (k := 1) (n := 6) (Nat.le_of_ble_eq_true rfl) (Nat.le_of_ble_eq_true rfl) ?_
    subst hpx
    subst hBX
    refine vx_catch (own := RL) (name := "java/lang/IndexOutOfBoundsException") (E := "java/lang/IndexOutOfBoundsException") hown [] ⟨0, 11, 14, 21⟩ [] htb (fun _ h9 => absurd h9 List.not_mem_nil) rfl (by decide) (hts _ q341) (va_Nw.use rfl (hZ.1.1 _ (List.mem_of_getElem? (i := 3) rfl))) hce hcv hcl ?_
    refine W.eq (g2 := F0 m 14 ls [.ref q9]) rfl ?_
    refine lv_astore (lv' := [(5, .ref q9), (0, .ref (a 0)), (1, .int p0), (2, .int p1), (3, .int p2), (4, .ref o)]) hx hb dL_scoreAlone_14 hl (by decide) rfl (fun ls hl => ?_)
    refine lv_iconst (v := 1) hx hb dL_scoreAlone_16 (by decide) ?_
    refine W.widen (k := 1) (n := 6) (Nat.le_of_ble_eq_true rfl) (Nat.le_of_ble_eq_true rfl) ?_
    refine vx_ret ?_
    have hP9 := hP.sub (ws' := [(o, .inl (dA 3, 1, .inr (.inl g)))]) [0] rfl
    have hD9 := hD.sub (ws' := [(o, .inl (dA 3, 1, .inr (.inl g)))]) [0] (by decide) rfl
    exact W.iret (v := 1) hx hb hr (fun t ht hW => ⟨⟨1, g, rfl, (rfl), ⟨by rw [ht]; exact hP9, hD9⟩⟩, hS.F ht⟩) hS.2.2 dL_scoreAlone_17
  · exact hw.elim

set_option maxHeartbeats 4000000 in
set_option maxRecDepth 100000 in
theorem c_L_tagged (l : Launch) (hlt : l.stackTraces = false) (D : va_G) (dA : Nat → ClassId) (E : Nat) (a : Nat → Nat) (o : Nat) (g : Nat → Int64) (p0 p1 p2 : Int32) (sz : Nat)  : vx_Met l yL_tagged (wq (.codeWith yL_tagged cL_tagged 6 (some .int) [(0, 12, 15, 21), (0, 12, 19, 13)])) { frames := 9, cells := 1, slots := 6, locals := 152 } (va_Pc [.ref (a 0), .int p0, .int p1, .int p2, .ref o] (PcB D dA E [(a 0, .inr (11, [.ref (a 1), .ref (a 2), .ref (a 3), .ref (a 4), .ref (a 5), .ref (a 10), .ref (a 15), .ref (a 17), .null, .int 0, .int 0, .int 0])), (a 3, .inr (2, [.int 0, .ref E, .int 0])), (o, .inl (dA 3, 1, .inr (.inl g)))] sz)) (va_Qi (fun (r : Int32) (u : Nat → Int64) => r = 1) (fun u t => va_P D vwCl [(o, .inl (dA 3, 1, .inr (.inl u)))] t.heap ∧ va_D (va_A [(a 0, .inr (11, [.ref (a 1), .ref (a 2), .ref (a 3), .ref (a 4), .ref (a 5), .ref (a 10), .ref (a 15), .ref (a 17), .null, .int 0, .int 0, .int 0])), (a 3, .inr (2, [.int 0, .ref E, .int 0])), (o, .inl (dA 3, 1, .inr (.inl g)))] sz) [(o, .inl (dA 3, 1, .inr (.inl u)))]) (va_A [(a 0, .inr (11, [.ref (a 1), .ref (a 2), .ref (a 3), .ref (a 4), .ref (a 5), .ref (a 10), .ref (a 15), .ref (a 17), .null, .int 0, .int 0, .int 0])), (a 3, .inr (2, [.int 0, .ref E, .int 0])), (o, .inl (dA 3, 1, .inr (.inl g)))] sz)) (vx_X (fun (k : Nat) => False) (fun E9 k t => E9 = xN k) (va_A [(a 0, .inr (11, [.ref (a 1), .ref (a 2), .ref (a 3), .ref (a 4), .ref (a 5), .ref (a 10), .ref (a 15), .ref (a 17), .null, .int 0, .int 0, .int 0])), (a 3, .inr (2, [.int 0, .ref E, .int 0])), (o, .inl (dA 3, 1, .inr (.inl g)))] sz)) 1 6 (va_A [(a 0, .inr (11, [.ref (a 1), .ref (a 2), .ref (a 3), .ref (a 4), .ref (a 5), .ref (a 10), .ref (a 15), .ref (a 17), .null, .int 0, .int 0, .int 0])), (a 3, .inr (2, [.int 0, .ref E, .int 0])), (o, .inl (dA 3, 1, .inr (.inl g)))] sz) := by
  refine mh_of (y := yL_tagged) (av := [.ref (a 0), .int p0, .int p1, .int p2, .ref o]) (maxL := 6) (Qc := fun A => va_Qi (fun (r : Int32) (u : Nat → Int64) => r = 1) (fun u t => va_P D vwCl [(o, .inl (dA 3, 1, .inr (.inl u)))] t.heap ∧ va_D A [(o, .inl (dA 3, 1, .inr (.inl u)))]) A) (XC := fun A => vx_X (fun (k : Nat) => False) (fun E9 k t => E9 = xN k) A) RL rfl (by decide) (Nat.le_of_ble_eq_true rfl) ?_
  intro p e s m args below meth c hae hx hb hr hts hown hlocks hml hnm htb hP hK A hAe hD hZ hS hA ls hl
  have hl : lv_has ls 6 [(0, .ref (a 0)), (1, .int p0), (2, .int p1), (3, .int p2), (4, .ref o)] := hl
  refine lv_aload hx hb dL_tagged_0 (lv_at hl 4 rfl) ?_
  refine lv_iconst (v := 0) hx hb dL_tagged_2 (by decide) ?_
  refine lv_aload_n hx hb dL_tagged_3 rfl (lv_at hl 0 rfl) ?_
  refine lv_iload_n hx hb dL_tagged_4 rfl (lv_at hl 1 rfl) ?_
  refine lv_iload_n hx hb dL_tagged_5 rfl (lv_at hl 2 rfl) ?_
  refine lv_iload_n hx hb dL_tagged_6 rfl (lv_at hl 3 rfl) ?_
  have hPc := hP.sub (ws' := [(a 0, .inr (11, [.ref (a 1), .ref (a 2), .ref (a 3), .ref (a 4), .ref (a 5), .ref (a 10), .ref (a 15), .ref (a 17), .null, .int 0, .int 0, .int 0])), (a 3, .inr (2, [.int 0, .ref E, .int 0]))]) [0, 1] rfl
  have hDc := hD.sub (ws' := [(a 0, .inr (11, [.ref (a 1), .ref (a 2), .ref (a 3), .ref (a 4), .ref (a 5), .ref (a 10), .ref (a 15), .ref (a 17), .null, .int 0, .int 0, .int 0])), (a 3, .inr (2, [.int 0, .ref E, .int 0]))]) [0, 1] (by decide) rfl
  have hFc := va_free (wc := [(a 0, .inr (11, [.ref (a 1), .ref (a 2), .ref (a 3), .ref (a 4), .ref (a 5), .ref (a 10), .ref (a 15), .ref (a 17), .null, .int 0, .int 0, .int 0])), (a 3, .inr (2, [.int 0, .ref E, .int 0]))]) hD hS hA [0, 1] rfl
  refine vx_calli (vx_runV (As := [.int p0, .int p1, .int p2]) (rest := [.int 0, .ref o]) ⟨hx, hb, hml, hown, hts⟩ (c_X8_tagged l hlt D dA E a p0 p1 p2 s.heap.size ) (cwV 3 hts (ga_V q421 q422 q419 q113 q420) rfl rfl rfl (by decide +kernel) ⟨(Nat.le_of_ble_eq_true rfl), (Nat.le_of_ble_eq_true rfl)⟩) ⟨pb_blind, va_recv hK hPc (ci := 11) (q0 := 0) rfl rfl, pb_pre hK hPc hDc hZ hS hFc _⟩ rfl rfl hl.1 rfl (lv_room (Nat.le_of_ble_eq_true rfl)) dL_tagged_7 ⟨(Nat.le_of_ble_eq_true rfl), (Nat.le_of_ble_eq_true rfl)⟩) hS (fun q _ h => hFc q h) hFc (fun q _ h => hFc q h) (fun E9 ce q9 k t H1 locs ht hvm hpx hBX hz1 hk1 hS hce hcv hcl => ?_) (fun r u t H1 locs ht hvm hw hB hz1 hk1 hS => ?_)
  · obtain ⟨hP, hD⟩ := jn_drop (wr := [(o, .inl (dA 3, 1, .inr (.inl g)))]) hP hD [0, 1] [2] rfl rfl (by decide) (by decide) hk1 hFc
    generalize H1 = H at hP hS hce ⊢
    have hP : va_P D vwCl [(o, .inl (dA 3, 1, .inr (.inl g)))] H := hP
    have hD : va_D A [(o, .inl (dA 3, 1, .inr (.inl g)))] := hD
    refine vx_widen (k := 1) (n := 6) (Nat.le_of_ble_eq_true rfl) (Nat.le_of_ble_eq_true rfl) ?_
    subst hpx
    subst hBX
    refine vx_catch (own := RL) (name := "java/lang/IndexOutOfBoundsException") (E := "java/lang/IndexOutOfBoundsException") hown [] ⟨0, 12, 15, 21⟩ [⟨0, 12, 19, 13⟩] htb (fun _ h9 => absurd h9 List.not_mem_nil) rfl (by decide) (hts _ q341) (va_Nw.use rfl (hZ.1.1 _ (List.mem_of_getElem? (i := 3) rfl))) hce hcv hcl ?_
    refine W.eq (g2 := F0 m 15 ls [.ref q9]) rfl ?_
    refine lv_astore (lv' := [(5, .ref q9), (0, .ref (a 0)), (1, .int p0), (2, .int p1), (3, .int p2), (4, .ref o)]) hx hb dL_tagged_15 hl (by decide) rfl (fun ls hl => ?_)
    refine lv_iconst (v := 1) hx hb dL_tagged_17 (by decide) ?_
    refine W.widen (k := 1) (n := 6) (Nat.le_of_ble_eq_true rfl) (Nat.le_of_ble_eq_true rfl) ?_
    refine vx_ret ?_
    have hP9 := hP.sub (ws' := [(o, .inl (dA 3, 1, .inr (.inl g)))]) [0] rfl
    have hD9 := hD.sub (ws' := [(o, .inl (dA 3, 1, .inr (.inl g)))]) [0] (by decide) rfl
    exact W.iret (v := 1) hx hb hr (fun t ht hW => ⟨⟨1, g, rfl, (rfl), ⟨by rw [ht]; exact hP9, hD9⟩⟩, hS.F ht⟩) hS.2.2 dL_tagged_18
  · exact hw.elim

set_option maxHeartbeats 4000000 in
set_option maxRecDepth 100000 in
theorem c_L_firstTagged (l : Launch) (hlt : l.stackTraces = false) (D : va_G) (dA : Nat → ClassId) (E : Nat) (a : Nat → Nat) (o : Nat) (g : Nat → Int64) (p0 p1 p2 : Int32) (sz : Nat)  : vx_Met l yL_firstTagged (wq (.codeWith yL_firstTagged cL_firstTagged 6 (some .int) [(0, 12, 15, 21), (0, 12, 19, 13), (0, 12, 23, 80)])) { frames := 9, cells := 1, slots := 6, locals := 151 } (va_Pc [.ref (a 0), .int p0, .int p1, .int p2, .ref o] (PcB D dA E [(a 0, .inr (11, [.ref (a 1), .ref (a 2), .ref (a 3), .ref (a 4), .ref (a 5), .ref (a 10), .ref (a 15), .ref (a 17), .null, .int 0, .int 0, .int 0])), (a 3, .inr (2, [.int 0, .ref E, .int 0])), (o, .inl (dA 3, 1, .inr (.inl g)))] sz)) (va_Qi (fun (r : Int32) (u : Nat → Int64) => r = 1) (fun u t => va_P D vwCl [(o, .inl (dA 3, 1, .inr (.inl u)))] t.heap ∧ va_D (va_A [(a 0, .inr (11, [.ref (a 1), .ref (a 2), .ref (a 3), .ref (a 4), .ref (a 5), .ref (a 10), .ref (a 15), .ref (a 17), .null, .int 0, .int 0, .int 0])), (a 3, .inr (2, [.int 0, .ref E, .int 0])), (o, .inl (dA 3, 1, .inr (.inl g)))] sz) [(o, .inl (dA 3, 1, .inr (.inl u)))]) (va_A [(a 0, .inr (11, [.ref (a 1), .ref (a 2), .ref (a 3), .ref (a 4), .ref (a 5), .ref (a 10), .ref (a 15), .ref (a 17), .null, .int 0, .int 0, .int 0])), (a 3, .inr (2, [.int 0, .ref E, .int 0])), (o, .inl (dA 3, 1, .inr (.inl g)))] sz)) (vx_X (fun (k : Nat) => False) (fun E9 k t => E9 = xN k) (va_A [(a 0, .inr (11, [.ref (a 1), .ref (a 2), .ref (a 3), .ref (a 4), .ref (a 5), .ref (a 10), .ref (a 15), .ref (a 17), .null, .int 0, .int 0, .int 0])), (a 3, .inr (2, [.int 0, .ref E, .int 0])), (o, .inl (dA 3, 1, .inr (.inl g)))] sz)) 1 6 (va_A [(a 0, .inr (11, [.ref (a 1), .ref (a 2), .ref (a 3), .ref (a 4), .ref (a 5), .ref (a 10), .ref (a 15), .ref (a 17), .null, .int 0, .int 0, .int 0])), (a 3, .inr (2, [.int 0, .ref E, .int 0])), (o, .inl (dA 3, 1, .inr (.inl g)))] sz) := by
  refine mh_of (y := yL_firstTagged) (av := [.ref (a 0), .int p0, .int p1, .int p2, .ref o]) (maxL := 6) (Qc := fun A => va_Qi (fun (r : Int32) (u : Nat → Int64) => r = 1) (fun u t => va_P D vwCl [(o, .inl (dA 3, 1, .inr (.inl u)))] t.heap ∧ va_D A [(o, .inl (dA 3, 1, .inr (.inl u)))]) A) (XC := fun A => vx_X (fun (k : Nat) => False) (fun E9 k t => E9 = xN k) A) RL rfl (by decide) (Nat.le_of_ble_eq_true rfl) ?_
  intro p e s m args below meth c hae hx hb hr hts hown hlocks hml hnm htb hP hK A hAe hD hZ hS hA ls hl
  have hl : lv_has ls 6 [(0, .ref (a 0)), (1, .int p0), (2, .int p1), (3, .int p2), (4, .ref o)] := hl
  refine lv_aload hx hb dL_firstTagged_0 (lv_at hl 4 rfl) ?_
  refine lv_iconst (v := 0) hx hb dL_firstTagged_2 (by decide) ?_
  refine lv_aload_n hx hb dL_firstTagged_3 rfl (lv_at hl 0 rfl) ?_
  refine lv_iload_n hx hb dL_firstTagged_4 rfl (lv_at hl 1 rfl) ?_
  refine lv_iload_n hx hb dL_firstTagged_5 rfl (lv_at hl 2 rfl) ?_
  refine lv_iload_n hx hb dL_firstTagged_6 rfl (lv_at hl 3 rfl) ?_
  have hPc := hP.sub (ws' := [(a 0, .inr (11, [.ref (a 1), .ref (a 2), .ref (a 3), .ref (a 4), .ref (a 5), .ref (a 10), .ref (a 15), .ref (a 17), .null, .int 0, .int 0, .int 0])), (a 3, .inr (2, [.int 0, .ref E, .int 0]))]) [0, 1] rfl
  have hDc := hD.sub (ws' := [(a 0, .inr (11, [.ref (a 1), .ref (a 2), .ref (a 3), .ref (a 4), .ref (a 5), .ref (a 10), .ref (a 15), .ref (a 17), .null, .int 0, .int 0, .int 0])), (a 3, .inr (2, [.int 0, .ref E, .int 0]))]) [0, 1] (by decide) rfl
  have hFc := va_free (wc := [(a 0, .inr (11, [.ref (a 1), .ref (a 2), .ref (a 3), .ref (a 4), .ref (a 5), .ref (a 10), .ref (a 15), .ref (a 17), .null, .int 0, .int 0, .int 0])), (a 3, .inr (2, [.int 0, .ref E, .int 0]))]) hD hS hA [0, 1] rfl
  refine vx_calli (vx_runV (As := [.int p0, .int p1, .int p2]) (rest := [.int 0, .ref o]) ⟨hx, hb, hml, hown, hts⟩ (c_X8_firstTagged l hlt D dA E a p0 p1 p2 s.heap.size ) (cwV 3 hts (ga_V q425 q426 q423 q113 q424) rfl rfl rfl (by decide +kernel) ⟨(Nat.le_of_ble_eq_true rfl), (Nat.le_of_ble_eq_true rfl)⟩) ⟨pb_blind, va_recv hK hPc (ci := 11) (q0 := 0) rfl rfl, pb_pre hK hPc hDc hZ hS hFc _⟩ rfl rfl hl.1 rfl (lv_room (Nat.le_of_ble_eq_true rfl)) dL_firstTagged_7 ⟨(Nat.le_of_ble_eq_true rfl), (Nat.le_of_ble_eq_true rfl)⟩) hS (fun q _ h => hFc q h) hFc (fun q _ h => hFc q h) (fun E9 ce q9 k t H1 locs ht hvm hpx hBX hz1 hk1 hS hce hcv hcl => ?_) (fun r u t H1 locs ht hvm hw hB hz1 hk1 hS => ?_)
  · obtain ⟨hP, hD⟩ := jn_drop (wr := [(o, .inl (dA 3, 1, .inr (.inl g)))]) hP hD [0, 1] [2] rfl rfl (by decide) (by decide) hk1 hFc
    generalize H1 = H at hP hS hce ⊢
    have hP : va_P D vwCl [(o, .inl (dA 3, 1, .inr (.inl g)))] H := hP
    have hD : va_D A [(o, .inl (dA 3, 1, .inr (.inl g)))] := hD
    refine vx_widen (k := 1) (n := 6) (Nat.le_of_ble_eq_true rfl) (Nat.le_of_ble_eq_true rfl) ?_
    subst hpx
    subst hBX
    refine vx_catch (own := RL) (name := "java/lang/IndexOutOfBoundsException") (E := "java/lang/IndexOutOfBoundsException") hown [] ⟨0, 12, 15, 21⟩ [⟨0, 12, 19, 13⟩, ⟨0, 12, 23, 80⟩] htb (fun _ h9 => absurd h9 List.not_mem_nil) rfl (by decide) (hts _ q341) (va_Nw.use rfl (hZ.1.1 _ (List.mem_of_getElem? (i := 3) rfl))) hce hcv hcl ?_
    refine W.eq (g2 := F0 m 15 ls [.ref q9]) rfl ?_
    refine lv_astore (lv' := [(5, .ref q9), (0, .ref (a 0)), (1, .int p0), (2, .int p1), (3, .int p2), (4, .ref o)]) hx hb dL_firstTagged_15 hl (by decide) rfl (fun ls hl => ?_)
    refine lv_iconst (v := 1) hx hb dL_firstTagged_17 (by decide) ?_
    refine W.widen (k := 1) (n := 6) (Nat.le_of_ble_eq_true rfl) (Nat.le_of_ble_eq_true rfl) ?_
    refine vx_ret ?_
    have hP9 := hP.sub (ws' := [(o, .inl (dA 3, 1, .inr (.inl g)))]) [0] rfl
    have hD9 := hD.sub (ws' := [(o, .inl (dA 3, 1, .inr (.inl g)))]) [0] (by decide) rfl
    exact W.iret (v := 1) hx hb hr (fun t ht hW => ⟨⟨1, g, rfl, (rfl), ⟨by rw [ht]; exact hP9, hD9⟩⟩, hS.F ht⟩) hS.2.2 dL_firstTagged_18
  · exact hw.elim

set_option maxHeartbeats 4000000 in
set_option maxRecDepth 100000 in
theorem c_L_wholes (l : Launch) (hlt : l.stackTraces = false) (D : va_G) (dA : Nat → ClassId) (E : Nat) (a : Nat → Nat) (o : Nat) (g : Nat → Int64) (p0 p1 : Int32) (sz : Nat)  : vx_Met l yL_wholes (wq (.codeWith yL_wholes cL_wholes 5 (some .int) [(0, 10, 13, 21)])) { frames := 9, cells := 1, slots := 6, locals := 152 } (va_Pc [.ref (a 0), .int p0, .int p1, .ref o] (PcB D dA E [(a 0, .inr (11, [.ref (a 1), .ref (a 2), .ref (a 3), .ref (a 4), .ref (a 5), .ref (a 10), .ref (a 15), .ref (a 17), .null, .int 0, .int 0, .int 0])), (a 3, .inr (2, [.int 0, .ref E, .int 0])), (o, .inl (dA 3, 1, .inr (.inl g)))] sz)) (va_Qi (fun (r : Int32) (u : Nat → Int64) => r = 1) (fun u t => va_P D vwCl [(o, .inl (dA 3, 1, .inr (.inl u)))] t.heap ∧ va_D (va_A [(a 0, .inr (11, [.ref (a 1), .ref (a 2), .ref (a 3), .ref (a 4), .ref (a 5), .ref (a 10), .ref (a 15), .ref (a 17), .null, .int 0, .int 0, .int 0])), (a 3, .inr (2, [.int 0, .ref E, .int 0])), (o, .inl (dA 3, 1, .inr (.inl g)))] sz) [(o, .inl (dA 3, 1, .inr (.inl u)))]) (va_A [(a 0, .inr (11, [.ref (a 1), .ref (a 2), .ref (a 3), .ref (a 4), .ref (a 5), .ref (a 10), .ref (a 15), .ref (a 17), .null, .int 0, .int 0, .int 0])), (a 3, .inr (2, [.int 0, .ref E, .int 0])), (o, .inl (dA 3, 1, .inr (.inl g)))] sz)) (vx_X (fun (k : Nat) => False) (fun E9 k t => E9 = xN k) (va_A [(a 0, .inr (11, [.ref (a 1), .ref (a 2), .ref (a 3), .ref (a 4), .ref (a 5), .ref (a 10), .ref (a 15), .ref (a 17), .null, .int 0, .int 0, .int 0])), (a 3, .inr (2, [.int 0, .ref E, .int 0])), (o, .inl (dA 3, 1, .inr (.inl g)))] sz)) 1 6 (va_A [(a 0, .inr (11, [.ref (a 1), .ref (a 2), .ref (a 3), .ref (a 4), .ref (a 5), .ref (a 10), .ref (a 15), .ref (a 17), .null, .int 0, .int 0, .int 0])), (a 3, .inr (2, [.int 0, .ref E, .int 0])), (o, .inl (dA 3, 1, .inr (.inl g)))] sz) := by
  refine mh_of (y := yL_wholes) (av := [.ref (a 0), .int p0, .int p1, .ref o]) (maxL := 5) (Qc := fun A => va_Qi (fun (r : Int32) (u : Nat → Int64) => r = 1) (fun u t => va_P D vwCl [(o, .inl (dA 3, 1, .inr (.inl u)))] t.heap ∧ va_D A [(o, .inl (dA 3, 1, .inr (.inl u)))]) A) (XC := fun A => vx_X (fun (k : Nat) => False) (fun E9 k t => E9 = xN k) A) RL rfl (by decide) (Nat.le_of_ble_eq_true rfl) ?_
  intro p e s m args below meth c hae hx hb hr hts hown hlocks hml hnm htb hP hK A hAe hD hZ hS hA ls hl
  have hl : lv_has ls 5 [(0, .ref (a 0)), (1, .int p0), (2, .int p1), (3, .ref o)] := hl
  refine lv_aload_n hx hb dL_wholes_0 rfl (lv_at hl 3 rfl) ?_
  refine lv_iconst (v := 0) hx hb dL_wholes_1 (by decide) ?_
  refine lv_aload_n hx hb dL_wholes_2 rfl (lv_at hl 0 rfl) ?_
  refine lv_iload_n hx hb dL_wholes_3 rfl (lv_at hl 1 rfl) ?_
  refine lv_iload_n hx hb dL_wholes_4 rfl (lv_at hl 2 rfl) ?_
  have hPc := hP.sub (ws' := [(a 0, .inr (11, [.ref (a 1), .ref (a 2), .ref (a 3), .ref (a 4), .ref (a 5), .ref (a 10), .ref (a 15), .ref (a 17), .null, .int 0, .int 0, .int 0])), (a 3, .inr (2, [.int 0, .ref E, .int 0]))]) [0, 1] rfl
  have hDc := hD.sub (ws' := [(a 0, .inr (11, [.ref (a 1), .ref (a 2), .ref (a 3), .ref (a 4), .ref (a 5), .ref (a 10), .ref (a 15), .ref (a 17), .null, .int 0, .int 0, .int 0])), (a 3, .inr (2, [.int 0, .ref E, .int 0]))]) [0, 1] (by decide) rfl
  have hFc := va_free (wc := [(a 0, .inr (11, [.ref (a 1), .ref (a 2), .ref (a 3), .ref (a 4), .ref (a 5), .ref (a 10), .ref (a 15), .ref (a 17), .null, .int 0, .int 0, .int 0])), (a 3, .inr (2, [.int 0, .ref E, .int 0]))]) hD hS hA [0, 1] rfl
  refine vx_calli (vx_runV (As := [.int p0, .int p1]) (rest := [.int 0, .ref o]) ⟨hx, hb, hml, hown, hts⟩ (c_X8_wholes l hlt D dA E a p0 p1 s.heap.size ) (cwV 2 hts (ga_V q429 q430 q427 q113 q428) rfl rfl rfl (by decide +kernel) ⟨(Nat.le_of_ble_eq_true rfl), (Nat.le_of_ble_eq_true rfl)⟩) ⟨pb_blind, va_recv hK hPc (ci := 11) (q0 := 0) rfl rfl, pb_pre hK hPc hDc hZ hS hFc _⟩ rfl rfl hl.1 rfl (lv_room (Nat.le_of_ble_eq_true rfl)) dL_wholes_5 ⟨(Nat.le_of_ble_eq_true rfl), (Nat.le_of_ble_eq_true rfl)⟩) hS (fun q _ h => hFc q h) hFc (fun q _ h => hFc q h) (fun E9 ce q9 k t H1 locs ht hvm hpx hBX hz1 hk1 hS hce hcv hcl => ?_) (fun r u t H1 locs ht hvm hw hB hz1 hk1 hS => ?_)
  · obtain ⟨hP, hD⟩ := jn_drop (wr := [(o, .inl (dA 3, 1, .inr (.inl g)))]) hP hD [0, 1] [2] rfl rfl (by decide) (by decide) hk1 hFc
    generalize H1 = H at hP hS hce ⊢
    have hP : va_P D vwCl [(o, .inl (dA 3, 1, .inr (.inl g)))] H := hP
    have hD : va_D A [(o, .inl (dA 3, 1, .inr (.inl g)))] := hD
    refine vx_widen (k := 1) (n := 6) (Nat.le_of_ble_eq_true rfl) (Nat.le_of_ble_eq_true rfl) ?_
    subst hpx
    subst hBX
    refine vx_catch (own := RL) (name := "java/lang/IndexOutOfBoundsException") (E := "java/lang/IndexOutOfBoundsException") hown [] ⟨0, 10, 13, 21⟩ [] htb (fun _ h9 => absurd h9 List.not_mem_nil) rfl (by decide) (hts _ q341) (va_Nw.use rfl (hZ.1.1 _ (List.mem_of_getElem? (i := 3) rfl))) hce hcv hcl ?_
    refine W.eq (g2 := F0 m 13 ls [.ref q9]) rfl ?_
    refine lv_astore (lv' := [(4, .ref q9), (0, .ref (a 0)), (1, .int p0), (2, .int p1), (3, .ref o)]) hx hb dL_wholes_13 hl (by decide) rfl (fun ls hl => ?_)
    refine lv_iconst (v := 1) hx hb dL_wholes_15 (by decide) ?_
    refine W.widen (k := 1) (n := 6) (Nat.le_of_ble_eq_true rfl) (Nat.le_of_ble_eq_true rfl) ?_
    refine vx_ret ?_
    have hP9 := hP.sub (ws' := [(o, .inl (dA 3, 1, .inr (.inl g)))]) [0] rfl
    have hD9 := hD.sub (ws' := [(o, .inl (dA 3, 1, .inr (.inl g)))]) [0] (by decide) rfl
    exact W.iret (v := 1) hx hb hr (fun t ht hW => ⟨⟨1, g, rfl, (rfl), ⟨by rw [ht]; exact hP9, hD9⟩⟩, hS.F ht⟩) hS.2.2 dL_wholes_16
  · exact hw.elim

set_option maxHeartbeats 4000000 in
set_option maxRecDepth 100000 in
theorem c_L_wholeScore (l : Launch) (hlt : l.stackTraces = false) (D : va_G) (dA : Nat → ClassId) (E : Nat) (a : Nat → Nat) (o : Nat) (g : Nat → Int64) (p0 p1 p2 : Int32) (sz : Nat)  : vx_Met l yL_wholeScore (wq (.codeWith yL_wholeScore cL_wholeScore 6 (some .int) [(0, 11, 14, 21), (0, 11, 18, 80)])) { frames := 9, cells := 1, slots := 6, locals := 151 } (va_Pc [.ref (a 0), .int p0, .int p1, .int p2, .ref o] (PcB D dA E [(a 0, .inr (11, [.ref (a 1), .ref (a 2), .ref (a 3), .ref (a 4), .ref (a 5), .ref (a 10), .ref (a 15), .ref (a 17), .null, .int 0, .int 0, .int 0])), (a 3, .inr (2, [.int 0, .ref E, .int 0])), (o, .inl (dA 3, 1, .inr (.inl g)))] sz)) (va_Qi (fun (r : Int32) (u : Nat → Int64) => r = 1) (fun u t => va_P D vwCl [(o, .inl (dA 3, 1, .inr (.inl u)))] t.heap ∧ va_D (va_A [(a 0, .inr (11, [.ref (a 1), .ref (a 2), .ref (a 3), .ref (a 4), .ref (a 5), .ref (a 10), .ref (a 15), .ref (a 17), .null, .int 0, .int 0, .int 0])), (a 3, .inr (2, [.int 0, .ref E, .int 0])), (o, .inl (dA 3, 1, .inr (.inl g)))] sz) [(o, .inl (dA 3, 1, .inr (.inl u)))]) (va_A [(a 0, .inr (11, [.ref (a 1), .ref (a 2), .ref (a 3), .ref (a 4), .ref (a 5), .ref (a 10), .ref (a 15), .ref (a 17), .null, .int 0, .int 0, .int 0])), (a 3, .inr (2, [.int 0, .ref E, .int 0])), (o, .inl (dA 3, 1, .inr (.inl g)))] sz)) (vx_X (fun (k : Nat) => False) (fun E9 k t => E9 = xN k) (va_A [(a 0, .inr (11, [.ref (a 1), .ref (a 2), .ref (a 3), .ref (a 4), .ref (a 5), .ref (a 10), .ref (a 15), .ref (a 17), .null, .int 0, .int 0, .int 0])), (a 3, .inr (2, [.int 0, .ref E, .int 0])), (o, .inl (dA 3, 1, .inr (.inl g)))] sz)) 1 6 (va_A [(a 0, .inr (11, [.ref (a 1), .ref (a 2), .ref (a 3), .ref (a 4), .ref (a 5), .ref (a 10), .ref (a 15), .ref (a 17), .null, .int 0, .int 0, .int 0])), (a 3, .inr (2, [.int 0, .ref E, .int 0])), (o, .inl (dA 3, 1, .inr (.inl g)))] sz) := by
  refine mh_of (y := yL_wholeScore) (av := [.ref (a 0), .int p0, .int p1, .int p2, .ref o]) (maxL := 6) (Qc := fun A => va_Qi (fun (r : Int32) (u : Nat → Int64) => r = 1) (fun u t => va_P D vwCl [(o, .inl (dA 3, 1, .inr (.inl u)))] t.heap ∧ va_D A [(o, .inl (dA 3, 1, .inr (.inl u)))]) A) (XC := fun A => vx_X (fun (k : Nat) => False) (fun E9 k t => E9 = xN k) A) RL rfl (by decide) (Nat.le_of_ble_eq_true rfl) ?_
  intro p e s m args below meth c hae hx hb hr hts hown hlocks hml hnm htb hP hK A hAe hD hZ hS hA ls hl
  have hl : lv_has ls 6 [(0, .ref (a 0)), (1, .int p0), (2, .int p1), (3, .int p2), (4, .ref o)] := hl
  refine lv_aload hx hb dL_wholeScore_0 (lv_at hl 4 rfl) ?_
  refine lv_iconst (v := 0) hx hb dL_wholeScore_2 (by decide) ?_
  refine lv_aload_n hx hb dL_wholeScore_3 rfl (lv_at hl 0 rfl) ?_
  refine lv_iload_n hx hb dL_wholeScore_4 rfl (lv_at hl 1 rfl) ?_
  refine lv_iload_n hx hb dL_wholeScore_5 rfl (lv_at hl 2 rfl) ?_
  refine lv_iload_n hx hb dL_wholeScore_6 rfl (lv_at hl 3 rfl) ?_
  have hPc := hP.sub (ws' := [(a 0, .inr (11, [.ref (a 1), .ref (a 2), .ref (a 3), .ref (a 4), .ref (a 5), .ref (a 10), .ref (a 15), .ref (a 17), .null, .int 0, .int 0, .int 0])), (a 3, .inr (2, [.int 0, .ref E, .int 0]))]) [0, 1] rfl
  have hDc := hD.sub (ws' := [(a 0, .inr (11, [.ref (a 1), .ref (a 2), .ref (a 3), .ref (a 4), .ref (a 5), .ref (a 10), .ref (a 15), .ref (a 17), .null, .int 0, .int 0, .int 0])), (a 3, .inr (2, [.int 0, .ref E, .int 0]))]) [0, 1] (by decide) rfl
  have hFc := va_free (wc := [(a 0, .inr (11, [.ref (a 1), .ref (a 2), .ref (a 3), .ref (a 4), .ref (a 5), .ref (a 10), .ref (a 15), .ref (a 17), .null, .int 0, .int 0, .int 0])), (a 3, .inr (2, [.int 0, .ref E, .int 0]))]) hD hS hA [0, 1] rfl
  refine vx_calll (vx_runV (As := [.int p0, .int p1, .int p2]) (rest := [.int 0, .ref o]) ⟨hx, hb, hml, hown, hts⟩ (c_X8_wholeScore l hlt D dA E a p0 p1 p2 s.heap.size ) (cwV 3 hts (ga_V q433 q434 q431 q113 q432) rfl rfl rfl (by decide +kernel) ⟨(Nat.le_of_ble_eq_true rfl), (Nat.le_of_ble_eq_true rfl)⟩) ⟨pb_blind, va_recv hK hPc (ci := 11) (q0 := 0) rfl rfl, pb_pre hK hPc hDc hZ hS hFc _⟩ rfl rfl hl.1 rfl (lv_room (Nat.le_of_ble_eq_true rfl)) dL_wholeScore_7 ⟨(Nat.le_of_ble_eq_true rfl), (Nat.le_of_ble_eq_true rfl)⟩) hS (fun q _ h => hFc q h) hFc (fun q _ h => hFc q h) (fun E9 ce q9 k t H1 locs ht hvm hpx hBX hz1 hk1 hS hce hcv hcl => ?_) (fun r u t H1 locs ht hvm hw hB hz1 hk1 hS => ?_)
  · obtain ⟨hP, hD⟩ := jn_drop (wr := [(o, .inl (dA 3, 1, .inr (.inl g)))]) hP hD [0, 1] [2] rfl rfl (by decide) (by decide) hk1 hFc
    generalize H1 = H at hP hS hce ⊢
    have hP : va_P D vwCl [(o, .inl (dA 3, 1, .inr (.inl g)))] H := hP
    have hD : va_D A [(o, .inl (dA 3, 1, .inr (.inl g)))] := hD
    refine vx_widen (k := 1) (n := 6) (Nat.le_of_ble_eq_true rfl) (Nat.le_of_ble_eq_true rfl) ?_
    subst hpx
    subst hBX
    refine vx_catch (own := RL) (name := "java/lang/IndexOutOfBoundsException") (E := "java/lang/IndexOutOfBoundsException") hown [] ⟨0, 11, 14, 21⟩ [⟨0, 11, 18, 80⟩] htb (fun _ h9 => absurd h9 List.not_mem_nil) rfl (by decide) (hts _ q341) (va_Nw.use rfl (hZ.1.1 _ (List.mem_of_getElem? (i := 3) rfl))) hce hcv hcl ?_
    refine W.eq (g2 := F0 m 14 ls [.ref q9]) rfl ?_
    refine lv_astore (lv' := [(5, .ref q9), (0, .ref (a 0)), (1, .int p0), (2, .int p1), (3, .int p2), (4, .ref o)]) hx hb dL_wholeScore_14 hl (by decide) rfl (fun ls hl => ?_)
    refine lv_iconst (v := 1) hx hb dL_wholeScore_16 (by decide) ?_
    refine W.widen (k := 1) (n := 6) (Nat.le_of_ble_eq_true rfl) (Nat.le_of_ble_eq_true rfl) ?_
    refine vx_ret ?_
    have hP9 := hP.sub (ws' := [(o, .inl (dA 3, 1, .inr (.inl g)))]) [0] rfl
    have hD9 := hD.sub (ws' := [(o, .inl (dA 3, 1, .inr (.inl g)))]) [0] (by decide) rfl
    exact W.iret (v := 1) hx hb hr (fun t ht hW => ⟨⟨1, g, rfl, (rfl), ⟨by rw [ht]; exact hP9, hD9⟩⟩, hS.F ht⟩) hS.2.2 dL_wholeScore_17
  · exact hw.elim

set_option maxHeartbeats 4000000 in
set_option maxRecDepth 100000 in
theorem c_L_marked (l : Launch) (hlt : l.stackTraces = false) (D : va_G) (dA : Nat → ClassId) (E : Nat) (a : Nat → Nat) (o : Nat) (g : Nat → Int64) (p0 p1 p2 : Int32) (sz : Nat)  : vx_Met l yL_marked (wq (.codeWith yL_marked cL_marked 6 (some .int) [(0, 12, 15, 21), (0, 12, 19, 80)])) { frames := 8, cells := 1, slots := 6, locals := 127 } (va_Pc [.ref (a 0), .int p0, .int p1, .int p2, .ref o] (PcB D dA E [(a 0, .inr (11, [.ref (a 1), .ref (a 2), .ref (a 3), .ref (a 4), .ref (a 5), .ref (a 10), .ref (a 15), .ref (a 17), .null, .int 0, .int 0, .int 0])), (a 4, .inr (2, [.int 0, .ref E, .int 0])), (o, .inl (dA 3, 1, .inr (.inl g)))] sz)) (va_Qi (fun (r : Int32) (u : Nat → Int64) => r = 1) (fun u t => va_P D vwCl [(o, .inl (dA 3, 1, .inr (.inl u)))] t.heap ∧ va_D (va_A [(a 0, .inr (11, [.ref (a 1), .ref (a 2), .ref (a 3), .ref (a 4), .ref (a 5), .ref (a 10), .ref (a 15), .ref (a 17), .null, .int 0, .int 0, .int 0])), (a 4, .inr (2, [.int 0, .ref E, .int 0])), (o, .inl (dA 3, 1, .inr (.inl g)))] sz) [(o, .inl (dA 3, 1, .inr (.inl u)))]) (va_A [(a 0, .inr (11, [.ref (a 1), .ref (a 2), .ref (a 3), .ref (a 4), .ref (a 5), .ref (a 10), .ref (a 15), .ref (a 17), .null, .int 0, .int 0, .int 0])), (a 4, .inr (2, [.int 0, .ref E, .int 0])), (o, .inl (dA 3, 1, .inr (.inl g)))] sz)) (vx_X (fun (k : Nat) => False) (fun E9 k t => E9 = xN k) (va_A [(a 0, .inr (11, [.ref (a 1), .ref (a 2), .ref (a 3), .ref (a 4), .ref (a 5), .ref (a 10), .ref (a 15), .ref (a 17), .null, .int 0, .int 0, .int 0])), (a 4, .inr (2, [.int 0, .ref E, .int 0])), (o, .inl (dA 3, 1, .inr (.inl g)))] sz)) 1 6 (va_A [(a 0, .inr (11, [.ref (a 1), .ref (a 2), .ref (a 3), .ref (a 4), .ref (a 5), .ref (a 10), .ref (a 15), .ref (a 17), .null, .int 0, .int 0, .int 0])), (a 4, .inr (2, [.int 0, .ref E, .int 0])), (o, .inl (dA 3, 1, .inr (.inl g)))] sz) := by
  refine mh_of (y := yL_marked) (av := [.ref (a 0), .int p0, .int p1, .int p2, .ref o]) (maxL := 6) (Qc := fun A => va_Qi (fun (r : Int32) (u : Nat → Int64) => r = 1) (fun u t => va_P D vwCl [(o, .inl (dA 3, 1, .inr (.inl u)))] t.heap ∧ va_D A [(o, .inl (dA 3, 1, .inr (.inl u)))]) A) (XC := fun A => vx_X (fun (k : Nat) => False) (fun E9 k t => E9 = xN k) A) RL rfl (by decide) (Nat.le_of_ble_eq_true rfl) ?_
  intro p e s m args below meth c hae hx hb hr hts hown hlocks hml hnm htb hP hK A hAe hD hZ hS hA ls hl
  have hl : lv_has ls 6 [(0, .ref (a 0)), (1, .int p0), (2, .int p1), (3, .int p2), (4, .ref o)] := hl
  refine lv_aload hx hb dL_marked_0 (lv_at hl 4 rfl) ?_
  refine lv_iconst (v := 0) hx hb dL_marked_2 (by decide) ?_
  refine lv_aload_n hx hb dL_marked_3 rfl (lv_at hl 0 rfl) ?_
  refine lv_iload_n hx hb dL_marked_4 rfl (lv_at hl 1 rfl) ?_
  refine lv_iload_n hx hb dL_marked_5 rfl (lv_at hl 2 rfl) ?_
  refine lv_iload_n hx hb dL_marked_6 rfl (lv_at hl 3 rfl) ?_
  have hPc := hP.sub (ws' := [(a 0, .inr (11, [.ref (a 1), .ref (a 2), .ref (a 3), .ref (a 4), .ref (a 5), .ref (a 10), .ref (a 15), .ref (a 17), .null, .int 0, .int 0, .int 0])), (a 4, .inr (2, [.int 0, .ref E, .int 0]))]) [0, 1] rfl
  have hDc := hD.sub (ws' := [(a 0, .inr (11, [.ref (a 1), .ref (a 2), .ref (a 3), .ref (a 4), .ref (a 5), .ref (a 10), .ref (a 15), .ref (a 17), .null, .int 0, .int 0, .int 0])), (a 4, .inr (2, [.int 0, .ref E, .int 0]))]) [0, 1] (by decide) rfl
  have hFc := va_free (wc := [(a 0, .inr (11, [.ref (a 1), .ref (a 2), .ref (a 3), .ref (a 4), .ref (a 5), .ref (a 10), .ref (a 15), .ref (a 17), .null, .int 0, .int 0, .int 0])), (a 4, .inr (2, [.int 0, .ref E, .int 0]))]) hD hS hA [0, 1] rfl
  refine vx_calli (vx_runV (As := [.int p0, .int p1, .int p2]) (rest := [.int 0, .ref o]) ⟨hx, hb, hml, hown, hts⟩ (c_X8_marked l hlt D dA E a p0 p1 p2 s.heap.size ) (cwV 3 hts (ga_V q437 q438 q435 q113 q436) rfl rfl rfl (by decide +kernel) ⟨(Nat.le_of_ble_eq_true rfl), (Nat.le_of_ble_eq_true rfl)⟩) ⟨pb_blind, va_recv hK hPc (ci := 11) (q0 := 0) rfl rfl, pb_pre hK hPc hDc hZ hS hFc _⟩ rfl rfl hl.1 rfl (lv_room (Nat.le_of_ble_eq_true rfl)) dL_marked_7 ⟨(Nat.le_of_ble_eq_true rfl), (Nat.le_of_ble_eq_true rfl)⟩) hS (fun q _ h => hFc q h) hFc (fun q _ h => hFc q h) (fun E9 ce q9 k t H1 locs ht hvm hpx hBX hz1 hk1 hS hce hcv hcl => ?_) (fun r u t H1 locs ht hvm hw hB hz1 hk1 hS => ?_)
  · obtain ⟨hP, hD⟩ := jn_drop (wr := [(o, .inl (dA 3, 1, .inr (.inl g)))]) hP hD [0, 1] [2] rfl rfl (by decide) (by decide) hk1 hFc
    generalize H1 = H at hP hS hce ⊢
    have hP : va_P D vwCl [(o, .inl (dA 3, 1, .inr (.inl g)))] H := hP
    have hD : va_D A [(o, .inl (dA 3, 1, .inr (.inl g)))] := hD
    refine vx_widen (k := 1) (n := 6) (Nat.le_of_ble_eq_true rfl) (Nat.le_of_ble_eq_true rfl) ?_
    subst hpx
    subst hBX
    refine vx_catch (own := RL) (name := "java/lang/IndexOutOfBoundsException") (E := "java/lang/IndexOutOfBoundsException") hown [] ⟨0, 12, 15, 21⟩ [⟨0, 12, 19, 80⟩] htb (fun _ h9 => absurd h9 List.not_mem_nil) rfl (by decide) (hts _ q341) (va_Nw.use rfl (hZ.1.1 _ (List.mem_of_getElem? (i := 3) rfl))) hce hcv hcl ?_
    refine W.eq (g2 := F0 m 15 ls [.ref q9]) rfl ?_
    refine lv_astore (lv' := [(5, .ref q9), (0, .ref (a 0)), (1, .int p0), (2, .int p1), (3, .int p2), (4, .ref o)]) hx hb dL_marked_15 hl (by decide) rfl (fun ls hl => ?_)
    refine lv_iconst (v := 1) hx hb dL_marked_17 (by decide) ?_
    refine W.widen (k := 1) (n := 6) (Nat.le_of_ble_eq_true rfl) (Nat.le_of_ble_eq_true rfl) ?_
    refine vx_ret ?_
    have hP9 := hP.sub (ws' := [(o, .inl (dA 3, 1, .inr (.inl g)))]) [0] rfl
    have hD9 := hD.sub (ws' := [(o, .inl (dA 3, 1, .inr (.inl g)))]) [0] (by decide) rfl
    exact W.iret (v := 1) hx hb hr (fun t ht hW => ⟨⟨1, g, rfl, (rfl), ⟨by rw [ht]; exact hP9, hD9⟩⟩, hS.F ht⟩) hS.2.2 dL_marked_18
  · exact hw.elim

set_option maxHeartbeats 4000000 in
set_option maxRecDepth 100000 in
theorem c_L_click (l : Launch) (hlt : l.stackTraces = false) (D : va_G) (dA : Nat → ClassId) (E : Nat) (a : Nat → Nat) (o : Nat) (g : Nat → Int64) (p0 : Int32) (sz : Nat)  : vx_Met l yL_click (wq (.codeWith yL_click cL_click 4 (some .int) [(0, 9, 12, 21)])) { frames := 9, cells := 1, slots := 6, locals := 146 } (va_Pc [.ref (a 0), .int p0, .ref o] (PcB D dA E [(a 0, .inr (11, [.ref (a 1), .ref (a 2), .ref (a 3), .ref (a 4), .ref (a 5), .ref (a 10), .ref (a 15), .ref (a 17), .null, .int 0, .int 0, .int 0])), (a 2, .inr (2, [.int 0, .ref E, .int 0])), (o, .inl (dA 3, 1, .inr (.inl g)))] sz)) (va_Qi (fun (r : Int32) (u : Nat → Int64) => r = 1) (fun u t => va_P D vwCl [(o, .inl (dA 3, 1, .inr (.inl u)))] t.heap ∧ va_D (va_A [(a 0, .inr (11, [.ref (a 1), .ref (a 2), .ref (a 3), .ref (a 4), .ref (a 5), .ref (a 10), .ref (a 15), .ref (a 17), .null, .int 0, .int 0, .int 0])), (a 2, .inr (2, [.int 0, .ref E, .int 0])), (o, .inl (dA 3, 1, .inr (.inl g)))] sz) [(o, .inl (dA 3, 1, .inr (.inl u)))]) (va_A [(a 0, .inr (11, [.ref (a 1), .ref (a 2), .ref (a 3), .ref (a 4), .ref (a 5), .ref (a 10), .ref (a 15), .ref (a 17), .null, .int 0, .int 0, .int 0])), (a 2, .inr (2, [.int 0, .ref E, .int 0])), (o, .inl (dA 3, 1, .inr (.inl g)))] sz)) (vx_X (fun (k : Nat) => False) (fun E9 k t => E9 = xN k) (va_A [(a 0, .inr (11, [.ref (a 1), .ref (a 2), .ref (a 3), .ref (a 4), .ref (a 5), .ref (a 10), .ref (a 15), .ref (a 17), .null, .int 0, .int 0, .int 0])), (a 2, .inr (2, [.int 0, .ref E, .int 0])), (o, .inl (dA 3, 1, .inr (.inl g)))] sz)) 1 6 (va_A [(a 0, .inr (11, [.ref (a 1), .ref (a 2), .ref (a 3), .ref (a 4), .ref (a 5), .ref (a 10), .ref (a 15), .ref (a 17), .null, .int 0, .int 0, .int 0])), (a 2, .inr (2, [.int 0, .ref E, .int 0])), (o, .inl (dA 3, 1, .inr (.inl g)))] sz) := by
  refine mh_of (y := yL_click) (av := [.ref (a 0), .int p0, .ref o]) (maxL := 4) (Qc := fun A => va_Qi (fun (r : Int32) (u : Nat → Int64) => r = 1) (fun u t => va_P D vwCl [(o, .inl (dA 3, 1, .inr (.inl u)))] t.heap ∧ va_D A [(o, .inl (dA 3, 1, .inr (.inl u)))]) A) (XC := fun A => vx_X (fun (k : Nat) => False) (fun E9 k t => E9 = xN k) A) RL rfl (by decide) (Nat.le_of_ble_eq_true rfl) ?_
  intro p e s m args below meth c hae hx hb hr hts hown hlocks hml hnm htb hP hK A hAe hD hZ hS hA ls hl
  have hl : lv_has ls 4 [(0, .ref (a 0)), (1, .int p0), (2, .ref o)] := hl
  refine lv_aload_n hx hb dL_click_0 rfl (lv_at hl 2 rfl) ?_
  refine lv_iconst (v := 0) hx hb dL_click_1 (by decide) ?_
  refine lv_aload_n hx hb dL_click_2 rfl (lv_at hl 0 rfl) ?_
  refine lv_iload_n hx hb dL_click_3 rfl (lv_at hl 1 rfl) ?_
  have hPc := hP.sub (ws' := [(a 0, .inr (11, [.ref (a 1), .ref (a 2), .ref (a 3), .ref (a 4), .ref (a 5), .ref (a 10), .ref (a 15), .ref (a 17), .null, .int 0, .int 0, .int 0])), (a 2, .inr (2, [.int 0, .ref E, .int 0]))]) [0, 1] rfl
  have hDc := hD.sub (ws' := [(a 0, .inr (11, [.ref (a 1), .ref (a 2), .ref (a 3), .ref (a 4), .ref (a 5), .ref (a 10), .ref (a 15), .ref (a 17), .null, .int 0, .int 0, .int 0])), (a 2, .inr (2, [.int 0, .ref E, .int 0]))]) [0, 1] (by decide) rfl
  have hFc := va_free (wc := [(a 0, .inr (11, [.ref (a 1), .ref (a 2), .ref (a 3), .ref (a 4), .ref (a 5), .ref (a 10), .ref (a 15), .ref (a 17), .null, .int 0, .int 0, .int 0])), (a 2, .inr (2, [.int 0, .ref E, .int 0]))]) hD hS hA [0, 1] rfl
  refine vx_calli (vx_runV (As := [.int p0]) (rest := [.int 0, .ref o]) ⟨hx, hb, hml, hown, hts⟩ (c_X8_click l hlt D dA E a p0 s.heap.size ) (cwV 1 hts (ga_V q441 q442 q439 q113 q440) rfl rfl rfl (by decide +kernel) ⟨(Nat.le_of_ble_eq_true rfl), (Nat.le_of_ble_eq_true rfl)⟩) ⟨pb_blind, va_recv hK hPc (ci := 11) (q0 := 0) rfl rfl, pb_pre hK hPc hDc hZ hS hFc _⟩ rfl rfl hl.1 rfl (lv_room (Nat.le_of_ble_eq_true rfl)) dL_click_4 ⟨(Nat.le_of_ble_eq_true rfl), (Nat.le_of_ble_eq_true rfl)⟩) hS (fun q _ h => hFc q h) hFc (fun q _ h => hFc q h) (fun E9 ce q9 k t H1 locs ht hvm hpx hBX hz1 hk1 hS hce hcv hcl => ?_) (fun r u t H1 locs ht hvm hw hB hz1 hk1 hS => ?_)
  · obtain ⟨hP, hD⟩ := jn_drop (wr := [(o, .inl (dA 3, 1, .inr (.inl g)))]) hP hD [0, 1] [2] rfl rfl (by decide) (by decide) hk1 hFc
    generalize H1 = H at hP hS hce ⊢
    have hP : va_P D vwCl [(o, .inl (dA 3, 1, .inr (.inl g)))] H := hP
    have hD : va_D A [(o, .inl (dA 3, 1, .inr (.inl g)))] := hD
    refine vx_widen (k := 1) (n := 6) (Nat.le_of_ble_eq_true rfl) (Nat.le_of_ble_eq_true rfl) ?_
    subst hpx
    subst hBX
    refine vx_catch (own := RL) (name := "java/lang/IndexOutOfBoundsException") (E := "java/lang/IndexOutOfBoundsException") hown [] ⟨0, 9, 12, 21⟩ [] htb (fun _ h9 => absurd h9 List.not_mem_nil) rfl (by decide) (hts _ q341) (va_Nw.use rfl (hZ.1.1 _ (List.mem_of_getElem? (i := 3) rfl))) hce hcv hcl ?_
    refine W.eq (g2 := F0 m 12 ls [.ref q9]) rfl ?_
    refine lv_astore_n (lv' := [(3, .ref q9), (0, .ref (a 0)), (1, .int p0), (2, .ref o)]) hx hb dL_click_12 rfl hl (by decide) rfl (fun ls hl => ?_)
    refine lv_iconst (v := 1) hx hb dL_click_13 (by decide) ?_
    refine W.widen (k := 1) (n := 6) (Nat.le_of_ble_eq_true rfl) (Nat.le_of_ble_eq_true rfl) ?_
    refine vx_ret ?_
    have hP9 := hP.sub (ws' := [(o, .inl (dA 3, 1, .inr (.inl g)))]) [0] rfl
    have hD9 := hD.sub (ws' := [(o, .inl (dA 3, 1, .inr (.inl g)))]) [0] (by decide) rfl
    exact W.iret (v := 1) hx hb hr (fun t ht hW => ⟨⟨1, g, rfl, (rfl), ⟨by rw [ht]; exact hP9, hD9⟩⟩, hS.F ht⟩) hS.2.2 dL_click_14
  · exact hw.elim

set_option maxHeartbeats 4000000 in
set_option maxRecDepth 100000 in
theorem c_L_setBound (l : Launch) (hlt : l.stackTraces = false) (D : va_G) (dA : Nat → ClassId) (E : Nat) (a : Nat → Nat) (o : Nat) (g : Nat → Int64) (p0 : Int32) (sz : Nat)  : vx_Met l yL_setBound (wq (.codeWith yL_setBound cL_setBound 4 (some .int) [(0, 9, 12, 13)])) { frames := 7, cells := 1, slots := 6, locals := 104 } (va_Pc [.ref (a 0), .int p0, .ref o] (PcB D dA E [(a 0, .inr (11, [.ref (a 1), .ref (a 2), .ref (a 3), .ref (a 4), .ref (a 5), .ref (a 10), .ref (a 15), .ref (a 17), .null, .int 0, .int 0, .int 0])), (o, .inl (dA 3, 1, .inr (.inl g)))] sz)) (va_Qi (fun (r : Int32) (u : Nat → Int64) => ((inR 0 999 p0 = true) ∧ r = 0 ∧ u 0 = 0) ∨ ((inR 0 999 p0 = false) ∧ r = 1)) (fun u t => va_P D vwCl [(o, .inl (dA 3, 1, .inr (.inl u)))] t.heap ∧ va_D (va_A [(a 0, .inr (11, [.ref (a 1), .ref (a 2), .ref (a 3), .ref (a 4), .ref (a 5), .ref (a 10), .ref (a 15), .ref (a 17), .null, .int 0, .int 0, .int 0])), (o, .inl (dA 3, 1, .inr (.inl g)))] sz) [(o, .inl (dA 3, 1, .inr (.inl u)))]) (va_A [(a 0, .inr (11, [.ref (a 1), .ref (a 2), .ref (a 3), .ref (a 4), .ref (a 5), .ref (a 10), .ref (a 15), .ref (a 17), .null, .int 0, .int 0, .int 0])), (o, .inl (dA 3, 1, .inr (.inl g)))] sz)) (vx_X (fun (k : Nat) => False) (fun E9 k t => E9 = xN k) (va_A [(a 0, .inr (11, [.ref (a 1), .ref (a 2), .ref (a 3), .ref (a 4), .ref (a 5), .ref (a 10), .ref (a 15), .ref (a 17), .null, .int 0, .int 0, .int 0])), (o, .inl (dA 3, 1, .inr (.inl g)))] sz)) 1 6 (va_A [(a 0, .inr (11, [.ref (a 1), .ref (a 2), .ref (a 3), .ref (a 4), .ref (a 5), .ref (a 10), .ref (a 15), .ref (a 17), .null, .int 0, .int 0, .int 0])), (o, .inl (dA 3, 1, .inr (.inl g)))] sz) := by
  refine mh_of (y := yL_setBound) (av := [.ref (a 0), .int p0, .ref o]) (maxL := 4) (Qc := fun A => va_Qi (fun (r : Int32) (u : Nat → Int64) => ((inR 0 999 p0 = true) ∧ r = 0 ∧ u 0 = 0) ∨ ((inR 0 999 p0 = false) ∧ r = 1)) (fun u t => va_P D vwCl [(o, .inl (dA 3, 1, .inr (.inl u)))] t.heap ∧ va_D A [(o, .inl (dA 3, 1, .inr (.inl u)))]) A) (XC := fun A => vx_X (fun (k : Nat) => False) (fun E9 k t => E9 = xN k) A) RL rfl (by decide) (Nat.le_of_ble_eq_true rfl) ?_
  intro p e s m args below meth c hae hx hb hr hts hown hlocks hml hnm htb hP hK A hAe hD hZ hS hA ls hl
  have hl : lv_has ls 4 [(0, .ref (a 0)), (1, .int p0), (2, .ref o)] := hl
  refine lv_aload_n hx hb dL_setBound_0 rfl (lv_at hl 2 rfl) ?_
  refine lv_iconst (v := 0) hx hb dL_setBound_1 (by decide) ?_
  refine lv_aload_n hx hb dL_setBound_2 rfl (lv_at hl 0 rfl) ?_
  refine lv_iload_n hx hb dL_setBound_3 rfl (lv_at hl 1 rfl) ?_
  have hPc := hP.sub (ws' := [(a 0, .inr (11, [.ref (a 1), .ref (a 2), .ref (a 3), .ref (a 4), .ref (a 5), .ref (a 10), .ref (a 15), .ref (a 17), .null, .int 0, .int 0, .int 0]))]) [0] rfl
  have hDc := hD.sub (ws' := [(a 0, .inr (11, [.ref (a 1), .ref (a 2), .ref (a 3), .ref (a 4), .ref (a 5), .ref (a 10), .ref (a 15), .ref (a 17), .null, .int 0, .int 0, .int 0]))]) [0] (by decide) rfl
  have hFc := va_free (wc := [(a 0, .inr (11, [.ref (a 1), .ref (a 2), .ref (a 3), .ref (a 4), .ref (a 5), .ref (a 10), .ref (a 15), .ref (a 17), .null, .int 0, .int 0, .int 0]))]) hD hS hA [0] rfl
  refine vx_calli (vx_runV (As := [.int p0]) (rest := [.int 0, .ref o]) ⟨hx, hb, hml, hown, hts⟩ (c_X8_setBound l hlt D dA E a p0 s.heap.size ) (cwV 1 hts (ga_V q445 q446 q443 q113 q444) rfl rfl rfl (by decide +kernel) ⟨(Nat.le_of_ble_eq_true rfl), (Nat.le_of_ble_eq_true rfl)⟩) ⟨pb_blind, va_recv hK hPc (ci := 11) (q0 := 0) rfl rfl, pb_pre hK hPc hDc hZ hS hFc _⟩ rfl rfl hl.1 rfl (lv_room (Nat.le_of_ble_eq_true rfl)) dL_setBound_4 ⟨(Nat.le_of_ble_eq_true rfl), (Nat.le_of_ble_eq_true rfl)⟩) hS (fun q _ h => hFc q h) hFc (fun q _ h => hFc q h) (fun E9 ce q9 k t H1 locs ht hvm hpx hBX hz1 hk1 hS hce hcv hcl => ?_) (fun r u t H1 locs ht hvm hw hB hz1 hk1 hS => ?_)
  · obtain ⟨hP, hD⟩ := jn_drop (wr := [(o, .inl (dA 3, 1, .inr (.inl g)))]) hP hD [0] [1] rfl rfl (by decide) (by decide) hk1 hFc
    generalize H1 = H at hP hS hce ⊢
    have hP : va_P D vwCl [(o, .inl (dA 3, 1, .inr (.inl g)))] H := hP
    have hD : va_D A [(o, .inl (dA 3, 1, .inr (.inl g)))] := hD
    refine vx_widen (k := 1) (n := 6) (Nat.le_of_ble_eq_true rfl) (Nat.le_of_ble_eq_true rfl) ?_
    obtain ⟨hq, rfl⟩ := hpx
    subst hBX
    refine vx_catch (own := RL) (name := "java/lang/IllegalArgumentException") (E := "java/lang/IllegalArgumentException") hown [] ⟨0, 9, 12, 13⟩ [] htb (fun _ h9 => absurd h9 List.not_mem_nil) rfl (by decide) (hts _ q336) (va_Nw.use rfl (hZ.1.1 _ (List.mem_of_getElem? (i := 0) rfl))) hce hcv hcl ?_
    refine W.eq (g2 := F0 m 12 ls [.ref q9]) rfl ?_
    refine lv_astore_n (lv' := [(3, .ref q9), (0, .ref (a 0)), (1, .int p0), (2, .ref o)]) hx hb dL_setBound_12 rfl hl (by decide) rfl (fun ls hl => ?_)
    refine lv_iconst (v := 1) hx hb dL_setBound_13 (by decide) ?_
    refine W.widen (k := 1) (n := 6) (Nat.le_of_ble_eq_true rfl) (Nat.le_of_ble_eq_true rfl) ?_
    refine vx_ret ?_
    have hP9 := hP.sub (ws' := [(o, .inl (dA 3, 1, .inr (.inl g)))]) [0] rfl
    have hD9 := hD.sub (ws' := [(o, .inl (dA 3, 1, .inr (.inl g)))]) [0] (by decide) rfl
    exact W.iret (v := 1) hx hb hr (fun t ht hW => ⟨⟨1, g, rfl, (Or.inr (⟨hq, rfl⟩)), ⟨by rw [ht]; exact hP9, hD9⟩⟩, hS.F ht⟩) hS.2.2 dL_setBound_14
  · refine W.widen (k := 1) (n := 6) (Nat.le_of_ble_eq_true rfl) (Nat.le_of_ble_eq_true rfl) ?_
    obtain ⟨r1, rfl⟩ : ∃ z, z = r := ⟨_, rfl⟩
    obtain ⟨u2, rfl⟩ : ∃ z, z = u := ⟨_, rfl⟩
    have hw3 := hw
    clear hw
    obtain ⟨hP, hD⟩ := jn_drop (wr := [(o, .inl (dA 3, 1, .inr (.inl g)))]) hP hD [0] [1] rfl rfl (by decide) (by decide) hk1 hFc
    generalize H1 = H at hP hS ⊢
    have hP : va_P D vwCl [(o, .inl (dA 3, 1, .inr (.inl g)))] H := hP
    have hD : va_D A [(o, .inl (dA 3, 1, .inr (.inl g)))] := hD
    obtain ⟨hq, hw9⟩ := hw3
    obtain rfl : r1 = 0 := hw9
    refine lv_i2l (v := 0) hx hb dL_setBound_7 (by decide) ?_
    refine va_last hx hb hK hP hD hS 0 3 rfl rfl (vi_c (by decide)) dL_setBound_8 (fun H locs hP hD hS => ?_)
    have hP : va_P D vwCl [(o, .inl (dA 3, 1, .inr (.inl (vp_updL g (0 : Int32).toNatClampNeg 0))))] H := hP
    have hD : va_D A [(o, .inl (dA 3, 1, .inr (.inl (vp_updL g (0 : Int32).toNatClampNeg 0))))] := hD
    refine lv_goto (tgt := 15) hx hb dL_setBound_9 (by decide) ?_
    refine lv_iconst (v := 0) hx hb dL_setBound_15 (by decide) ?_
    refine W.widen (k := 1) (n := 6) (Nat.le_of_ble_eq_true rfl) (Nat.le_of_ble_eq_true rfl) ?_
    refine vx_ret ?_
    have hP9 := hP.sub (ws' := [(o, .inl (dA 3, 1, .inr (.inl (vp_updL g (0 : Int32).toNatClampNeg 0))))]) [0] rfl
    have hD9 := hD.sub (ws' := [(o, .inl (dA 3, 1, .inr (.inl (vp_updL g (0 : Int32).toNatClampNeg 0))))]) [0] (by decide) rfl
    exact W.iret (v := 0) hx hb hr (fun t ht hW => ⟨⟨0, (vp_updL g (0 : Int32).toNatClampNeg 0), rfl, (Or.inl (⟨hq, rfl, rfl⟩)), ⟨by rw [ht]; exact hP9, hD9⟩⟩, hS.F ht⟩) hS.2.2 dL_setBound_16

set_option maxHeartbeats 4000000 in
set_option maxRecDepth 100000 in
theorem c_L_turned (l : Launch) (hlt : l.stackTraces = false) (D : va_G) (dA : Nat → ClassId) (E : Nat) (a : Nat → Nat) (o : Nat) (g : Nat → Int64) (p0 p1 : Int32) (sz : Nat)  : vx_Met l yL_turned (wq (.codeWith yL_turned cL_turned 5 (some .int) [(0, 10, 13, 21)])) { frames := 9, cells := 1, slots := 6, locals := 152 } (va_Pc [.ref (a 0), .int p0, .int p1, .ref o] (PcB D dA E [(a 0, .inr (11, [.ref (a 1), .ref (a 2), .ref (a 3), .ref (a 4), .ref (a 5), .ref (a 10), .ref (a 15), .ref (a 17), .null, .int 0, .int 0, .int 0])), (a 3, .inr (2, [.int 0, .ref E, .int 0])), (o, .inl (dA 3, 1, .inr (.inl g)))] sz)) (va_Qi (fun (r : Int32) (u : Nat → Int64) => r = 1) (fun u t => va_P D vwCl [(o, .inl (dA 3, 1, .inr (.inl u)))] t.heap ∧ va_D (va_A [(a 0, .inr (11, [.ref (a 1), .ref (a 2), .ref (a 3), .ref (a 4), .ref (a 5), .ref (a 10), .ref (a 15), .ref (a 17), .null, .int 0, .int 0, .int 0])), (a 3, .inr (2, [.int 0, .ref E, .int 0])), (o, .inl (dA 3, 1, .inr (.inl g)))] sz) [(o, .inl (dA 3, 1, .inr (.inl u)))]) (va_A [(a 0, .inr (11, [.ref (a 1), .ref (a 2), .ref (a 3), .ref (a 4), .ref (a 5), .ref (a 10), .ref (a 15), .ref (a 17), .null, .int 0, .int 0, .int 0])), (a 3, .inr (2, [.int 0, .ref E, .int 0])), (o, .inl (dA 3, 1, .inr (.inl g)))] sz)) (vx_X (fun (k : Nat) => False) (fun E9 k t => E9 = xN k) (va_A [(a 0, .inr (11, [.ref (a 1), .ref (a 2), .ref (a 3), .ref (a 4), .ref (a 5), .ref (a 10), .ref (a 15), .ref (a 17), .null, .int 0, .int 0, .int 0])), (a 3, .inr (2, [.int 0, .ref E, .int 0])), (o, .inl (dA 3, 1, .inr (.inl g)))] sz)) 1 6 (va_A [(a 0, .inr (11, [.ref (a 1), .ref (a 2), .ref (a 3), .ref (a 4), .ref (a 5), .ref (a 10), .ref (a 15), .ref (a 17), .null, .int 0, .int 0, .int 0])), (a 3, .inr (2, [.int 0, .ref E, .int 0])), (o, .inl (dA 3, 1, .inr (.inl g)))] sz) := by
  refine mh_of (y := yL_turned) (av := [.ref (a 0), .int p0, .int p1, .ref o]) (maxL := 5) (Qc := fun A => va_Qi (fun (r : Int32) (u : Nat → Int64) => r = 1) (fun u t => va_P D vwCl [(o, .inl (dA 3, 1, .inr (.inl u)))] t.heap ∧ va_D A [(o, .inl (dA 3, 1, .inr (.inl u)))]) A) (XC := fun A => vx_X (fun (k : Nat) => False) (fun E9 k t => E9 = xN k) A) RL rfl (by decide) (Nat.le_of_ble_eq_true rfl) ?_
  intro p e s m args below meth c hae hx hb hr hts hown hlocks hml hnm htb hP hK A hAe hD hZ hS hA ls hl
  have hl : lv_has ls 5 [(0, .ref (a 0)), (1, .int p0), (2, .int p1), (3, .ref o)] := hl
  refine lv_aload_n hx hb dL_turned_0 rfl (lv_at hl 3 rfl) ?_
  refine lv_iconst (v := 0) hx hb dL_turned_1 (by decide) ?_
  refine lv_aload_n hx hb dL_turned_2 rfl (lv_at hl 0 rfl) ?_
  refine lv_iload_n hx hb dL_turned_3 rfl (lv_at hl 1 rfl) ?_
  refine lv_iload_n hx hb dL_turned_4 rfl (lv_at hl 2 rfl) ?_
  have hPc := hP.sub (ws' := [(a 0, .inr (11, [.ref (a 1), .ref (a 2), .ref (a 3), .ref (a 4), .ref (a 5), .ref (a 10), .ref (a 15), .ref (a 17), .null, .int 0, .int 0, .int 0])), (a 3, .inr (2, [.int 0, .ref E, .int 0]))]) [0, 1] rfl
  have hDc := hD.sub (ws' := [(a 0, .inr (11, [.ref (a 1), .ref (a 2), .ref (a 3), .ref (a 4), .ref (a 5), .ref (a 10), .ref (a 15), .ref (a 17), .null, .int 0, .int 0, .int 0])), (a 3, .inr (2, [.int 0, .ref E, .int 0]))]) [0, 1] (by decide) rfl
  have hFc := va_free (wc := [(a 0, .inr (11, [.ref (a 1), .ref (a 2), .ref (a 3), .ref (a 4), .ref (a 5), .ref (a 10), .ref (a 15), .ref (a 17), .null, .int 0, .int 0, .int 0])), (a 3, .inr (2, [.int 0, .ref E, .int 0]))]) hD hS hA [0, 1] rfl
  refine vx_calli (vx_runV (As := [.int p0, .int p1]) (rest := [.int 0, .ref o]) ⟨hx, hb, hml, hown, hts⟩ (c_X8_turned l hlt D dA E a p0 p1 s.heap.size ) (cwV 2 hts (ga_V q449 q450 q447 q113 q448) rfl rfl rfl (by decide +kernel) ⟨(Nat.le_of_ble_eq_true rfl), (Nat.le_of_ble_eq_true rfl)⟩) ⟨pb_blind, va_recv hK hPc (ci := 11) (q0 := 0) rfl rfl, pb_pre hK hPc hDc hZ hS hFc _⟩ rfl rfl hl.1 rfl (lv_room (Nat.le_of_ble_eq_true rfl)) dL_turned_5 ⟨(Nat.le_of_ble_eq_true rfl), (Nat.le_of_ble_eq_true rfl)⟩) hS (fun q _ h => hFc q h) hFc (fun q _ h => hFc q h) (fun E9 ce q9 k t H1 locs ht hvm hpx hBX hz1 hk1 hS hce hcv hcl => ?_) (fun r u t H1 locs ht hvm hw hB hz1 hk1 hS => ?_)
  · obtain ⟨hP, hD⟩ := jn_drop (wr := [(o, .inl (dA 3, 1, .inr (.inl g)))]) hP hD [0, 1] [2] rfl rfl (by decide) (by decide) hk1 hFc
    generalize H1 = H at hP hS hce ⊢
    have hP : va_P D vwCl [(o, .inl (dA 3, 1, .inr (.inl g)))] H := hP
    have hD : va_D A [(o, .inl (dA 3, 1, .inr (.inl g)))] := hD
    refine vx_widen (k := 1) (n := 6) (Nat.le_of_ble_eq_true rfl) (Nat.le_of_ble_eq_true rfl) ?_
    subst hpx
    subst hBX
    refine vx_catch (own := RL) (name := "java/lang/IndexOutOfBoundsException") (E := "java/lang/IndexOutOfBoundsException") hown [] ⟨0, 10, 13, 21⟩ [] htb (fun _ h9 => absurd h9 List.not_mem_nil) rfl (by decide) (hts _ q341) (va_Nw.use rfl (hZ.1.1 _ (List.mem_of_getElem? (i := 3) rfl))) hce hcv hcl ?_
    refine W.eq (g2 := F0 m 13 ls [.ref q9]) rfl ?_
    refine lv_astore (lv' := [(4, .ref q9), (0, .ref (a 0)), (1, .int p0), (2, .int p1), (3, .ref o)]) hx hb dL_turned_13 hl (by decide) rfl (fun ls hl => ?_)
    refine lv_iconst (v := 1) hx hb dL_turned_15 (by decide) ?_
    refine W.widen (k := 1) (n := 6) (Nat.le_of_ble_eq_true rfl) (Nat.le_of_ble_eq_true rfl) ?_
    refine vx_ret ?_
    have hP9 := hP.sub (ws' := [(o, .inl (dA 3, 1, .inr (.inl g)))]) [0] rfl
    have hD9 := hD.sub (ws' := [(o, .inl (dA 3, 1, .inr (.inl g)))]) [0] (by decide) rfl
    exact W.iret (v := 1) hx hb hr (fun t ht hW => ⟨⟨1, g, rfl, (rfl), ⟨by rw [ht]; exact hP9, hD9⟩⟩, hS.F ht⟩) hS.2.2 dL_turned_16
  · exact hw.elim

set_option maxHeartbeats 4000000 in
set_option maxRecDepth 100000 in
theorem c_L_removedShare (l : Launch) (hlt : l.stackTraces = false) (D : va_G) (dA : Nat → ClassId) (E : Nat) (a : Nat → Nat) (o : Nat) (g : Nat → UInt64) (sz : Nat)  : vx_Met l yL_removedShare (wq (.codeWith yL_removedShare cL_removedShare 3 (some .int) [(0, 8, 11, 117)])) { frames := 7, cells := 1, slots := 6, locals := 103 } (va_Pc [.ref (a 0), .ref o] (PcB D dA E [(a 0, .inr (11, [.ref (a 1), .ref (a 2), .ref (a 3), .ref (a 4), .ref (a 5), .ref (a 10), .ref (a 15), .ref (a 17), .null, .int 0, .int 0, .int 0])), (a 5, .inr (7, [.ref (a 6), .ref (a 8), .int 0, .int 0])), (o, .inl (dA 4, 1, .inr (.inr (.inr (.inl g)))))] sz)) (va_Qi (fun (r : Int32) (u : Nat → UInt64) => r = 1) (fun u t => va_P D vwCl [(o, .inl (dA 4, 1, .inr (.inr (.inr (.inl u)))))] t.heap ∧ va_D (va_A [(a 0, .inr (11, [.ref (a 1), .ref (a 2), .ref (a 3), .ref (a 4), .ref (a 5), .ref (a 10), .ref (a 15), .ref (a 17), .null, .int 0, .int 0, .int 0])), (a 5, .inr (7, [.ref (a 6), .ref (a 8), .int 0, .int 0])), (o, .inl (dA 4, 1, .inr (.inr (.inr (.inl g)))))] sz) [(o, .inl (dA 4, 1, .inr (.inr (.inr (.inl u)))))]) (va_A [(a 0, .inr (11, [.ref (a 1), .ref (a 2), .ref (a 3), .ref (a 4), .ref (a 5), .ref (a 10), .ref (a 15), .ref (a 17), .null, .int 0, .int 0, .int 0])), (a 5, .inr (7, [.ref (a 6), .ref (a 8), .int 0, .int 0])), (o, .inl (dA 4, 1, .inr (.inr (.inr (.inl g)))))] sz)) (vx_X (fun (k : Nat) => False) (fun E9 k t => E9 = xN k) (va_A [(a 0, .inr (11, [.ref (a 1), .ref (a 2), .ref (a 3), .ref (a 4), .ref (a 5), .ref (a 10), .ref (a 15), .ref (a 17), .null, .int 0, .int 0, .int 0])), (a 5, .inr (7, [.ref (a 6), .ref (a 8), .int 0, .int 0])), (o, .inl (dA 4, 1, .inr (.inr (.inr (.inl g)))))] sz)) 1 6 (va_A [(a 0, .inr (11, [.ref (a 1), .ref (a 2), .ref (a 3), .ref (a 4), .ref (a 5), .ref (a 10), .ref (a 15), .ref (a 17), .null, .int 0, .int 0, .int 0])), (a 5, .inr (7, [.ref (a 6), .ref (a 8), .int 0, .int 0])), (o, .inl (dA 4, 1, .inr (.inr (.inr (.inl g)))))] sz) := by
  refine mh_of (y := yL_removedShare) (av := [.ref (a 0), .ref o]) (maxL := 3) (Qc := fun A => va_Qi (fun (r : Int32) (u : Nat → UInt64) => r = 1) (fun u t => va_P D vwCl [(o, .inl (dA 4, 1, .inr (.inr (.inr (.inl u)))))] t.heap ∧ va_D A [(o, .inl (dA 4, 1, .inr (.inr (.inr (.inl u)))))]) A) (XC := fun A => vx_X (fun (k : Nat) => False) (fun E9 k t => E9 = xN k) A) RL rfl (by decide) (Nat.le_of_ble_eq_true rfl) ?_
  intro p e s m args below meth c hae hx hb hr hts hown hlocks hml hnm htb hP hK A hAe hD hZ hS hA ls hl
  have hl : lv_has ls 3 [(0, .ref (a 0)), (1, .ref o)] := hl
  refine lv_aload_n hx hb dL_removedShare_0 rfl (lv_at hl 1 rfl) ?_
  refine lv_iconst (v := 0) hx hb dL_removedShare_1 (by decide) ?_
  refine lv_aload_n hx hb dL_removedShare_2 rfl (lv_at hl 0 rfl) ?_
  have hPc := hP.sub (ws' := [(a 0, .inr (11, [.ref (a 1), .ref (a 2), .ref (a 3), .ref (a 4), .ref (a 5), .ref (a 10), .ref (a 15), .ref (a 17), .null, .int 0, .int 0, .int 0])), (a 5, .inr (7, [.ref (a 6), .ref (a 8), .int 0, .int 0]))]) [0, 1] rfl
  have hDc := hD.sub (ws' := [(a 0, .inr (11, [.ref (a 1), .ref (a 2), .ref (a 3), .ref (a 4), .ref (a 5), .ref (a 10), .ref (a 15), .ref (a 17), .null, .int 0, .int 0, .int 0])), (a 5, .inr (7, [.ref (a 6), .ref (a 8), .int 0, .int 0]))]) [0, 1] (by decide) rfl
  have hFc := va_free (wc := [(a 0, .inr (11, [.ref (a 1), .ref (a 2), .ref (a 3), .ref (a 4), .ref (a 5), .ref (a 10), .ref (a 15), .ref (a 17), .null, .int 0, .int 0, .int 0])), (a 5, .inr (7, [.ref (a 6), .ref (a 8), .int 0, .int 0]))]) hD hS hA [0, 1] rfl
  refine vx_callf (vx_runV (As := []) (rest := [.int 0, .ref o]) ⟨hx, hb, hml, hown, hts⟩ (c_X8_removedShare l hlt D dA E a  s.heap.size ) (cwV 0 hts (ga_V q453 q454 q451 q113 q452) rfl rfl rfl (by decide +kernel) ⟨(Nat.le_of_ble_eq_true rfl), (Nat.le_of_ble_eq_true rfl)⟩) ⟨pb_blind, va_recv hK hPc (ci := 11) (q0 := 0) rfl rfl, pb_pre hK hPc hDc hZ hS hFc _⟩ rfl rfl hl.1 rfl (lv_room (Nat.le_of_ble_eq_true rfl)) dL_removedShare_3 ⟨(Nat.le_of_ble_eq_true rfl), (Nat.le_of_ble_eq_true rfl)⟩) hS (fun q _ h => hFc q h) hFc (fun q _ h => hFc q h) (fun E9 ce q9 k t H1 locs ht hvm hpx hBX hz1 hk1 hS hce hcv hcl => ?_) (fun r u t H1 locs ht hvm hw hB hz1 hk1 hS => ?_)
  · obtain ⟨hP, hD⟩ := jn_drop (wr := [(o, .inl (dA 4, 1, .inr (.inr (.inr (.inl g)))))]) hP hD [0, 1] [2] rfl rfl (by decide) (by decide) hk1 hFc
    generalize H1 = H at hP hS hce ⊢
    have hP : va_P D vwCl [(o, .inl (dA 4, 1, .inr (.inr (.inr (.inl g)))))] H := hP
    have hD : va_D A [(o, .inl (dA 4, 1, .inr (.inr (.inr (.inl g)))))] := hD
    refine vx_widen (k := 1) (n := 6) (Nat.le_of_ble_eq_true rfl) (Nat.le_of_ble_eq_true rfl) ?_
    subst hpx
    subst hBX
    refine vx_catch (own := RL) (name := "java/lang/ArithmeticException") (E := "java/lang/ArithmeticException") hown [] ⟨0, 8, 11, 117⟩ [] htb (fun _ h9 => absurd h9 List.not_mem_nil) rfl (by decide) (hts _ q455) (va_Nw.use rfl (hZ.1.1 _ (List.mem_of_getElem? (i := 5) rfl))) hce hcv hcl ?_
    refine W.eq (g2 := F0 m 11 ls [.ref q9]) rfl ?_
    refine lv_astore_n (lv' := [(2, .ref q9), (0, .ref (a 0)), (1, .ref o)]) hx hb dL_removedShare_11 rfl hl (by decide) rfl (fun ls hl => ?_)
    refine lv_iconst (v := 1) hx hb dL_removedShare_12 (by decide) ?_
    refine W.widen (k := 1) (n := 6) (Nat.le_of_ble_eq_true rfl) (Nat.le_of_ble_eq_true rfl) ?_
    refine vx_ret ?_
    have hP9 := hP.sub (ws' := [(o, .inl (dA 4, 1, .inr (.inr (.inr (.inl g)))))]) [0] rfl
    have hD9 := hD.sub (ws' := [(o, .inl (dA 4, 1, .inr (.inr (.inr (.inl g)))))]) [0] (by decide) rfl
    exact W.iret (v := 1) hx hb hr (fun t ht hW => ⟨⟨1, g, rfl, (rfl), ⟨by rw [ht]; exact hP9, hD9⟩⟩, hS.F ht⟩) hS.2.2 dL_removedShare_13
  · exact hw.elim

set_option maxHeartbeats 4000000 in
set_option maxRecDepth 100000 in
theorem c_L_meanLength (l : Launch) (hlt : l.stackTraces = false) (D : va_G) (dA : Nat → ClassId) (E : Nat) (a : Nat → Nat) (o : Nat) (g : Nat → UInt64) (p0 : Int32) (sz : Nat)  : vx_Met l yL_meanLength (wq (.codeWith yL_meanLength cL_meanLength 4 (some .int) [(0, 8, 11, 21), (0, 8, 14, 117)])) { frames := 8, cells := 1, slots := 6, locals := 128 } (va_Pc [.ref (a 0), .int p0, .ref o] (PcB D dA E [(a 0, .inr (11, [.ref (a 1), .ref (a 2), .ref (a 3), .ref (a 4), .ref (a 5), .ref (a 10), .ref (a 15), .ref (a 17), .null, .int 0, .int 0, .int 0])), (a 3, .inr (2, [.int 0, .ref E, .int 0])), (o, .inl (dA 4, 1, .inr (.inr (.inr (.inl g)))))] sz)) (va_Qi (fun (r : Int32) (u : Nat → UInt64) => r = 1) (fun u t => va_P D vwCl [(o, .inl (dA 4, 1, .inr (.inr (.inr (.inl u)))))] t.heap ∧ va_D (va_A [(a 0, .inr (11, [.ref (a 1), .ref (a 2), .ref (a 3), .ref (a 4), .ref (a 5), .ref (a 10), .ref (a 15), .ref (a 17), .null, .int 0, .int 0, .int 0])), (a 3, .inr (2, [.int 0, .ref E, .int 0])), (o, .inl (dA 4, 1, .inr (.inr (.inr (.inl g)))))] sz) [(o, .inl (dA 4, 1, .inr (.inr (.inr (.inl u)))))]) (va_A [(a 0, .inr (11, [.ref (a 1), .ref (a 2), .ref (a 3), .ref (a 4), .ref (a 5), .ref (a 10), .ref (a 15), .ref (a 17), .null, .int 0, .int 0, .int 0])), (a 3, .inr (2, [.int 0, .ref E, .int 0])), (o, .inl (dA 4, 1, .inr (.inr (.inr (.inl g)))))] sz)) (vx_X (fun (k : Nat) => False) (fun E9 k t => E9 = xN k) (va_A [(a 0, .inr (11, [.ref (a 1), .ref (a 2), .ref (a 3), .ref (a 4), .ref (a 5), .ref (a 10), .ref (a 15), .ref (a 17), .null, .int 0, .int 0, .int 0])), (a 3, .inr (2, [.int 0, .ref E, .int 0])), (o, .inl (dA 4, 1, .inr (.inr (.inr (.inl g)))))] sz)) 1 6 (va_A [(a 0, .inr (11, [.ref (a 1), .ref (a 2), .ref (a 3), .ref (a 4), .ref (a 5), .ref (a 10), .ref (a 15), .ref (a 17), .null, .int 0, .int 0, .int 0])), (a 3, .inr (2, [.int 0, .ref E, .int 0])), (o, .inl (dA 4, 1, .inr (.inr (.inr (.inl g)))))] sz) := by
  refine mh_of (y := yL_meanLength) (av := [.ref (a 0), .int p0, .ref o]) (maxL := 4) (Qc := fun A => va_Qi (fun (r : Int32) (u : Nat → UInt64) => r = 1) (fun u t => va_P D vwCl [(o, .inl (dA 4, 1, .inr (.inr (.inr (.inl u)))))] t.heap ∧ va_D A [(o, .inl (dA 4, 1, .inr (.inr (.inr (.inl u)))))]) A) (XC := fun A => vx_X (fun (k : Nat) => False) (fun E9 k t => E9 = xN k) A) RL rfl (by decide) (Nat.le_of_ble_eq_true rfl) ?_
  intro p e s m args below meth c hae hx hb hr hts hown hlocks hml hnm htb hP hK A hAe hD hZ hS hA ls hl
  have hl : lv_has ls 4 [(0, .ref (a 0)), (1, .int p0), (2, .ref o)] := hl
  refine lv_aload_n hx hb dL_meanLength_0 rfl (lv_at hl 2 rfl) ?_
  refine lv_iconst (v := 0) hx hb dL_meanLength_1 (by decide) ?_
  refine lv_aload_n hx hb dL_meanLength_2 rfl (lv_at hl 0 rfl) ?_
  refine lv_iload_n hx hb dL_meanLength_3 rfl (lv_at hl 1 rfl) ?_
  have hPc := hP.sub (ws' := [(a 0, .inr (11, [.ref (a 1), .ref (a 2), .ref (a 3), .ref (a 4), .ref (a 5), .ref (a 10), .ref (a 15), .ref (a 17), .null, .int 0, .int 0, .int 0])), (a 3, .inr (2, [.int 0, .ref E, .int 0]))]) [0, 1] rfl
  have hDc := hD.sub (ws' := [(a 0, .inr (11, [.ref (a 1), .ref (a 2), .ref (a 3), .ref (a 4), .ref (a 5), .ref (a 10), .ref (a 15), .ref (a 17), .null, .int 0, .int 0, .int 0])), (a 3, .inr (2, [.int 0, .ref E, .int 0]))]) [0, 1] (by decide) rfl
  have hFc := va_free (wc := [(a 0, .inr (11, [.ref (a 1), .ref (a 2), .ref (a 3), .ref (a 4), .ref (a 5), .ref (a 10), .ref (a 15), .ref (a 17), .null, .int 0, .int 0, .int 0])), (a 3, .inr (2, [.int 0, .ref E, .int 0]))]) hD hS hA [0, 1] rfl
  refine vx_calld (vx_runV (As := [.int p0]) (rest := [.int 0, .ref o]) ⟨hx, hb, hml, hown, hts⟩ (c_X8_meanLength l hlt D dA E a p0 s.heap.size ) (cwV 1 hts (ga_V q458 q459 q456 q113 q457) rfl rfl rfl (by decide +kernel) ⟨(Nat.le_of_ble_eq_true rfl), (Nat.le_of_ble_eq_true rfl)⟩) ⟨pb_blind, va_recv hK hPc (ci := 11) (q0 := 0) rfl rfl, pb_pre hK hPc hDc hZ hS hFc _⟩ rfl rfl hl.1 rfl (lv_room (Nat.le_of_ble_eq_true rfl)) dL_meanLength_4 ⟨(Nat.le_of_ble_eq_true rfl), (Nat.le_of_ble_eq_true rfl)⟩) hS (fun q _ h => hFc q h) hFc (fun q _ h => hFc q h) (fun E9 ce q9 k t H1 locs ht hvm hpx hBX hz1 hk1 hS hce hcv hcl => ?_) (fun r u t H1 locs ht hvm hw hB hz1 hk1 hS => ?_)
  · obtain ⟨hP, hD⟩ := jn_drop (wr := [(o, .inl (dA 4, 1, .inr (.inr (.inr (.inl g)))))]) hP hD [0, 1] [2] rfl rfl (by decide) (by decide) hk1 hFc
    generalize H1 = H at hP hS hce ⊢
    have hP : va_P D vwCl [(o, .inl (dA 4, 1, .inr (.inr (.inr (.inl g)))))] H := hP
    have hD : va_D A [(o, .inl (dA 4, 1, .inr (.inr (.inr (.inl g)))))] := hD
    refine vx_widen (k := 1) (n := 6) (Nat.le_of_ble_eq_true rfl) (Nat.le_of_ble_eq_true rfl) ?_
    subst hpx
    subst hBX
    refine vx_catch (own := RL) (name := "java/lang/IndexOutOfBoundsException") (E := "java/lang/IndexOutOfBoundsException") hown [] ⟨0, 8, 11, 21⟩ [⟨0, 8, 14, 117⟩] htb (fun _ h9 => absurd h9 List.not_mem_nil) rfl (by decide) (hts _ q341) (va_Nw.use rfl (hZ.1.1 _ (List.mem_of_getElem? (i := 3) rfl))) hce hcv hcl ?_
    refine W.eq (g2 := F0 m 11 ls [.ref q9]) rfl ?_
    refine lv_astore_n (lv' := [(3, .ref q9), (0, .ref (a 0)), (1, .int p0), (2, .ref o)]) hx hb dL_meanLength_11 rfl hl (by decide) rfl (fun ls hl => ?_)
    refine lv_iconst (v := 1) hx hb dL_meanLength_12 (by decide) ?_
    refine W.widen (k := 1) (n := 6) (Nat.le_of_ble_eq_true rfl) (Nat.le_of_ble_eq_true rfl) ?_
    refine vx_ret ?_
    have hP9 := hP.sub (ws' := [(o, .inl (dA 4, 1, .inr (.inr (.inr (.inl g)))))]) [0] rfl
    have hD9 := hD.sub (ws' := [(o, .inl (dA 4, 1, .inr (.inr (.inr (.inl g)))))]) [0] (by decide) rfl
    exact W.iret (v := 1) hx hb hr (fun t ht hW => ⟨⟨1, g, rfl, (rfl), ⟨by rw [ht]; exact hP9, hD9⟩⟩, hS.F ht⟩) hS.2.2 dL_meanLength_13
  · exact hw.elim
