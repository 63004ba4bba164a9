set_option maxHeartbeats 4000000 in
set_option maxRecDepth 100000 in
/-- the law at addStep -/
theorem law_0 {p : Program} {e : Env} {s : State} {m : MethodId} {below : List Frame} {meth : Method} {c : Code} (l : Launch) (hlt : l.stackTraces = false) {bs L : Nat} {xs : Nat → Int32} (C0 : lw_At p s m meth c bs L xs) (hL6 : L = 6) (D : va_G) (dA : Nat → ClassId) (E : Nat) (A : Nat → Prop) (hAe : (fun q : Nat => s.heap.size ≤ q) = A) (a b : Nat → Nat) (o od : Nat) (hK : va_K D vwCl (TY dA) s) (hZ : ZZ dA E A s s.heap) (H : Heap) (locs : List Loc) (hP : va_P D vwCl [(a 0, .inr (11, [.ref (a 1), .ref (a 2), .ref (a 3), .ref (a 4), .ref (a 5), .ref (a 10), .ref (a 15), .ref (a 17), .null, .int 0, .int 0, .int 0])), (a 1, .inr (2, [.int 0, .ref E, .int 0])), (o, .inl (dA 3, 1, .inr (.inl (fun _ => 0)))), (b 0, .inr (12, [.int 0, .int 0, .ref (b 2), .ref (b 3), .ref (b 4), .int 0, .int 0, .int 0, .int 0, .ref (b 9), .int 0, .ref (b 11), .ref (b 12), .ref (b 13), .ref (b 14), .ref (b 15), .ref (b 16), .ref (b 17), .ref (b 18), .int 0, .ref (b 20), .int 0, .int 0, .int 0, .ref (b 24), .ref (b 25), .ref (b 26), .int 0, .int 0, .ref (b 29), .ref (b 30), .int 0, .ref (b 32), .ref (b 33), .ref (b 34), .ref (b 35), .ref (b 36), .ref (b 37), .int 0, .int 0, .ref (b 40), .ref (b 41), .ref (b 42), .ref (b 43), .ref (b 44), .int 0, .ref (b 46), .ref (b 47), .ref (b 48)])), (b 2, .inl (dA 1, 6, .inl (fun _ => 0))), (b 3, .inl (dA 0, 6, .inl (fun _ => 0))), (b 4, .inl (dA 0, 6, .inl (fun _ => 0)))] H) (hD : va_D A [(a 0, .inr (11, [.ref (a 1), .ref (a 2), .ref (a 3), .ref (a 4), .ref (a 5), .ref (a 10), .ref (a 15), .ref (a 17), .null, .int 0, .int 0, .int 0])), (a 1, .inr (2, [.int 0, .ref E, .int 0])), (o, .inl (dA 3, 1, .inr (.inl (fun _ => 0)))), (b 0, .inr (12, [.int 0, .int 0, .ref (b 2), .ref (b 3), .ref (b 4), .int 0, .int 0, .int 0, .int 0, .ref (b 9), .int 0, .ref (b 11), .ref (b 12), .ref (b 13), .ref (b 14), .ref (b 15), .ref (b 16), .ref (b 17), .ref (b 18), .int 0, .ref (b 20), .int 0, .int 0, .int 0, .ref (b 24), .ref (b 25), .ref (b 26), .int 0, .int 0, .ref (b 29), .ref (b 30), .int 0, .ref (b 32), .ref (b 33), .ref (b 34), .ref (b 35), .ref (b 36), .ref (b 37), .int 0, .int 0, .ref (b 40), .ref (b 41), .ref (b 42), .ref (b 43), .ref (b 44), .int 0, .ref (b 46), .ref (b 47), .ref (b 48)])), (b 2, .inl (dA 1, 6, .inl (fun _ => 0))), (b 3, .inl (dA 0, 6, .inl (fun _ => 0))), (b 4, .inl (dA 0, 6, .inl (fun _ => 0)))]) (hS : va_S A s.heap H locs) (ls : Array Slot) (hl : lv_has ls 9 [(5, .int 0), (4, .ref od), (3, .ref o), (2, .ref (b 0)), (1, .ref (a 0)), (0, .ref bs)]) : W p l e room_1 s m #[Value.ref bs] below meth c H locs 65 11778 (lw_Z below #[Value.ref bs] s) (F0 m 204 ls []) := by
  subst hL6
  obtain ⟨hx, hb, hr, hml, hown, hts0, hX, hbl, hlocks, hgv⟩ := id C0
  have hts : ∀ w ∈ WA, w.before #[Value.ref bs] s = true := fun w h => hts0 w (WA_tbl h)
  have hA : ∀ q : Nat, s.heap.size ≤ q → A q := fun q h => by rw [← hAe]; exact h
  have hbA : ¬ A bs := by rw [← hAe]; exact Nat.not_le.mpr hbl
  refine lv_aload_n hx hb dL_law_204 rfl (lv_at hl 4 rfl) ?_
  refine lv_aload_n hx hb dL_law_205 rfl (lv_at hl 5 rfl) ?_
  refine lv_iload hx hb dL_law_206 (lv_at hl 0 rfl) ?_
  refine lv_iconst (v := 1) hx hb dL_law_208 (by decide) ?_
  refine lv_iadd hx hb dL_law_209 ?_
  refine lv_topi (fun x1 ex1 => ?_)
  replace ex1 : x1 = 1 := ex1.trans (by decide)
  subst ex1
  refine va_sld hx hb hX hbl hbA hS (vi_c (by decide)) dL_law_210 ?_
  refine lv_topi (fun x2 ex2 => ?_)
  obtain ⟨x3, ex3⟩ : ∃ y : Int32, y = (x2.toUInt32 % 65536).toInt32 := ⟨_, rfl⟩
  refine lv_i2c (v := x3) hx hb dL_law_211 ex3.symm ?_
  refine lv_aload_n hx hb dL_law_212 rfl (lv_at hl 5 rfl) ?_
  refine lv_iload hx hb dL_law_213 (lv_at hl 0 rfl) ?_
  refine lv_iconst (v := 2) hx hb dL_law_215 (by decide) ?_
  refine lv_iadd hx hb dL_law_216 ?_
  refine lv_topi (fun x4 ex4 => ?_)
  replace ex4 : x4 = 2 := ex4.trans (by decide)
  subst ex4
  refine va_sld hx hb hX hbl hbA hS (vi_c (by decide)) dL_law_217 ?_
  refine lv_topi (fun x5 ex5 => ?_)
  refine lv_aload_n hx hb dL_law_218 rfl (lv_at hl 5 rfl) ?_
  refine lv_iload hx hb dL_law_219 (lv_at hl 0 rfl) ?_
  refine lv_iconst (v := 3) hx hb dL_law_221 (by decide) ?_
  refine lv_iadd hx hb dL_law_222 ?_
  refine lv_topi (fun x6 ex6 => ?_)
  replace ex6 : x6 = 3 := ex6.trans (by decide)
  subst ex6
  refine va_sld hx hb hX hbl hbA hS (vi_c (by decide)) dL_law_223 ?_
  refine lv_topi (fun x7 ex7 => ?_)
  refine lv_aload_n hx hb dL_law_224 rfl (lv_at hl 2 rfl) ?_
  have hPc := hP.sub (ws' := [(a 0, .inr (11, [.ref (a 1), .ref (a 2), .ref (a 3), .ref (a 4), .ref (a 5), .ref (a 10), .ref (a 15), .ref (a 17), .null, .int 0, .int 0, .int 0])), (a 1, .inr (2, [.int 0, .ref E, .int 0])), (o, .inl (dA 3, 1, .inr (.inl (fun _ => 0))))]) [0, 1, 2] rfl
  have hDc := hD.sub (ws' := [(a 0, .inr (11, [.ref (a 1), .ref (a 2), .ref (a 3), .ref (a 4), .ref (a 5), .ref (a 10), .ref (a 15), .ref (a 17), .null, .int 0, .int 0, .int 0])), (a 1, .inr (2, [.int 0, .ref E, .int 0])), (o, .inl (dA 3, 1, .inr (.inl (fun _ => 0))))]) [0, 1, 2] (by decide) rfl
  have hFc := va_free (wc := [(a 0, .inr (11, [.ref (a 1), .ref (a 2), .ref (a 3), .ref (a 4), .ref (a 5), .ref (a 10), .ref (a 15), .ref (a 17), .null, .int 0, .int 0, .int 0])), (a 1, .inr (2, [.int 0, .ref E, .int 0])), (o, .inl (dA 3, 1, .inr (.inl (fun _ => 0))))]) hD hS hA [0, 1, 2] rfl
  refine vx_calli (vx_runSX (As := [.ref (a 0), .int x3, .int x5, .int x7, .ref o]) (rest := []) ⟨hx, hb, hml, hown, hts⟩ (c_L_addStep l hlt D dA E a o (fun _ => 0) x3 x5 x7 H.size ⟨by rw [ex3]; exact pk_nc _, by rw [ex3]; exact pk_fc _⟩) (vx_cwSW 5 hts (ga_S q461 q462 q463 q460) rfl rfl rfl (by decide +kernel) ⟨(Nat.le_of_ble_eq_true rfl), (Nat.le_of_ble_eq_true rfl)⟩) ⟨pb_blind, pb_pre hK hPc hDc hZ hS hFc _⟩ rfl rfl hl.1 rfl (lv_room (Nat.le_of_ble_eq_true rfl)) dL_law_225 ⟨(Nat.le_of_ble_eq_true rfl), (Nat.le_of_ble_eq_true rfl)⟩) hS (fun q _ h => hFc q h) hFc (fun q _ h => hFc q h) (fun E9 ce q9 k t H1 locs ht hvm hpx hBX hz1 hk1 hS hce hcv hcl => ?_) (fun r u t H1 locs ht hvm hw hB hz1 hk1 hS => ?_)
  · exact hpx.elim
  · refine W.widen (k := 67) (n := 11791) (Nat.le_of_ble_eq_true rfl) (Nat.le_of_ble_eq_true rfl) ?_
    obtain ⟨r8, rfl⟩ : ∃ z, z = r := ⟨_, rfl⟩
    obtain ⟨u9, rfl⟩ : ∃ z, z = u := ⟨_, rfl⟩
    have hw10 := hw
    clear hw
    obtain ⟨hP1, hD1⟩ := hB
    rw [ht] at hP1
    obtain ⟨hP, hD⟩ := va_join (wr := [(b 0, .inr (12, [.int 0, .int 0, .ref (b 2), .ref (b 3), .ref (b 4), .int 0, .int 0, .int 0, .int 0, .ref (b 9), .int 0, .ref (b 11), .ref (b 12), .ref (b 13), .ref (b 14), .ref (b 15), .ref (b 16), .ref (b 17), .ref (b 18), .int 0, .ref (b 20), .int 0, .int 0, .int 0, .ref (b 24), .ref (b 25), .ref (b 26), .int 0, .int 0, .ref (b 29), .ref (b 30), .int 0, .ref (b 32), .ref (b 33), .ref (b 34), .ref (b 35), .ref (b 36), .ref (b 37), .int 0, .int 0, .ref (b 40), .ref (b 41), .ref (b 42), .ref (b 43), .ref (b 44), .int 0, .ref (b 46), .ref (b 47), .ref (b 48)])), (b 2, .inl (dA 1, 6, .inl (fun _ => 0))), (b 3, .inl (dA 0, 6, .inl (fun _ => 0))), (b 4, .inl (dA 0, 6, .inl (fun _ => 0)))]) (w1 := [(o, .inl (dA 3, 1, .inr (.inl u9)))]) hP hD [0, 1, 2] [3, 4, 5, 6] rfl rfl (by decide) (by decide) hk1 hFc hP1 hD1
    generalize H1 = H at hP hS ⊢
    have hP : va_P D vwCl [(b 0, .inr (12, [.int 0, .int 0, .ref (b 2), .ref (b 3), .ref (b 4), .int 0, .int 0, .int 0, .int 0, .ref (b 9), .int 0, .ref (b 11), .ref (b 12), .ref (b 13), .ref (b 14), .ref (b 15), .ref (b 16), .ref (b 17), .ref (b 18), .int 0, .ref (b 20), .int 0, .int 0, .int 0, .ref (b 24), .ref (b 25), .ref (b 26), .int 0, .int 0, .ref (b 29), .ref (b 30), .int 0, .ref (b 32), .ref (b 33), .ref (b 34), .ref (b 35), .ref (b 36), .ref (b 37), .int 0, .int 0, .ref (b 40), .ref (b 41), .ref (b 42), .ref (b 43), .ref (b 44), .int 0, .ref (b 46), .ref (b 47), .ref (b 48)])), (b 2, .inl (dA 1, 6, .inl (fun _ => 0))), (b 3, .inl (dA 0, 6, .inl (fun _ => 0))), (b 4, .inl (dA 0, 6, .inl (fun _ => 0))), (o, .inl (dA 3, 1, .inr (.inl u9)))] H := hP
    have hD : va_D A [(b 0, .inr (12, [.int 0, .int 0, .ref (b 2), .ref (b 3), .ref (b 4), .int 0, .int 0, .int 0, .int 0, .ref (b 9), .int 0, .ref (b 11), .ref (b 12), .ref (b 13), .ref (b 14), .ref (b 15), .ref (b 16), .ref (b 17), .ref (b 18), .int 0, .ref (b 20), .int 0, .int 0, .int 0, .ref (b 24), .ref (b 25), .ref (b 26), .int 0, .int 0, .ref (b 29), .ref (b 30), .int 0, .ref (b 32), .ref (b 33), .ref (b 34), .ref (b 35), .ref (b 36), .ref (b 37), .int 0, .int 0, .ref (b 40), .ref (b 41), .ref (b 42), .ref (b 43), .ref (b 44), .int 0, .ref (b 46), .ref (b 47), .ref (b 48)])), (b 2, .inl (dA 1, 6, .inl (fun _ => 0))), (b 3, .inl (dA 0, 6, .inl (fun _ => 0))), (b 4, .inl (dA 0, 6, .inl (fun _ => 0))), (o, .inl (dA 3, 1, .inr (.inl u9)))] := hD
    have hP := hP.sub (ws' := [(o, .inl (dA 3, 1, .inr (.inl u9))), (b 0, .inr (12, [.int 0, .int 0, .ref (b 2), .ref (b 3), .ref (b 4), .int 0, .int 0, .int 0, .int 0, .ref (b 9), .int 0, .ref (b 11), .ref (b 12), .ref (b 13), .ref (b 14), .ref (b 15), .ref (b 16), .ref (b 17), .ref (b 18), .int 0, .ref (b 20), .int 0, .int 0, .int 0, .ref (b 24), .ref (b 25), .ref (b 26), .int 0, .int 0, .ref (b 29), .ref (b 30), .int 0, .ref (b 32), .ref (b 33), .ref (b 34), .ref (b 35), .ref (b 36), .ref (b 37), .int 0, .int 0, .ref (b 40), .ref (b 41), .ref (b 42), .ref (b 43), .ref (b 44), .int 0, .ref (b 46), .ref (b 47), .ref (b 48)])), (b 2, .inl (dA 1, 6, .inl (fun _ => 0))), (b 3, .inl (dA 0, 6, .inl (fun _ => 0))), (b 4, .inl (dA 0, 6, .inl (fun _ => 0)))]) [4, 0, 1, 2, 3] rfl
    have hD := hD.sub (ws' := [(o, .inl (dA 3, 1, .inr (.inl u9))), (b 0, .inr (12, [.int 0, .int 0, .ref (b 2), .ref (b 3), .ref (b 4), .int 0, .int 0, .int 0, .int 0, .ref (b 9), .int 0, .ref (b 11), .ref (b 12), .ref (b 13), .ref (b 14), .ref (b 15), .ref (b 16), .ref (b 17), .ref (b 18), .int 0, .ref (b 20), .int 0, .int 0, .int 0, .ref (b 24), .ref (b 25), .ref (b 26), .int 0, .int 0, .ref (b 29), .ref (b 30), .int 0, .ref (b 32), .ref (b 33), .ref (b 34), .ref (b 35), .ref (b 36), .ref (b 37), .int 0, .int 0, .ref (b 40), .ref (b 41), .ref (b 42), .ref (b 43), .ref (b 44), .int 0, .ref (b 46), .ref (b 47), .ref (b 48)])), (b 2, .inl (dA 1, 6, .inl (fun _ => 0))), (b 3, .inl (dA 0, 6, .inl (fun _ => 0))), (b 4, .inl (dA 0, 6, .inl (fun _ => 0)))]) [4, 0, 1, 2, 3] (by decide) rfl
    rcases hw10 with ⟨hq, hk, ho⟩ | ⟨hq, hk⟩
    · obtain rfl : r8 = 0 := hk
      refine lv_istore (lv' := [(6, .int 0), (5, .int 0), (4, .ref od), (3, .ref o), (2, .ref (b 0)), (1, .ref (a 0)), (0, .ref bs)]) hx hb dL_law_228 hl (by decide) rfl (fun ls hl => ?_)
      refine lv_aload_n hx hb dL_law_230 rfl (lv_at hl 4 rfl) ?_
      refine lv_aload_n hx hb dL_law_231 rfl (lv_at hl 6 rfl) ?_
      refine lv_iload hx hb dL_law_232 (lv_at hl 1 rfl) ?_
      refine lv_iconst (v := 1) hx hb dL_law_234 (by decide) ?_
      refine lv_iadd hx hb dL_law_235 ?_
      refine lv_topi (fun x11 ex11 => ?_)
      replace ex11 : x11 = 1 := ex11.trans (by decide)
      subst ex11
      refine va_sld hx hb hX hbl hbA hS (vi_c (by decide)) dL_law_236 ?_
      refine lv_topi (fun x12 ex12 => ?_)
      obtain rfl : x2 = x12 := ex2.trans ex12.symm
      refine lv_i2c (v := x3) hx hb dL_law_237 ex3.symm ?_
      refine lv_aload_n hx hb dL_law_238 rfl (lv_at hl 6 rfl) ?_
      refine lv_iload hx hb dL_law_239 (lv_at hl 1 rfl) ?_
      refine lv_iconst (v := 2) hx hb dL_law_241 (by decide) ?_
      refine lv_iadd hx hb dL_law_242 ?_
      refine lv_topi (fun x13 ex13 => ?_)
      replace ex13 : x13 = 2 := ex13.trans (by decide)
      subst ex13
      refine va_sld hx hb hX hbl hbA hS (vi_c (by decide)) dL_law_243 ?_
      refine lv_topi (fun x14 ex14 => ?_)
      obtain rfl : x5 = x14 := ex5.trans ex14.symm
      refine lv_aload_n hx hb dL_law_244 rfl (lv_at hl 6 rfl) ?_
      refine lv_iload hx hb dL_law_245 (lv_at hl 1 rfl) ?_
      refine lv_iconst (v := 3) hx hb dL_law_247 (by decide) ?_
      refine lv_iadd hx hb dL_law_248 ?_
      refine lv_topi (fun x15 ex15 => ?_)
      replace ex15 : x15 = 3 := ex15.trans (by decide)
      subst ex15
      refine va_sld hx hb hX hbl hbA hS (vi_c (by decide)) dL_law_249 ?_
      refine lv_topi (fun x16 ex16 => ?_)
      obtain rfl : x7 = x16 := ex7.trans ex16.symm
      have hPc := hP.sub (ws' := [(b 0, .inr (12, [.int 0, .int 0, .ref (b 2), .ref (b 3), .ref (b 4), .int 0, .int 0, .int 0, .int 0, .ref (b 9), .int 0, .ref (b 11), .ref (b 12), .ref (b 13), .ref (b 14), .ref (b 15), .ref (b 16), .ref (b 17), .ref (b 18), .int 0, .ref (b 20), .int 0, .int 0, .int 0, .ref (b 24), .ref (b 25), .ref (b 26), .int 0, .int 0, .ref (b 29), .ref (b 30), .int 0, .ref (b 32), .ref (b 33), .ref (b 34), .ref (b 35), .ref (b 36), .ref (b 37), .int 0, .int 0, .ref (b 40), .ref (b 41), .ref (b 42), .ref (b 43), .ref (b 44), .int 0, .ref (b 46), .ref (b 47), .ref (b 48)])), (b 2, .inl (dA 1, 6, .inl (fun _ => 0))), (b 3, .inl (dA 0, 6, .inl (fun _ => 0))), (b 4, .inl (dA 0, 6, .inl (fun _ => 0)))]) [1, 2, 3, 4] rfl
      have hDc := hD.sub (ws' := [(b 0, .inr (12, [.int 0, .int 0, .ref (b 2), .ref (b 3), .ref (b 4), .int 0, .int 0, .int 0, .int 0, .ref (b 9), .int 0, .ref (b 11), .ref (b 12), .ref (b 13), .ref (b 14), .ref (b 15), .ref (b 16), .ref (b 17), .ref (b 18), .int 0, .ref (b 20), .int 0, .int 0, .int 0, .ref (b 24), .ref (b 25), .ref (b 26), .int 0, .int 0, .ref (b 29), .ref (b 30), .int 0, .ref (b 32), .ref (b 33), .ref (b 34), .ref (b 35), .ref (b 36), .ref (b 37), .int 0, .int 0, .ref (b 40), .ref (b 41), .ref (b 42), .ref (b 43), .ref (b 44), .int 0, .ref (b 46), .ref (b 47), .ref (b 48)])), (b 2, .inl (dA 1, 6, .inl (fun _ => 0))), (b 3, .inl (dA 0, 6, .inl (fun _ => 0))), (b 4, .inl (dA 0, 6, .inl (fun _ => 0)))]) [1, 2, 3, 4] (by decide) rfl
      have hFc := va_free (wc := [(b 0, .inr (12, [.int 0, .int 0, .ref (b 2), .ref (b 3), .ref (b 4), .int 0, .int 0, .int 0, .int 0, .ref (b 9), .int 0, .ref (b 11), .ref (b 12), .ref (b 13), .ref (b 14), .ref (b 15), .ref (b 16), .ref (b 17), .ref (b 18), .int 0, .ref (b 20), .int 0, .int 0, .int 0, .ref (b 24), .ref (b 25), .ref (b 26), .int 0, .int 0, .ref (b 29), .ref (b 30), .int 0, .ref (b 32), .ref (b 33), .ref (b 34), .ref (b 35), .ref (b 36), .ref (b 37), .int 0, .int 0, .ref (b 40), .ref (b 41), .ref (b 42), .ref (b 43), .ref (b 44), .int 0, .ref (b 46), .ref (b 47), .ref (b 48)])), (b 2, .inl (dA 1, 6, .inl (fun _ => 0))), (b 3, .inl (dA 0, 6, .inl (fun _ => 0))), (b 4, .inl (dA 0, 6, .inl (fun _ => 0)))]) hD hS hA [1, 2, 3, 4] rfl
      refine va_calli (va_runV (As := [.int x3, .int x5, .int x7]) (rest := []) ⟨hx, hb, hml, hown, hts⟩ (c_M_addStep l D dA E b x3 x5 x7 H.size ) (cwV 3 hts (ga_V q466 q467 q464 q278 q465) rfl rfl rfl (by decide +kernel) ⟨(Nat.le_of_ble_eq_true rfl), (Nat.le_of_ble_eq_true rfl)⟩) ⟨pb_blind, va_recv hK hPc (ci := 12) (q0 := 0) rfl rfl, pb_pre hK hPc hDc hZ hS hFc _⟩ rfl rfl hl.1 rfl (lv_room (Nat.le_of_ble_eq_true rfl)) dL_law_250 ⟨(Nat.le_of_ble_eq_true rfl), (Nat.le_of_ble_eq_true rfl)⟩) hS (fun q _ h => hFc q h) hFc (fun r u t H1 locs ht hvm hw hB hz1 hk1 hS => ?_)
      refine W.widen (k := 67) (n := 11791) (Nat.le_of_ble_eq_true rfl) (Nat.le_of_ble_eq_true rfl) ?_
      obtain ⟨r17, rfl⟩ : ∃ z, z = r := ⟨_, rfl⟩
      obtain ⟨u18, rfl⟩ : ∃ z, z = u := ⟨_, rfl⟩
      have hw19 := hw
      clear hw
      obtain ⟨hP1, hD1⟩ := hB
      rw [ht] at hP1
      obtain ⟨hP, hD⟩ := va_join (wr := [(o, .inl (dA 3, 1, .inr (.inl u9)))]) (w1 := [(b 0, .inr (12, .int u18.1 :: u18.2))]) hP hD [1, 2, 3, 4] [0] rfl rfl (by decide) (by decide) hk1 hFc hP1 hD1
      generalize H1 = H at hP hS ⊢
      have hP : va_P D vwCl [(o, .inl (dA 3, 1, .inr (.inl u9))), (b 0, .inr (12, .int u18.1 :: u18.2))] H := hP
      have hD : va_D A [(o, .inl (dA 3, 1, .inr (.inl u9))), (b 0, .inr (12, .int u18.1 :: u18.2))] := hD
      have hP := hP.sub (ws' := [(b 0, .inr (12, .int u18.1 :: u18.2)), (o, .inl (dA 3, 1, .inr (.inl u9)))]) [1, 0] rfl
      have hD := hD.sub (ws' := [(b 0, .inr (12, .int u18.1 :: u18.2)), (o, .inl (dA 3, 1, .inr (.inl u9)))]) [1, 0] (by decide) rfl
      have hm : u18.1 = 0 ∧ r17 = 1 := by
        rcases hw19 with h9 | h9
        · exact h9.2
        · exact absurd (hq.symm.trans h9.1) (by decide)
      obtain ⟨hm, hv9⟩ := hm
      obtain rfl : r17 = 1 := hv9
      rw [hm] at hP hD
      have hP : va_P D vwCl [(b 0, .inr (12, .int 0 :: u18.2)), (o, .inl (dA 3, 1, .inr (.inl u9)))] H := hP
      have hD : va_D A [(b 0, .inr (12, .int 0 :: u18.2)), (o, .inl (dA 3, 1, .inr (.inl u9)))] := hD
      refine lv_istore (lv' := [(7, .int 1), (6, .int 0), (5, .int 0), (4, .ref od), (3, .ref o), (2, .ref (b 0)), (1, .ref (a 0)), (0, .ref bs)]) hx hb dL_law_253 hl (by decide) rfl (fun ls hl => ?_)
      refine lv_aload_n hx hb dL_law_255 rfl (lv_at hl 5 rfl) ?_
      have hPc := hP.sub (ws' := [(b 0, .inr (12, .int 0 :: u18.2))]) [0] rfl
      have hDc := hD.sub (ws' := [(b 0, .inr (12, .int 0 :: u18.2))]) [0] (by decide) rfl
      have hFc := va_free (wc := [(b 0, .inr (12, .int 0 :: u18.2))]) hD hS hA [0] rfl
      refine va_calli (va_runV (As := []) (rest := []) ⟨hx, hb, hml, hown, hts⟩ (c_M_thrown l D dA E (b 0) 0 u18.2 H.size ) (cwV 0 hts (ga_V q470 q471 q468 q278 q469) rfl rfl rfl (by decide +kernel) ⟨(Nat.le_of_ble_eq_true rfl), (Nat.le_of_ble_eq_true rfl)⟩) ⟨pb_blind, va_recv hK hPc (ci := 12) (q0 := 0) rfl rfl, pb_pre hK hPc hDc hZ hS hFc _⟩ rfl rfl hl.1 rfl (lv_room (Nat.le_of_ble_eq_true rfl)) dL_law_256 ⟨(Nat.le_of_ble_eq_true rfl), (Nat.le_of_ble_eq_true rfl)⟩) hS (fun q _ h => hFc q h) hFc (fun r u t H1 locs ht hvm hw hB hz1 hk1 hS => ?_)
      refine W.widen (k := 67) (n := 11791) (Nat.le_of_ble_eq_true rfl) (Nat.le_of_ble_eq_true rfl) ?_
      obtain ⟨r20, rfl⟩ : ∃ z, z = r := ⟨_, rfl⟩
      obtain ⟨u21, rfl⟩ : ∃ z, z = u := ⟨_, rfl⟩
      have hw22 := hw
      clear hw
      obtain ⟨hP, hD⟩ := jn_drop (wr := [(o, .inl (dA 3, 1, .inr (.inl u9)))]) hP hD [0] [1] rfl rfl (by decide) (by decide) hk1 hFc
      generalize H1 = H at hP hS ⊢
      have hP : va_P D vwCl [(o, .inl (dA 3, 1, .inr (.inl u9)))] H := hP
      have hD : va_D A [(o, .inl (dA 3, 1, .inr (.inl u9)))] := hD
      obtain rfl : r20 = 0 := hw22
      refine lv_iload hx hb dL_law_259 (lv_at hl 1 rfl) ?_
      refine lv_icmp_eq (tgt := 266) hx hb dL_law_261 (by decide) (fun _ => ?_) (fun c23 => absurd (by decide) c23)
      refine lv_iload hx hb dL_law_266 (lv_at hl 1 rfl) ?_
      refine lv_if_ne (tgt := 283) hx hb dL_law_268 (by decide) (fun c24 => absurd (by decide) c24) (fun _ => ?_)
      refine lv_aload_n hx hb dL_law_271 rfl (lv_at hl 4 rfl) ?_
      refine lv_iconst (v := 0) hx hb dL_law_272 (by decide) ?_
      refine va_lald hx hb hK hP 0 3 rfl rfl (vi_c (by decide)) dL_law_273 ?_
      refine lv_topl (fun x25 ex25 => ?_)
      obtain rfl : x25 = 1 := ex25.trans ho
      refine lv_iload hx hb dL_law_274 (lv_at hl 0 rfl) ?_
      refine lv_i2l (v := 1) hx hb dL_law_276 (by decide) ?_
      refine W.lcmp hx hb dL_law_277 ?_
      refine lv_topi (fun x26 ex26 => ?_)
      replace ex26 : x26 = 0 := ex26.trans (by decide)
      subst ex26
      refine lv_if_eq (tgt := 283) hx hb dL_law_278 (by decide) (fun _ => ?_) (fun c27 => absurd (by decide) c27)
      refine lv_goto (tgt := 2346) hx hb dL_law_283 (by decide) ?_
      exact law_tail l C0 rfl (by rw [hAe]; exact hS) (Nat.le_of_ble_eq_true rfl) (Nat.le_of_ble_eq_true rfl) ls (lv_sub hl [7, 2] rfl)
    · obtain rfl : r8 = 1 := hk
      refine lv_istore (lv' := [(6, .int 1), (5, .int 0), (4, .ref od), (3, .ref o), (2, .ref (b 0)), (1, .ref (a 0)), (0, .ref bs)]) hx hb dL_law_228 hl (by decide) rfl (fun ls hl => ?_)
      refine lv_aload_n hx hb dL_law_230 rfl (lv_at hl 4 rfl) ?_
      refine lv_aload_n hx hb dL_law_231 rfl (lv_at hl 6 rfl) ?_
      refine lv_iload hx hb dL_law_232 (lv_at hl 1 rfl) ?_
      refine lv_iconst (v := 1) hx hb dL_law_234 (by decide) ?_
      refine lv_iadd hx hb dL_law_235 ?_
      refine lv_topi (fun x28 ex28 => ?_)
      replace ex28 : x28 = 1 := ex28.trans (by decide)
      subst ex28
      refine va_sld hx hb hX hbl hbA hS (vi_c (by decide)) dL_law_236 ?_
      refine lv_topi (fun x29 ex29 => ?_)
      obtain rfl : x2 = x29 := ex2.trans ex29.symm
      refine lv_i2c (v := x3) hx hb dL_law_237 ex3.symm ?_
      refine lv_aload_n hx hb dL_law_238 rfl (lv_at hl 6 rfl) ?_
      refine lv_iload hx hb dL_law_239 (lv_at hl 1 rfl) ?_
      refine lv_iconst (v := 2) hx hb dL_law_241 (by decide) ?_
      refine lv_iadd hx hb dL_law_242 ?_
      refine lv_topi (fun x30 ex30 => ?_)
      replace ex30 : x30 = 2 := ex30.trans (by decide)
      subst ex30
      refine va_sld hx hb hX hbl hbA hS (vi_c (by decide)) dL_law_243 ?_
      refine lv_topi (fun x31 ex31 => ?_)
      obtain rfl : x5 = x31 := ex5.trans ex31.symm
      refine lv_aload_n hx hb dL_law_244 rfl (lv_at hl 6 rfl) ?_
      refine lv_iload hx hb dL_law_245 (lv_at hl 1 rfl) ?_
      refine lv_iconst (v := 3) hx hb dL_law_247 (by decide) ?_
      refine lv_iadd hx hb dL_law_248 ?_
      refine lv_topi (fun x32 ex32 => ?_)
      replace ex32 : x32 = 3 := ex32.trans (by decide)
      subst ex32
      refine va_sld hx hb hX hbl hbA hS (vi_c (by decide)) dL_law_249 ?_
      refine lv_topi (fun x33 ex33 => ?_)
      obtain rfl : x7 = x33 := ex7.trans ex33.symm
      have hPc := hP.sub (ws' := [(b 0, .inr (12, [.int 0, .int 0, .ref (b 2), .ref (b 3), .ref (b 4), .int 0, .int 0, .int 0, .int 0, .ref (b 9), .int 0, .ref (b 11), .ref (b 12), .ref (b 13), .ref (b 14), .ref (b 15), .ref (b 16), .ref (b 17), .ref (b 18), .int 0, .ref (b 20), .int 0, .int 0, .int 0, .ref (b 24), .ref (b 25), .ref (b 26), .int 0, .int 0, .ref (b 29), .ref (b 30), .int 0, .ref (b 32), .ref (b 33), .ref (b 34), .ref (b 35), .ref (b 36), .ref (b 37), .int 0, .int 0, .ref (b 40), .ref (b 41), .ref (b 42), .ref (b 43), .ref (b 44), .int 0, .ref (b 46), .ref (b 47), .ref (b 48)])), (b 2, .inl (dA 1, 6, .inl (fun _ => 0))), (b 3, .inl (dA 0, 6, .inl (fun _ => 0))), (b 4, .inl (dA 0, 6, .inl (fun _ => 0)))]) [1, 2, 3, 4] rfl
      have hDc := hD.sub (ws' := [(b 0, .inr (12, [.int 0, .int 0, .ref (b 2), .ref (b 3), .ref (b 4), .int 0, .int 0, .int 0, .int 0, .ref (b 9), .int 0, .ref (b 11), .ref (b 12), .ref (b 13), .ref (b 14), .ref (b 15), .ref (b 16), .ref (b 17), .ref (b 18), .int 0, .ref (b 20), .int 0, .int 0, .int 0, .ref (b 24), .ref (b 25), .ref (b 26), .int 0, .int 0, .ref (b 29), .ref (b 30), .int 0, .ref (b 32), .ref (b 33), .ref (b 34), .ref (b 35), .ref (b 36), .ref (b 37), .int 0, .int 0, .ref (b 40), .ref (b 41), .ref (b 42), .ref (b 43), .ref (b 44), .int 0, .ref (b 46), .ref (b 47), .ref (b 48)])), (b 2, .inl (dA 1, 6, .inl (fun _ => 0))), (b 3, .inl (dA 0, 6, .inl (fun _ => 0))), (b 4, .inl (dA 0, 6, .inl (fun _ => 0)))]) [1, 2, 3, 4] (by decide) rfl
      have hFc := va_free (wc := [(b 0, .inr (12, [.int 0, .int 0, .ref (b 2), .ref (b 3), .ref (b 4), .int 0, .int 0, .int 0, .int 0, .ref (b 9), .int 0, .ref (b 11), .ref (b 12), .ref (b 13), .ref (b 14), .ref (b 15), .ref (b 16), .ref (b 17), .ref (b 18), .int 0, .ref (b 20), .int 0, .int 0, .int 0, .ref (b 24), .ref (b 25), .ref (b 26), .int 0, .int 0, .ref (b 29), .ref (b 30), .int 0, .ref (b 32), .ref (b 33), .ref (b 34), .ref (b 35), .ref (b 36), .ref (b 37), .int 0, .int 0, .ref (b 40), .ref (b 41), .ref (b 42), .ref (b 43), .ref (b 44), .int 0, .ref (b 46), .ref (b 47), .ref (b 48)])), (b 2, .inl (dA 1, 6, .inl (fun _ => 0))), (b 3, .inl (dA 0, 6, .inl (fun _ => 0))), (b 4, .inl (dA 0, 6, .inl (fun _ => 0)))]) hD hS hA [1, 2, 3, 4] rfl
      refine va_calli (va_runV (As := [.int x3, .int x5, .int x7]) (rest := []) ⟨hx, hb, hml, hown, hts⟩ (c_M_addStep l D dA E b x3 x5 x7 H.size ) (cwV 3 hts (ga_V q466 q467 q464 q278 q465) rfl rfl rfl (by decide +kernel) ⟨(Nat.le_of_ble_eq_true rfl), (Nat.le_of_ble_eq_true rfl)⟩) ⟨pb_blind, va_recv hK hPc (ci := 12) (q0 := 0) rfl rfl, pb_pre hK hPc hDc hZ hS hFc _⟩ rfl rfl hl.1 rfl (lv_room (Nat.le_of_ble_eq_true rfl)) dL_law_250 ⟨(Nat.le_of_ble_eq_true rfl), (Nat.le_of_ble_eq_true rfl)⟩) hS (fun q _ h => hFc q h) hFc (fun r u t H1 locs ht hvm hw hB hz1 hk1 hS => ?_)
      refine W.widen (k := 67) (n := 11791) (Nat.le_of_ble_eq_true rfl) (Nat.le_of_ble_eq_true rfl) ?_
      obtain ⟨r34, rfl⟩ : ∃ z, z = r := ⟨_, rfl⟩
      obtain ⟨u35, rfl⟩ : ∃ z, z = u := ⟨_, rfl⟩
      have hw36 := hw
      clear hw
      obtain ⟨hP1, hD1⟩ := hB
      rw [ht] at hP1
      obtain ⟨hP, hD⟩ := va_join (wr := [(o, .inl (dA 3, 1, .inr (.inl u9)))]) (w1 := [(b 0, .inr (12, .int u35.1 :: u35.2))]) hP hD [1, 2, 3, 4] [0] rfl rfl (by decide) (by decide) hk1 hFc hP1 hD1
      generalize H1 = H at hP hS ⊢
      have hP : va_P D vwCl [(o, .inl (dA 3, 1, .inr (.inl u9))), (b 0, .inr (12, .int u35.1 :: u35.2))] H := hP
      have hD : va_D A [(o, .inl (dA 3, 1, .inr (.inl u9))), (b 0, .inr (12, .int u35.1 :: u35.2))] := hD
      have hP := hP.sub (ws' := [(b 0, .inr (12, .int u35.1 :: u35.2)), (o, .inl (dA 3, 1, .inr (.inl u9)))]) [1, 0] rfl
      have hD := hD.sub (ws' := [(b 0, .inr (12, .int u35.1 :: u35.2)), (o, .inl (dA 3, 1, .inr (.inl u9)))]) [1, 0] (by decide) rfl
      have hm : u35.1 = 1 := by
        rcases hw36 with h9 | h9
        · exact absurd (hq.symm.trans h9.1) (by decide)
        · exact h9.2
      rw [hm] at hP hD
      have hP : va_P D vwCl [(b 0, .inr (12, .int 1 :: u35.2)), (o, .inl (dA 3, 1, .inr (.inl u9)))] H := hP
      have hD : va_D A [(b 0, .inr (12, .int 1 :: u35.2)), (o, .inl (dA 3, 1, .inr (.inl u9)))] := hD
      refine lv_istore (lv' := [(7, .int r34), (6, .int 1), (5, .int 0), (4, .ref od), (3, .ref o), (2, .ref (b 0)), (1, .ref (a 0)), (0, .ref bs)]) hx hb dL_law_253 hl (by decide) rfl (fun ls hl => ?_)
      refine lv_aload_n hx hb dL_law_255 rfl (lv_at hl 5 rfl) ?_
      have hPc := hP.sub (ws' := [(b 0, .inr (12, .int 1 :: u35.2))]) [0] rfl
      have hDc := hD.sub (ws' := [(b 0, .inr (12, .int 1 :: u35.2))]) [0] (by decide) rfl
      have hFc := va_free (wc := [(b 0, .inr (12, .int 1 :: u35.2))]) hD hS hA [0] rfl
      refine va_calli (va_runV (As := []) (rest := []) ⟨hx, hb, hml, hown, hts⟩ (c_M_thrown l D dA E (b 0) 1 u35.2 H.size ) (cwV 0 hts (ga_V q470 q471 q468 q278 q469) rfl rfl rfl (by decide +kernel) ⟨(Nat.le_of_ble_eq_true rfl), (Nat.le_of_ble_eq_true rfl)⟩) ⟨pb_blind, va_recv hK hPc (ci := 12) (q0 := 0) rfl rfl, pb_pre hK hPc hDc hZ hS hFc _⟩ rfl rfl hl.1 rfl (lv_room (Nat.le_of_ble_eq_true rfl)) dL_law_256 ⟨(Nat.le_of_ble_eq_true rfl), (Nat.le_of_ble_eq_true rfl)⟩) hS (fun q _ h => hFc q h) hFc (fun r u t H1 locs ht hvm hw hB hz1 hk1 hS => ?_)
      refine W.widen (k := 67) (n := 11791) (Nat.le_of_ble_eq_true rfl) (Nat.le_of_ble_eq_true rfl) ?_
      obtain ⟨r37, rfl⟩ : ∃ z, z = r := ⟨_, rfl⟩
      obtain ⟨u38, rfl⟩ : ∃ z, z = u := ⟨_, rfl⟩
      have hw39 := hw
      clear hw
      obtain ⟨hP, hD⟩ := jn_drop (wr := [(o, .inl (dA 3, 1, .inr (.inl u9)))]) hP hD [0] [1] rfl rfl (by decide) (by decide) hk1 hFc
      generalize H1 = H at hP hS ⊢
      have hP : va_P D vwCl [(o, .inl (dA 3, 1, .inr (.inl u9)))] H := hP
      have hD : va_D A [(o, .inl (dA 3, 1, .inr (.inl u9)))] := hD
      obtain rfl : r37 = 1 := hw39
      refine lv_iload hx hb dL_law_259 (lv_at hl 1 rfl) ?_
      refine lv_icmp_eq (tgt := 266) hx hb dL_law_261 (by decide) (fun _ => ?_) (fun c40 => absurd (by decide) c40)
      refine lv_iload hx hb dL_law_266 (lv_at hl 1 rfl) ?_
      refine lv_if_ne (tgt := 283) hx hb dL_law_268 (by decide) (fun _ => ?_) (fun c41 => absurd c41 (by decide))
      refine lv_goto (tgt := 2346) hx hb dL_law_283 (by decide) ?_
      exact law_tail l C0 rfl (by rw [hAe]; exact hS) (Nat.le_of_ble_eq_true rfl) (Nat.le_of_ble_eq_true rfl) ls (lv_sub hl [7, 2] rfl)

set_option maxHeartbeats 4000000 in
set_option maxRecDepth 100000 in
/-- the law at dropSteps -/
theorem law_1 {p : Program} {e : Env} {s : State} {m : MethodId} {below : List Frame} {meth : Method} {c : Code} (l : Launch) (hlt : l.stackTraces = false) {bs L : Nat} {xs : Nat → Int32} (C0 : lw_At p s m meth c bs L xs) (hL6 : L = 6) (D : va_G) (dA : Nat → ClassId) (E : Nat) (A : Nat → Prop) (hAe : (fun q : Nat => s.heap.size ≤ q) = A) (a b : Nat → Nat) (o od : Nat) (hK : va_K D vwCl (TY dA) s) (hZ : ZZ dA E A s s.heap) (H : Heap) (locs : List Loc) (hP : va_P D vwCl [(a 0, .inr (11, [.ref (a 1), .ref (a 2), .ref (a 3), .ref (a 4), .ref (a 5), .ref (a 10), .ref (a 15), .ref (a 17), .null, .int 0, .int 0, .int 0])), (a 1, .inr (2, [.int 0, .ref E, .int 0])), (b 0, .inr (12, [.int 0, .int 0, .ref (b 2), .ref (b 3), .ref (b 4), .int 0, .int 0, .int 0, .int 0, .ref (b 9), .int 0, .ref (b 11), .ref (b 12), .ref (b 13), .ref (b 14), .ref (b 15), .ref (b 16), .ref (b 17), .ref (b 18), .int 0, .ref (b 20), .int 0, .int 0, .int 0, .ref (b 24), .ref (b 25), .ref (b 26), .int 0, .int 0, .ref (b 29), .ref (b 30), .int 0, .ref (b 32), .ref (b 33), .ref (b 34), .ref (b 35), .ref (b 36), .ref (b 37), .int 0, .int 0, .ref (b 40), .ref (b 41), .ref (b 42), .ref (b 43), .ref (b 44), .int 0, .ref (b 46), .ref (b 47), .ref (b 48)]))] H) (hD : va_D A [(a 0, .inr (11, [.ref (a 1), .ref (a 2), .ref (a 3), .ref (a 4), .ref (a 5), .ref (a 10), .ref (a 15), .ref (a 17), .null, .int 0, .int 0, .int 0])), (a 1, .inr (2, [.int 0, .ref E, .int 0])), (b 0, .inr (12, [.int 0, .int 0, .ref (b 2), .ref (b 3), .ref (b 4), .int 0, .int 0, .int 0, .int 0, .ref (b 9), .int 0, .ref (b 11), .ref (b 12), .ref (b 13), .ref (b 14), .ref (b 15), .ref (b 16), .ref (b 17), .ref (b 18), .int 0, .ref (b 20), .int 0, .int 0, .int 0, .ref (b 24), .ref (b 25), .ref (b 26), .int 0, .int 0, .ref (b 29), .ref (b 30), .int 0, .ref (b 32), .ref (b 33), .ref (b 34), .ref (b 35), .ref (b 36), .ref (b 37), .int 0, .int 0, .ref (b 40), .ref (b 41), .ref (b 42), .ref (b 43), .ref (b 44), .int 0, .ref (b 46), .ref (b 47), .ref (b 48)]))]) (hS : va_S A s.heap H locs) (ls : Array Slot) (hl : lv_has ls 9 [(5, .int 0), (4, .ref od), (3, .ref o), (2, .ref (b 0)), (1, .ref (a 0)), (0, .ref bs)]) : W p l e room_1 s m #[Value.ref bs] below meth c H locs 65 11778 (lw_Z below #[Value.ref bs] s) (F0 m 286 ls []) := by
  subst hL6
  obtain ⟨hx, hb, hr, hml, hown, hts0, hX, hbl, hlocks, hgv⟩ := id C0
  have hts : ∀ w ∈ WA, w.before #[Value.ref bs] s = true := fun w h => hts0 w (WA_tbl h)
  have hA : ∀ q : Nat, s.heap.size ≤ q → A q := fun q h => by rw [← hAe]; exact h
  have hbA : ¬ A bs := by rw [← hAe]; exact Nat.not_le.mpr hbl
  refine lv_aload_n hx hb dL_law_286 rfl (lv_at hl 4 rfl) ?_
  have hPc := hP.sub (ws' := [(a 0, .inr (11, [.ref (a 1), .ref (a 2), .ref (a 3), .ref (a 4), .ref (a 5), .ref (a 10), .ref (a 15), .ref (a 17), .null, .int 0, .int 0, .int 0])), (a 1, .inr (2, [.int 0, .ref E, .int 0]))]) [0, 1] rfl
  have hDc := hD.sub (ws' := [(a 0, .inr (11, [.ref (a 1), .ref (a 2), .ref (a 3), .ref (a 4), .ref (a 5), .ref (a 10), .ref (a 15), .ref (a 17), .null, .int 0, .int 0, .int 0])), (a 1, .inr (2, [.int 0, .ref E, .int 0]))]) [0, 1] (by decide) rfl
  have hFc := va_free (wc := [(a 0, .inr (11, [.ref (a 1), .ref (a 2), .ref (a 3), .ref (a 4), .ref (a 5), .ref (a 10), .ref (a 15), .ref (a 17), .null, .int 0, .int 0, .int 0])), (a 1, .inr (2, [.int 0, .ref E, .int 0]))]) hD hS hA [0, 1] rfl
  refine va_calli (va_runV (As := []) (rest := []) ⟨hx, hb, hml, hown, hts⟩ (c_X8_dropSteps l D dA E a H.size ) (cwV 0 hts (ga_V q474 q475 q472 q113 q473) rfl rfl rfl (by decide +kernel) ⟨(Nat.le_of_ble_eq_true rfl), (Nat.le_of_ble_eq_true rfl)⟩) ⟨pb_blind, va_recv hK hPc (ci := 11) (q0 := 0) rfl rfl, pb_pre hK hPc hDc hZ hS hFc _⟩ rfl rfl hl.1 rfl (lv_room (Nat.le_of_ble_eq_true rfl)) dL_law_287 ⟨(Nat.le_of_ble_eq_true rfl), (Nat.le_of_ble_eq_true rfl)⟩) hS (fun q _ h => hFc q h) hFc (fun r u t H1 locs ht hvm hw hB hz1 hk1 hS => ?_)
  refine W.widen (k := 65) (n := 11778) (Nat.le_of_ble_eq_true rfl) (Nat.le_of_ble_eq_true rfl) ?_
  obtain ⟨r1, rfl⟩ : ∃ z, z = r := ⟨_, rfl⟩
  obtain ⟨u2, rfl⟩ : ∃ z, z = u := ⟨_, rfl⟩
  have hw3 := hw
  clear hw
  obtain ⟨hP, hD⟩ := jn_drop (wr := [(b 0, .inr (12, [.int 0, .int 0, .ref (b 2), .ref (b 3), .ref (b 4), .int 0, .int 0, .int 0, .int 0, .ref (b 9), .int 0, .ref (b 11), .ref (b 12), .ref (b 13), .ref (b 14), .ref (b 15), .ref (b 16), .ref (b 17), .ref (b 18), .int 0, .ref (b 20), .int 0, .int 0, .int 0, .ref (b 24), .ref (b 25), .ref (b 26), .int 0, .int 0, .ref (b 29), .ref (b 30), .int 0, .ref (b 32), .ref (b 33), .ref (b 34), .ref (b 35), .ref (b 36), .ref (b 37), .int 0, .int 0, .ref (b 40), .ref (b 41), .ref (b 42), .ref (b 43), .ref (b 44), .int 0, .ref (b 46), .ref (b 47), .ref (b 48)]))]) hP hD [0, 1] [2] rfl rfl (by decide) (by decide) hk1 hFc
  generalize H1 = H at hP hS ⊢
  have hP : va_P D vwCl [(b 0, .inr (12, [.int 0, .int 0, .ref (b 2), .ref (b 3), .ref (b 4), .int 0, .int 0, .int 0, .int 0, .ref (b 9), .int 0, .ref (b 11), .ref (b 12), .ref (b 13), .ref (b 14), .ref (b 15), .ref (b 16), .ref (b 17), .ref (b 18), .int 0, .ref (b 20), .int 0, .int 0, .int 0, .ref (b 24), .ref (b 25), .ref (b 26), .int 0, .int 0, .ref (b 29), .ref (b 30), .int 0, .ref (b 32), .ref (b 33), .ref (b 34), .ref (b 35), .ref (b 36), .ref (b 37), .int 0, .int 0, .ref (b 40), .ref (b 41), .ref (b 42), .ref (b 43), .ref (b 44), .int 0, .ref (b 46), .ref (b 47), .ref (b 48)]))] H := hP
  have hD : va_D A [(b 0, .inr (12, [.int 0, .int 0, .ref (b 2), .ref (b 3), .ref (b 4), .int 0, .int 0, .int 0, .int 0, .ref (b 9), .int 0, .ref (b 11), .ref (b 12), .ref (b 13), .ref (b 14), .ref (b 15), .ref (b 16), .ref (b 17), .ref (b 18), .int 0, .ref (b 20), .int 0, .int 0, .int 0, .ref (b 24), .ref (b 25), .ref (b 26), .int 0, .int 0, .ref (b 29), .ref (b 30), .int 0, .ref (b 32), .ref (b 33), .ref (b 34), .ref (b 35), .ref (b 36), .ref (b 37), .int 0, .int 0, .ref (b 40), .ref (b 41), .ref (b 42), .ref (b 43), .ref (b 44), .int 0, .ref (b 46), .ref (b 47), .ref (b 48)]))] := hD
  obtain rfl : r1 = 0 := hw3
  refine lv_aload_n hx hb dL_law_290 rfl (lv_at hl 3 rfl) ?_
  have hPc := hP.sub (ws' := [(b 0, .inr (12, [.int 0, .int 0, .ref (b 2), .ref (b 3), .ref (b 4), .int 0, .int 0, .int 0, .int 0, .ref (b 9), .int 0, .ref (b 11), .ref (b 12), .ref (b 13), .ref (b 14), .ref (b 15), .ref (b 16), .ref (b 17), .ref (b 18), .int 0, .ref (b 20), .int 0, .int 0, .int 0, .ref (b 24), .ref (b 25), .ref (b 26), .int 0, .int 0, .ref (b 29), .ref (b 30), .int 0, .ref (b 32), .ref (b 33), .ref (b 34), .ref (b 35), .ref (b 36), .ref (b 37), .int 0, .int 0, .ref (b 40), .ref (b 41), .ref (b 42), .ref (b 43), .ref (b 44), .int 0, .ref (b 46), .ref (b 47), .ref (b 48)]))]) [0] rfl
  have hDc := hD.sub (ws' := [(b 0, .inr (12, [.int 0, .int 0, .ref (b 2), .ref (b 3), .ref (b 4), .int 0, .int 0, .int 0, .int 0, .ref (b 9), .int 0, .ref (b 11), .ref (b 12), .ref (b 13), .ref (b 14), .ref (b 15), .ref (b 16), .ref (b 17), .ref (b 18), .int 0, .ref (b 20), .int 0, .int 0, .int 0, .ref (b 24), .ref (b 25), .ref (b 26), .int 0, .int 0, .ref (b 29), .ref (b 30), .int 0, .ref (b 32), .ref (b 33), .ref (b 34), .ref (b 35), .ref (b 36), .ref (b 37), .int 0, .int 0, .ref (b 40), .ref (b 41), .ref (b 42), .ref (b 43), .ref (b 44), .int 0, .ref (b 46), .ref (b 47), .ref (b 48)]))]) [0] (by decide) rfl
  have hFc := va_free (wc := [(b 0, .inr (12, [.int 0, .int 0, .ref (b 2), .ref (b 3), .ref (b 4), .int 0, .int 0, .int 0, .int 0, .ref (b 9), .int 0, .ref (b 11), .ref (b 12), .ref (b 13), .ref (b 14), .ref (b 15), .ref (b 16), .ref (b 17), .ref (b 18), .int 0, .ref (b 20), .int 0, .int 0, .int 0, .ref (b 24), .ref (b 25), .ref (b 26), .int 0, .int 0, .ref (b 29), .ref (b 30), .int 0, .ref (b 32), .ref (b 33), .ref (b 34), .ref (b 35), .ref (b 36), .ref (b 37), .int 0, .int 0, .ref (b 40), .ref (b 41), .ref (b 42), .ref (b 43), .ref (b 44), .int 0, .ref (b 46), .ref (b 47), .ref (b 48)]))]) hD hS hA [0] rfl
  refine va_calli (va_runV (As := []) (rest := [.int 0]) ⟨hx, hb, hml, hown, hts⟩ (c_M_dropSteps l D dA E b  H.size ) (cwV 0 hts (ga_V q478 q479 q476 q278 q477) rfl rfl rfl (by decide +kernel) ⟨(Nat.le_of_ble_eq_true rfl), (Nat.le_of_ble_eq_true rfl)⟩) ⟨pb_blind, va_recv hK hPc (ci := 12) (q0 := 0) rfl rfl, pb_pre hK hPc hDc hZ hS hFc _⟩ rfl rfl hl.1 rfl (lv_room (Nat.le_of_ble_eq_true rfl)) dL_law_291 ⟨(Nat.le_of_ble_eq_true rfl), (Nat.le_of_ble_eq_true rfl)⟩) hS (fun q _ h => hFc q h) hFc (fun r u t H1 locs ht hvm hw hB hz1 hk1 hS => ?_)
  refine W.widen (k := 65) (n := 11778) (Nat.le_of_ble_eq_true rfl) (Nat.le_of_ble_eq_true rfl) ?_
  obtain ⟨r4, rfl⟩ : ∃ z, z = r := ⟨_, rfl⟩
  obtain ⟨u5, rfl⟩ : ∃ z, z = u := ⟨_, rfl⟩
  have hw6 := hw
  clear hw
  obtain ⟨hP1, hD1⟩ := hB
  rw [ht] at hP1
  obtain ⟨hP, hD⟩ := va_join (wr := []) (w1 := [(b 0, .inr (12, .int u5.1 :: u5.2))]) hP hD [0] [] rfl rfl (by decide) (by decide) hk1 hFc hP1 hD1
  generalize H1 = H at hP hS ⊢
  have hP : va_P D vwCl [(b 0, .inr (12, .int u5.1 :: u5.2))] H := hP
  have hD : va_D A [(b 0, .inr (12, .int u5.1 :: u5.2))] := hD
  have hm : u5.1 = 0 ∧ r4 = 0 := hw6
  obtain ⟨hm, hv9⟩ := hm
  obtain rfl : r4 = 0 := hv9
  rw [hm] at hP hD
  have hP : va_P D vwCl [(b 0, .inr (12, .int 0 :: u5.2))] H := hP
  have hD : va_D A [(b 0, .inr (12, .int 0 :: u5.2))] := hD
  refine lv_icmp_eq (tgt := 2346) hx hb dL_law_294 (by decide) (fun _ => ?_) (fun c7 => absurd (by decide) c7)
  exact law_tail l C0 rfl (by rw [hAe]; exact hS) (Nat.le_of_ble_eq_true rfl) (Nat.le_of_ble_eq_true rfl) ls (lv_sub hl [5, 0] rfl)

set_option maxHeartbeats 4000000 in
set_option maxRecDepth 100000 in
/-- the law at open -/
theorem law_2 {p : Program} {e : Env} {s : State} {m : MethodId} {below : List Frame} {meth : Method} {c : Code} (l : Launch) (hlt : l.stackTraces = false) {bs L : Nat} {xs : Nat → Int32} (C0 : lw_At p s m meth c bs L xs) (hL6 : L = 6) (D : va_G) (dA : Nat → ClassId) (E : Nat) (A : Nat → Prop) (hAe : (fun q : Nat => s.heap.size ≤ q) = A) (a b : Nat → Nat) (o od : Nat) (hK : va_K D vwCl (TY dA) s) (hZ : ZZ dA E A s s.heap) (H : Heap) (locs : List Loc) (hP : va_P D vwCl [(a 0, .inr (11, [.ref (a 1), .ref (a 2), .ref (a 3), .ref (a 4), .ref (a 5), .ref (a 10), .ref (a 15), .ref (a 17), .null, .int 0, .int 0, .int 0])), (a 2, .inr (2, [.int 0, .ref E, .int 0])), (o, .inl (dA 3, 1, .inr (.inl (fun _ => 0)))), (b 0, .inr (12, [.int 0, .int 0, .ref (b 2), .ref (b 3), .ref (b 4), .int 0, .int 0, .int 0, .int 0, .ref (b 9), .int 0, .ref (b 11), .ref (b 12), .ref (b 13), .ref (b 14), .ref (b 15), .ref (b 16), .ref (b 17), .ref (b 18), .int 0, .ref (b 20), .int 0, .int 0, .int 0, .ref (b 24), .ref (b 25), .ref (b 26), .int 0, .int 0, .ref (b 29), .ref (b 30), .int 0, .ref (b 32), .ref (b 33), .ref (b 34), .ref (b 35), .ref (b 36), .ref (b 37), .int 0, .int 0, .ref (b 40), .ref (b 41), .ref (b 42), .ref (b 43), .ref (b 44), .int 0, .ref (b 46), .ref (b 47), .ref (b 48)]))] H) (hD : va_D A [(a 0, .inr (11, [.ref (a 1), .ref (a 2), .ref (a 3), .ref (a 4), .ref (a 5), .ref (a 10), .ref (a 15), .ref (a 17), .null, .int 0, .int 0, .int 0])), (a 2, .inr (2, [.int 0, .ref E, .int 0])), (o, .inl (dA 3, 1, .inr (.inl (fun _ => 0)))), (b 0, .inr (12, [.int 0, .int 0, .ref (b 2), .ref (b 3), .ref (b 4), .int 0, .int 0, .int 0, .int 0, .ref (b 9), .int 0, .ref (b 11), .ref (b 12), .ref (b 13), .ref (b 14), .ref (b 15), .ref (b 16), .ref (b 17), .ref (b 18), .int 0, .ref (b 20), .int 0, .int 0, .int 0, .ref (b 24), .ref (b 25), .ref (b 26), .int 0, .int 0, .ref (b 29), .ref (b 30), .int 0, .ref (b 32), .ref (b 33), .ref (b 34), .ref (b 35), .ref (b 36), .ref (b 37), .int 0, .int 0, .ref (b 40), .ref (b 41), .ref (b 42), .ref (b 43), .ref (b 44), .int 0, .ref (b 46), .ref (b 47), .ref (b 48)]))]) (hS : va_S A s.heap H locs) (ls : Array Slot) (hl : lv_has ls 9 [(5, .int 0), (4, .ref od), (3, .ref o), (2, .ref (b 0)), (1, .ref (a 0)), (0, .ref bs)]) : W p l e room_1 s m #[Value.ref bs] below meth c H locs 65 11778 (lw_Z below #[Value.ref bs] s) (F0 m 299 ls []) := by
  subst hL6
  obtain ⟨hx, hb, hr, hml, hown, hts0, hX, hbl, hlocks, hgv⟩ := id C0
  have hts : ∀ w ∈ WA, w.before #[Value.ref bs] s = true := fun w h => hts0 w (WA_tbl h)
  have hA : ∀ q : Nat, s.heap.size ≤ q → A q := fun q h => by rw [← hAe]; exact h
  have hbA : ¬ A bs := by rw [← hAe]; exact Nat.not_le.mpr hbl
  refine lv_aload_n hx hb dL_law_299 rfl (lv_at hl 4 rfl) ?_
  refine lv_aload_n hx hb dL_law_300 rfl (lv_at hl 5 rfl) ?_
  refine lv_iload hx hb dL_law_301 (lv_at hl 0 rfl) ?_
  refine lv_iconst (v := 1) hx hb dL_law_303 (by decide) ?_
  refine lv_iadd hx hb dL_law_304 ?_
  refine lv_topi (fun x1 ex1 => ?_)
  replace ex1 : x1 = 1 := ex1.trans (by decide)
  subst ex1
  refine va_sld hx hb hX hbl hbA hS (vi_c (by decide)) dL_law_305 ?_
  refine lv_topi (fun x2 ex2 => ?_)
  refine lv_aload_n hx hb dL_law_306 rfl (lv_at hl 5 rfl) ?_
  refine lv_iload hx hb dL_law_307 (lv_at hl 0 rfl) ?_
  refine lv_iconst (v := 2) hx hb dL_law_309 (by decide) ?_
  refine lv_iadd hx hb dL_law_310 ?_
  refine lv_topi (fun x3 ex3 => ?_)
  replace ex3 : x3 = 2 := ex3.trans (by decide)
  subst ex3
  refine va_sld hx hb hX hbl hbA hS (vi_c (by decide)) dL_law_311 ?_
  refine lv_topi (fun x4 ex4 => ?_)
  refine lv_aload_n hx hb dL_law_312 rfl (lv_at hl 2 rfl) ?_
  have hPc := hP.sub (ws' := [(a 0, .inr (11, [.ref (a 1), .ref (a 2), .ref (a 3), .ref (a 4), .ref (a 5), .ref (a 10), .ref (a 15), .ref (a 17), .null, .int 0, .int 0, .int 0])), (a 2, .inr (2, [.int 0, .ref E, .int 0])), (o, .inl (dA 3, 1, .inr (.inl (fun _ => 0))))]) [0, 1, 2] rfl
  have hDc := hD.sub (ws' := [(a 0, .inr (11, [.ref (a 1), .ref (a 2), .ref (a 3), .ref (a 4), .ref (a 5), .ref (a 10), .ref (a 15), .ref (a 17), .null, .int 0, .int 0, .int 0])), (a 2, .inr (2, [.int 0, .ref E, .int 0])), (o, .inl (dA 3, 1, .inr (.inl (fun _ => 0))))]) [0, 1, 2] (by decide) rfl
  have hFc := va_free (wc := [(a 0, .inr (11, [.ref (a 1), .ref (a 2), .ref (a 3), .ref (a 4), .ref (a 5), .ref (a 10), .ref (a 15), .ref (a 17), .null, .int 0, .int 0, .int 0])), (a 2, .inr (2, [.int 0, .ref E, .int 0])), (o, .inl (dA 3, 1, .inr (.inl (fun _ => 0))))]) hD hS hA [0, 1, 2] rfl
  refine vx_calli (vx_runSX (As := [.ref (a 0), .int x2, .int x4, .ref o]) (rest := []) ⟨hx, hb, hml, hown, hts⟩ (c_L_open l hlt D dA E a o (fun _ => 0) x2 x4 H.size ) (vx_cwSW 4 hts (ga_S q481 q482 q463 q480) rfl rfl rfl (by decide +kernel) ⟨(Nat.le_of_ble_eq_true rfl), (Nat.le_of_ble_eq_true rfl)⟩) ⟨pb_blind, pb_pre hK hPc hDc hZ hS hFc _⟩ rfl rfl hl.1 rfl (lv_room (Nat.le_of_ble_eq_true rfl)) dL_law_313 ⟨(Nat.le_of_ble_eq_true rfl), (Nat.le_of_ble_eq_true rfl)⟩) hS (fun q _ h => hFc q h) hFc (fun q _ h => hFc q h) (fun E9 ce q9 k t H1 locs ht hvm hpx hBX hz1 hk1 hS hce hcv hcl => ?_) (fun r u t H1 locs ht hvm hw hB hz1 hk1 hS => ?_)
  · exact hpx.elim
  · refine W.widen (k := 74) (n := 12047) (Nat.le_of_ble_eq_true rfl) (Nat.le_of_ble_eq_true rfl) ?_
    obtain ⟨r5, rfl⟩ : ∃ z, z = r := ⟨_, rfl⟩
    obtain ⟨u6, rfl⟩ : ∃ z, z = u := ⟨_, rfl⟩
    have hw7 := hw
    clear hw
    obtain ⟨hP1, hD1⟩ := hB
    rw [ht] at hP1
    obtain ⟨hP, hD⟩ := va_join (wr := [(b 0, .inr (12, [.int 0, .int 0, .ref (b 2), .ref (b 3), .ref (b 4), .int 0, .int 0, .int 0, .int 0, .ref (b 9), .int 0, .ref (b 11), .ref (b 12), .ref (b 13), .ref (b 14), .ref (b 15), .ref (b 16), .ref (b 17), .ref (b 18), .int 0, .ref (b 20), .int 0, .int 0, .int 0, .ref (b 24), .ref (b 25), .ref (b 26), .int 0, .int 0, .ref (b 29), .ref (b 30), .int 0, .ref (b 32), .ref (b 33), .ref (b 34), .ref (b 35), .ref (b 36), .ref (b 37), .int 0, .int 0, .ref (b 40), .ref (b 41), .ref (b 42), .ref (b 43), .ref (b 44), .int 0, .ref (b 46), .ref (b 47), .ref (b 48)]))]) (w1 := [(o, .inl (dA 3, 1, .inr (.inl u6)))]) hP hD [0, 1, 2] [3] rfl rfl (by decide) (by decide) hk1 hFc hP1 hD1
    generalize H1 = H at hP hS ⊢
    have hP : va_P D vwCl [(b 0, .inr (12, [.int 0, .int 0, .ref (b 2), .ref (b 3), .ref (b 4), .int 0, .int 0, .int 0, .int 0, .ref (b 9), .int 0, .ref (b 11), .ref (b 12), .ref (b 13), .ref (b 14), .ref (b 15), .ref (b 16), .ref (b 17), .ref (b 18), .int 0, .ref (b 20), .int 0, .int 0, .int 0, .ref (b 24), .ref (b 25), .ref (b 26), .int 0, .int 0, .ref (b 29), .ref (b 30), .int 0, .ref (b 32), .ref (b 33), .ref (b 34), .ref (b 35), .ref (b 36), .ref (b 37), .int 0, .int 0, .ref (b 40), .ref (b 41), .ref (b 42), .ref (b 43), .ref (b 44), .int 0, .ref (b 46), .ref (b 47), .ref (b 48)])), (o, .inl (dA 3, 1, .inr (.inl u6)))] H := hP
    have hD : va_D A [(b 0, .inr (12, [.int 0, .int 0, .ref (b 2), .ref (b 3), .ref (b 4), .int 0, .int 0, .int 0, .int 0, .ref (b 9), .int 0, .ref (b 11), .ref (b 12), .ref (b 13), .ref (b 14), .ref (b 15), .ref (b 16), .ref (b 17), .ref (b 18), .int 0, .ref (b 20), .int 0, .int 0, .int 0, .ref (b 24), .ref (b 25), .ref (b 26), .int 0, .int 0, .ref (b 29), .ref (b 30), .int 0, .ref (b 32), .ref (b 33), .ref (b 34), .ref (b 35), .ref (b 36), .ref (b 37), .int 0, .int 0, .ref (b 40), .ref (b 41), .ref (b 42), .ref (b 43), .ref (b 44), .int 0, .ref (b 46), .ref (b 47), .ref (b 48)])), (o, .inl (dA 3, 1, .inr (.inl u6)))] := hD
    have hP := hP.sub (ws' := [(o, .inl (dA 3, 1, .inr (.inl u6))), (b 0, .inr (12, [.int 0, .int 0, .ref (b 2), .ref (b 3), .ref (b 4), .int 0, .int 0, .int 0, .int 0, .ref (b 9), .int 0, .ref (b 11), .ref (b 12), .ref (b 13), .ref (b 14), .ref (b 15), .ref (b 16), .ref (b 17), .ref (b 18), .int 0, .ref (b 20), .int 0, .int 0, .int 0, .ref (b 24), .ref (b 25), .ref (b 26), .int 0, .int 0, .ref (b 29), .ref (b 30), .int 0, .ref (b 32), .ref (b 33), .ref (b 34), .ref (b 35), .ref (b 36), .ref (b 37), .int 0, .int 0, .ref (b 40), .ref (b 41), .ref (b 42), .ref (b 43), .ref (b 44), .int 0, .ref (b 46), .ref (b 47), .ref (b 48)]))]) [1, 0] rfl
    have hD := hD.sub (ws' := [(o, .inl (dA 3, 1, .inr (.inl u6))), (b 0, .inr (12, [.int 0, .int 0, .ref (b 2), .ref (b 3), .ref (b 4), .int 0, .int 0, .int 0, .int 0, .ref (b 9), .int 0, .ref (b 11), .ref (b 12), .ref (b 13), .ref (b 14), .ref (b 15), .ref (b 16), .ref (b 17), .ref (b 18), .int 0, .ref (b 20), .int 0, .int 0, .int 0, .ref (b 24), .ref (b 25), .ref (b 26), .int 0, .int 0, .ref (b 29), .ref (b 30), .int 0, .ref (b 32), .ref (b 33), .ref (b 34), .ref (b 35), .ref (b 36), .ref (b 37), .int 0, .int 0, .ref (b 40), .ref (b 41), .ref (b 42), .ref (b 43), .ref (b 44), .int 0, .ref (b 46), .ref (b 47), .ref (b 48)]))]) [1, 0] (by decide) rfl
    rcases hw7 with ⟨hq, hk, ho⟩ | ⟨hq, hk⟩ | ⟨hq, hk⟩
    · obtain rfl : r5 = 0 := hk
      refine lv_istore (lv' := [(6, .int 0), (5, .int 0), (4, .ref od), (3, .ref o), (2, .ref (b 0)), (1, .ref (a 0)), (0, .ref bs)]) hx hb dL_law_316 hl (by decide) rfl (fun ls hl => ?_)
      refine lv_aload_n hx hb dL_law_318 rfl (lv_at hl 4 rfl) ?_
      refine lv_aload_n hx hb dL_law_319 rfl (lv_at hl 6 rfl) ?_
      refine lv_iload hx hb dL_law_320 (lv_at hl 1 rfl) ?_
      refine lv_iconst (v := 1) hx hb dL_law_322 (by decide) ?_
      refine lv_iadd hx hb dL_law_323 ?_
      refine lv_topi (fun x8 ex8 => ?_)
      replace ex8 : x8 = 1 := ex8.trans (by decide)
      subst ex8
      refine va_sld hx hb hX hbl hbA hS (vi_c (by decide)) dL_law_324 ?_
      refine lv_topi (fun x9 ex9 => ?_)
      obtain rfl : x2 = x9 := ex2.trans ex9.symm
      refine lv_aload_n hx hb dL_law_325 rfl (lv_at hl 6 rfl) ?_
      refine lv_iload hx hb dL_law_326 (lv_at hl 1 rfl) ?_
      refine lv_iconst (v := 2) hx hb dL_law_328 (by decide) ?_
      refine lv_iadd hx hb dL_law_329 ?_
      refine lv_topi (fun x10 ex10 => ?_)
      replace ex10 : x10 = 2 := ex10.trans (by decide)
      subst ex10
      refine va_sld hx hb hX hbl hbA hS (vi_c (by decide)) dL_law_330 ?_
      refine lv_topi (fun x11 ex11 => ?_)
      obtain rfl : x4 = x11 := ex4.trans ex11.symm
      have hPc := hP.sub (ws' := [(b 0, .inr (12, [.int 0, .int 0, .ref (b 2), .ref (b 3), .ref (b 4), .int 0, .int 0, .int 0, .int 0, .ref (b 9), .int 0, .ref (b 11), .ref (b 12), .ref (b 13), .ref (b 14), .ref (b 15), .ref (b 16), .ref (b 17), .ref (b 18), .int 0, .ref (b 20), .int 0, .int 0, .int 0, .ref (b 24), .ref (b 25), .ref (b 26), .int 0, .int 0, .ref (b 29), .ref (b 30), .int 0, .ref (b 32), .ref (b 33), .ref (b 34), .ref (b 35), .ref (b 36), .ref (b 37), .int 0, .int 0, .ref (b 40), .ref (b 41), .ref (b 42), .ref (b 43), .ref (b 44), .int 0, .ref (b 46), .ref (b 47), .ref (b 48)]))]) [1] rfl
      have hDc := hD.sub (ws' := [(b 0, .inr (12, [.int 0, .int 0, .ref (b 2), .ref (b 3), .ref (b 4), .int 0, .int 0, .int 0, .int 0, .ref (b 9), .int 0, .ref (b 11), .ref (b 12), .ref (b 13), .ref (b 14), .ref (b 15), .ref (b 16), .ref (b 17), .ref (b 18), .int 0, .ref (b 20), .int 0, .int 0, .int 0, .ref (b 24), .ref (b 25), .ref (b 26), .int 0, .int 0, .ref (b 29), .ref (b 30), .int 0, .ref (b 32), .ref (b 33), .ref (b 34), .ref (b 35), .ref (b 36), .ref (b 37), .int 0, .int 0, .ref (b 40), .ref (b 41), .ref (b 42), .ref (b 43), .ref (b 44), .int 0, .ref (b 46), .ref (b 47), .ref (b 48)]))]) [1] (by decide) rfl
      have hFc := va_free (wc := [(b 0, .inr (12, [.int 0, .int 0, .ref (b 2), .ref (b 3), .ref (b 4), .int 0, .int 0, .int 0, .int 0, .ref (b 9), .int 0, .ref (b 11), .ref (b 12), .ref (b 13), .ref (b 14), .ref (b 15), .ref (b 16), .ref (b 17), .ref (b 18), .int 0, .ref (b 20), .int 0, .int 0, .int 0, .ref (b 24), .ref (b 25), .ref (b 26), .int 0, .int 0, .ref (b 29), .ref (b 30), .int 0, .ref (b 32), .ref (b 33), .ref (b 34), .ref (b 35), .ref (b 36), .ref (b 37), .int 0, .int 0, .ref (b 40), .ref (b 41), .ref (b 42), .ref (b 43), .ref (b 44), .int 0, .ref (b 46), .ref (b 47), .ref (b 48)]))]) hD hS hA [1] rfl
      refine va_calli (va_runV (As := [.int x2, .int x4]) (rest := []) ⟨hx, hb, hml, hown, hts⟩ (c_M_open l D dA E b x2 x4 H.size ) (cwV 2 hts (ga_V q485 q486 q483 q278 q484) rfl rfl rfl (by decide +kernel) ⟨(Nat.le_of_ble_eq_true rfl), (Nat.le_of_ble_eq_true rfl)⟩) ⟨pb_blind, va_recv hK hPc (ci := 12) (q0 := 0) rfl rfl, pb_pre hK hPc hDc hZ hS hFc _⟩ rfl rfl hl.1 rfl (lv_room (Nat.le_of_ble_eq_true rfl)) dL_law_331 ⟨(Nat.le_of_ble_eq_true rfl), (Nat.le_of_ble_eq_true rfl)⟩) hS (fun q _ h => hFc q h) hFc (fun r u t H1 locs ht hvm hw hB hz1 hk1 hS => ?_)
      refine W.widen (k := 74) (n := 12047) (Nat.le_of_ble_eq_true rfl) (Nat.le_of_ble_eq_true rfl) ?_
      obtain ⟨r12, rfl⟩ : ∃ z, z = r := ⟨_, rfl⟩
      obtain ⟨u13, rfl⟩ : ∃ z, z = u := ⟨_, rfl⟩
      have hw14 := hw
      clear hw
      obtain ⟨hP1, hD1⟩ := hB
      rw [ht] at hP1
      obtain ⟨hP, hD⟩ := va_join (wr := [(o, .inl (dA 3, 1, .inr (.inl u6)))]) (w1 := [(b 0, .inr (12, .int u13.1 :: u13.2))]) hP hD [1] [0] rfl rfl (by decide) (by decide) hk1 hFc hP1 hD1
      generalize H1 = H at hP hS ⊢
      have hP : va_P D vwCl [(o, .inl (dA 3, 1, .inr (.inl u6))), (b 0, .inr (12, .int u13.1 :: u13.2))] H := hP
      have hD : va_D A [(o, .inl (dA 3, 1, .inr (.inl u6))), (b 0, .inr (12, .int u13.1 :: u13.2))] := hD
      have hP := hP.sub (ws' := [(b 0, .inr (12, .int u13.1 :: u13.2)), (o, .inl (dA 3, 1, .inr (.inl u6)))]) [1, 0] rfl
      have hD := hD.sub (ws' := [(b 0, .inr (12, .int u13.1 :: u13.2)), (o, .inl (dA 3, 1, .inr (.inl u6)))]) [1, 0] (by decide) rfl
      have hm : u13.1 = 0 ∧ r12 = 0 := by
        rcases hw14 with h9 | h9 | h9
        · exact h9.2
        · exact absurd (hq.1.symm.trans h9.1) (by decide)
        · exact absurd hq.2 h9.1.2
      obtain ⟨hm, hv9⟩ := hm
      obtain rfl : r12 = 0 := hv9
      rw [hm] at hP hD
      have hP : va_P D vwCl [(b 0, .inr (12, .int 0 :: u13.2)), (o, .inl (dA 3, 1, .inr (.inl u6)))] H := hP
      have hD : va_D A [(b 0, .inr (12, .int 0 :: u13.2)), (o, .inl (dA 3, 1, .inr (.inl u6)))] := hD
      refine lv_istore (lv' := [(7, .int 0), (6, .int 0), (5, .int 0), (4, .ref od), (3, .ref o), (2, .ref (b 0)), (1, .ref (a 0)), (0, .ref bs)]) hx hb dL_law_334 hl (by decide) rfl (fun ls hl => ?_)
      refine lv_aload_n hx hb dL_law_336 rfl (lv_at hl 5 rfl) ?_
      have hPc := hP.sub (ws' := [(b 0, .inr (12, .int 0 :: u13.2))]) [0] rfl
      have hDc := hD.sub (ws' := [(b 0, .inr (12, .int 0 :: u13.2))]) [0] (by decide) rfl
      have hFc := va_free (wc := [(b 0, .inr (12, .int 0 :: u13.2))]) hD hS hA [0] rfl
      refine va_calli (va_runV (As := []) (rest := []) ⟨hx, hb, hml, hown, hts⟩ (c_M_thrown l D dA E (b 0) 0 u13.2 H.size ) (cwV 0 hts (ga_V q470 q471 q468 q278 q469) rfl rfl rfl (by decide +kernel) ⟨(Nat.le_of_ble_eq_true rfl), (Nat.le_of_ble_eq_true rfl)⟩) ⟨pb_blind, va_recv hK hPc (ci := 12) (q0 := 0) rfl rfl, pb_pre hK hPc hDc hZ hS hFc _⟩ rfl rfl hl.1 rfl (lv_room (Nat.le_of_ble_eq_true rfl)) dL_law_337 ⟨(Nat.le_of_ble_eq_true rfl), (Nat.le_of_ble_eq_true rfl)⟩) hS (fun q _ h => hFc q h) hFc (fun r u t H1 locs ht hvm hw hB hz1 hk1 hS => ?_)
      refine W.widen (k := 74) (n := 12047) (Nat.le_of_ble_eq_true rfl) (Nat.le_of_ble_eq_true rfl) ?_
      obtain ⟨r15, rfl⟩ : ∃ z, z = r := ⟨_, rfl⟩
      obtain ⟨u16, rfl⟩ : ∃ z, z = u := ⟨_, rfl⟩
      have hw17 := hw
      clear hw
      obtain ⟨hP, hD⟩ := jn_drop (wr := [(o, .inl (dA 3, 1, .inr (.inl u6)))]) hP hD [0] [1] rfl rfl (by decide) (by decide) hk1 hFc
      generalize H1 = H at hP hS ⊢
      have hP : va_P D vwCl [(o, .inl (dA 3, 1, .inr (.inl u6)))] H := hP
      have hD : va_D A [(o, .inl (dA 3, 1, .inr (.inl u6)))] := hD
      obtain rfl : r15 = 0 := hw17
      refine lv_iload hx hb dL_law_340 (lv_at hl 1 rfl) ?_
      refine lv_icmp_eq (tgt := 347) hx hb dL_law_342 (by decide) (fun _ => ?_) (fun c18 => absurd (by decide) c18)
      refine lv_iload hx hb dL_law_347 (lv_at hl 1 rfl) ?_
      refine lv_if_ne (tgt := 364) hx hb dL_law_349 (by decide) (fun c19 => absurd (by decide) c19) (fun _ => ?_)
      refine lv_aload_n hx hb dL_law_352 rfl (lv_at hl 4 rfl) ?_
      refine lv_iconst (v := 0) hx hb dL_law_353 (by decide) ?_
      refine va_lald hx hb hK hP 0 3 rfl rfl (vi_c (by decide)) dL_law_354 ?_
      refine lv_topl (fun x20 ex20 => ?_)
      obtain rfl : x20 = 0 := ex20.trans ho
      refine lv_iload hx hb dL_law_355 (lv_at hl 0 rfl) ?_
      refine lv_i2l (v := 0) hx hb dL_law_357 (by decide) ?_
      refine W.lcmp hx hb dL_law_358 ?_
      refine lv_topi (fun x21 ex21 => ?_)
      replace ex21 : x21 = 0 := ex21.trans (by decide)
      subst ex21
      refine lv_if_eq (tgt := 364) hx hb dL_law_359 (by decide) (fun _ => ?_) (fun c22 => absurd (by decide) c22)
      refine lv_goto (tgt := 2346) hx hb dL_law_364 (by decide) ?_
      exact law_tail l C0 rfl (by rw [hAe]; exact hS) (Nat.le_of_ble_eq_true rfl) (Nat.le_of_ble_eq_true rfl) ls (lv_sub hl [7, 2] rfl)
    · obtain rfl : r5 = 1 := hk
      refine lv_istore (lv' := [(6, .int 1), (5, .int 0), (4, .ref od), (3, .ref o), (2, .ref (b 0)), (1, .ref (a 0)), (0, .ref bs)]) hx hb dL_law_316 hl (by decide) rfl (fun ls hl => ?_)
      refine lv_aload_n hx hb dL_law_318 rfl (lv_at hl 4 rfl) ?_
      refine lv_aload_n hx hb dL_law_319 rfl (lv_at hl 6 rfl) ?_
      refine lv_iload hx hb dL_law_320 (lv_at hl 1 rfl) ?_
      refine lv_iconst (v := 1) hx hb dL_law_322 (by decide) ?_
      refine lv_iadd hx hb dL_law_323 ?_
      refine lv_topi (fun x23 ex23 => ?_)
      replace ex23 : x23 = 1 := ex23.trans (by decide)
      subst ex23
      refine va_sld hx hb hX hbl hbA hS (vi_c (by decide)) dL_law_324 ?_
      refine lv_topi (fun x24 ex24 => ?_)
      obtain rfl : x2 = x24 := ex2.trans ex24.symm
      refine lv_aload_n hx hb dL_law_325 rfl (lv_at hl 6 rfl) ?_
      refine lv_iload hx hb dL_law_326 (lv_at hl 1 rfl) ?_
      refine lv_iconst (v := 2) hx hb dL_law_328 (by decide) ?_
      refine lv_iadd hx hb dL_law_329 ?_
      refine lv_topi (fun x25 ex25 => ?_)
      replace ex25 : x25 = 2 := ex25.trans (by decide)
      subst ex25
      refine va_sld hx hb hX hbl hbA hS (vi_c (by decide)) dL_law_330 ?_
      refine lv_topi (fun x26 ex26 => ?_)
      obtain rfl : x4 = x26 := ex4.trans ex26.symm
      have hPc := hP.sub (ws' := [(b 0, .inr (12, [.int 0, .int 0, .ref (b 2), .ref (b 3), .ref (b 4), .int 0, .int 0, .int 0, .int 0, .ref (b 9), .int 0, .ref (b 11), .ref (b 12), .ref (b 13), .ref (b 14), .ref (b 15), .ref (b 16), .ref (b 17), .ref (b 18), .int 0, .ref (b 20), .int 0, .int 0, .int 0, .ref (b 24), .ref (b 25), .ref (b 26), .int 0, .int 0, .ref (b 29), .ref (b 30), .int 0, .ref (b 32), .ref (b 33), .ref (b 34), .ref (b 35), .ref (b 36), .ref (b 37), .int 0, .int 0, .ref (b 40), .ref (b 41), .ref (b 42), .ref (b 43), .ref (b 44), .int 0, .ref (b 46), .ref (b 47), .ref (b 48)]))]) [1] rfl
      have hDc := hD.sub (ws' := [(b 0, .inr (12, [.int 0, .int 0, .ref (b 2), .ref (b 3), .ref (b 4), .int 0, .int 0, .int 0, .int 0, .ref (b 9), .int 0, .ref (b 11), .ref (b 12), .ref (b 13), .ref (b 14), .ref (b 15), .ref (b 16), .ref (b 17), .ref (b 18), .int 0, .ref (b 20), .int 0, .int 0, .int 0, .ref (b 24), .ref (b 25), .ref (b 26), .int 0, .int 0, .ref (b 29), .ref (b 30), .int 0, .ref (b 32), .ref (b 33), .ref (b 34), .ref (b 35), .ref (b 36), .ref (b 37), .int 0, .int 0, .ref (b 40), .ref (b 41), .ref (b 42), .ref (b 43), .ref (b 44), .int 0, .ref (b 46), .ref (b 47), .ref (b 48)]))]) [1] (by decide) rfl
      have hFc := va_free (wc := [(b 0, .inr (12, [.int 0, .int 0, .ref (b 2), .ref (b 3), .ref (b 4), .int 0, .int 0, .int 0, .int 0, .ref (b 9), .int 0, .ref (b 11), .ref (b 12), .ref (b 13), .ref (b 14), .ref (b 15), .ref (b 16), .ref (b 17), .ref (b 18), .int 0, .ref (b 20), .int 0, .int 0, .int 0, .ref (b 24), .ref (b 25), .ref (b 26), .int 0, .int 0, .ref (b 29), .ref (b 30), .int 0, .ref (b 32), .ref (b 33), .ref (b 34), .ref (b 35), .ref (b 36), .ref (b 37), .int 0, .int 0, .ref (b 40), .ref (b 41), .ref (b 42), .ref (b 43), .ref (b 44), .int 0, .ref (b 46), .ref (b 47), .ref (b 48)]))]) hD hS hA [1] rfl
      refine va_calli (va_runV (As := [.int x2, .int x4]) (rest := []) ⟨hx, hb, hml, hown, hts⟩ (c_M_open l D dA E b x2 x4 H.size ) (cwV 2 hts (ga_V q485 q486 q483 q278 q484) rfl rfl rfl (by decide +kernel) ⟨(Nat.le_of_ble_eq_true rfl), (Nat.le_of_ble_eq_true rfl)⟩) ⟨pb_blind, va_recv hK hPc (ci := 12) (q0 := 0) rfl rfl, pb_pre hK hPc hDc hZ hS hFc _⟩ rfl rfl hl.1 rfl (lv_room (Nat.le_of_ble_eq_true rfl)) dL_law_331 ⟨(Nat.le_of_ble_eq_true rfl), (Nat.le_of_ble_eq_true rfl)⟩) hS (fun q _ h => hFc q h) hFc (fun r u t H1 locs ht hvm hw hB hz1 hk1 hS => ?_)
      refine W.widen (k := 74) (n := 12047) (Nat.le_of_ble_eq_true rfl) (Nat.le_of_ble_eq_true rfl) ?_
      obtain ⟨r27, rfl⟩ : ∃ z, z = r := ⟨_, rfl⟩
      obtain ⟨u28, rfl⟩ : ∃ z, z = u := ⟨_, rfl⟩
      have hw29 := hw
      clear hw
      obtain ⟨hP1, hD1⟩ := hB
      rw [ht] at hP1
      obtain ⟨hP, hD⟩ := va_join (wr := [(o, .inl (dA 3, 1, .inr (.inl u6)))]) (w1 := [(b 0, .inr (12, .int u28.1 :: u28.2))]) hP hD [1] [0] rfl rfl (by decide) (by decide) hk1 hFc hP1 hD1
      generalize H1 = H at hP hS ⊢
      have hP : va_P D vwCl [(o, .inl (dA 3, 1, .inr (.inl u6))), (b 0, .inr (12, .int u28.1 :: u28.2))] H := hP
      have hD : va_D A [(o, .inl (dA 3, 1, .inr (.inl u6))), (b 0, .inr (12, .int u28.1 :: u28.2))] := hD
      have hP := hP.sub (ws' := [(b 0, .inr (12, .int u28.1 :: u28.2)), (o, .inl (dA 3, 1, .inr (.inl u6)))]) [1, 0] rfl
      have hD := hD.sub (ws' := [(b 0, .inr (12, .int u28.1 :: u28.2)), (o, .inl (dA 3, 1, .inr (.inl u6)))]) [1, 0] (by decide) rfl
      have hm : u28.1 = 1 := by
        rcases hw29 with h9 | h9 | h9
        · exact absurd (hq.symm.trans h9.1.1) (by decide)
        · exact h9.2
        · exact absurd (hq.symm.trans h9.1.1) (by decide)
      rw [hm] at hP hD
      have hP : va_P D vwCl [(b 0, .inr (12, .int 1 :: u28.2)), (o, .inl (dA 3, 1, .inr (.inl u6)))] H := hP
      have hD : va_D A [(b 0, .inr (12, .int 1 :: u28.2)), (o, .inl (dA 3, 1, .inr (.inl u6)))] := hD
      refine lv_istore (lv' := [(7, .int r27), (6, .int 1), (5, .int 0), (4, .ref od), (3, .ref o), (2, .ref (b 0)), (1, .ref (a 0)), (0, .ref bs)]) hx hb dL_law_334 hl (by decide) rfl (fun ls hl => ?_)
      refine lv_aload_n hx hb dL_law_336 rfl (lv_at hl 5 rfl) ?_
      have hPc := hP.sub (ws' := [(b 0, .inr (12, .int 1 :: u28.2))]) [0] rfl
      have hDc := hD.sub (ws' := [(b 0, .inr (12, .int 1 :: u28.2))]) [0] (by decide) rfl
      have hFc := va_free (wc := [(b 0, .inr (12, .int 1 :: u28.2))]) hD hS hA [0] rfl
      refine va_calli (va_runV (As := []) (rest := []) ⟨hx, hb, hml, hown, hts⟩ (c_M_thrown l D dA E (b 0) 1 u28.2 H.size ) (cwV 0 hts (ga_V q470 q471 q468 q278 q469) rfl rfl rfl (by decide +kernel) ⟨(Nat.le_of_ble_eq_true rfl), (Nat.le_of_ble_eq_true rfl)⟩) ⟨pb_blind, va_recv hK hPc (ci := 12) (q0 := 0) rfl rfl, pb_pre hK hPc hDc hZ hS hFc _⟩ rfl rfl hl.1 rfl (lv_room (Nat.le_of_ble_eq_true rfl)) dL_law_337 ⟨(Nat.le_of_ble_eq_true rfl), (Nat.le_of_ble_eq_true rfl)⟩) hS (fun q _ h => hFc q h) hFc (fun r u t H1 locs ht hvm hw hB hz1 hk1 hS => ?_)
      refine W.widen (k := 74) (n := 12047) (Nat.le_of_ble_eq_true rfl) (Nat.le_of_ble_eq_true rfl) ?_
      obtain ⟨r30, rfl⟩ : ∃ z, z = r := ⟨_, rfl⟩
      obtain ⟨u31, rfl⟩ : ∃ z, z = u := ⟨_, rfl⟩
      have hw32 := hw
      clear hw
      obtain ⟨hP, hD⟩ := jn_drop (wr := [(o, .inl (dA 3, 1, .inr (.inl u6)))]) hP hD [0] [1] rfl rfl (by decide) (by decide) hk1 hFc
      generalize H1 = H at hP hS ⊢
      have hP : va_P D vwCl [(o, .inl (dA 3, 1, .inr (.inl u6)))] H := hP
      have hD : va_D A [(o, .inl (dA 3, 1, .inr (.inl u6)))] := hD
      obtain rfl : r30 = 1 := hw32
      refine lv_iload hx hb dL_law_340 (lv_at hl 1 rfl) ?_
      refine lv_icmp_eq (tgt := 347) hx hb dL_law_342 (by decide) (fun _ => ?_) (fun c33 => absurd (by decide) c33)
      refine lv_iload hx hb dL_law_347 (lv_at hl 1 rfl) ?_
      refine lv_if_ne (tgt := 364) hx hb dL_law_349 (by decide) (fun _ => ?_) (fun c34 => absurd c34 (by decide))
      refine lv_goto (tgt := 2346) hx hb dL_law_364 (by decide) ?_
      exact law_tail l C0 rfl (by rw [hAe]; exact hS) (Nat.le_of_ble_eq_true rfl) (Nat.le_of_ble_eq_true rfl) ls (lv_sub hl [7, 2] rfl)
    · obtain rfl : r5 = 2 := hk
      refine lv_istore (lv' := [(6, .int 2), (5, .int 0), (4, .ref od), (3, .ref o), (2, .ref (b 0)), (1, .ref (a 0)), (0, .ref bs)]) hx hb dL_law_316 hl (by decide) rfl (fun ls hl => ?_)
      refine lv_aload_n hx hb dL_law_318 rfl (lv_at hl 4 rfl) ?_
      refine lv_aload_n hx hb dL_law_319 rfl (lv_at hl 6 rfl) ?_
      refine lv_iload hx hb dL_law_320 (lv_at hl 1 rfl) ?_
      refine lv_iconst (v := 1) hx hb dL_law_322 (by decide) ?_
      refine lv_iadd hx hb dL_law_323 ?_
      refine lv_topi (fun x35 ex35 => ?_)
      replace ex35 : x35 = 1 := ex35.trans (by decide)
      subst ex35
      refine va_sld hx hb hX hbl hbA hS (vi_c (by decide)) dL_law_324 ?_
      refine lv_topi (fun x36 ex36 => ?_)
      obtain rfl : x2 = x36 := ex2.trans ex36.symm
      refine lv_aload_n hx hb dL_law_325 rfl (lv_at hl 6 rfl) ?_
      refine lv_iload hx hb dL_law_326 (lv_at hl 1 rfl) ?_
      refine lv_iconst (v := 2) hx hb dL_law_328 (by decide) ?_
      refine lv_iadd hx hb dL_law_329 ?_
      refine lv_topi (fun x37 ex37 => ?_)
      replace ex37 : x37 = 2 := ex37.trans (by decide)
      subst ex37
      refine va_sld hx hb hX hbl hbA hS (vi_c (by decide)) dL_law_330 ?_
      refine lv_topi (fun x38 ex38 => ?_)
      obtain rfl : x4 = x38 := ex4.trans ex38.symm
      have hPc := hP.sub (ws' := [(b 0, .inr (12, [.int 0, .int 0, .ref (b 2), .ref (b 3), .ref (b 4), .int 0, .int 0, .int 0, .int 0, .ref (b 9), .int 0, .ref (b 11), .ref (b 12), .ref (b 13), .ref (b 14), .ref (b 15), .ref (b 16), .ref (b 17), .ref (b 18), .int 0, .ref (b 20), .int 0, .int 0, .int 0, .ref (b 24), .ref (b 25), .ref (b 26), .int 0, .int 0, .ref (b 29), .ref (b 30), .int 0, .ref (b 32), .ref (b 33), .ref (b 34), .ref (b 35), .ref (b 36), .ref (b 37), .int 0, .int 0, .ref (b 40), .ref (b 41), .ref (b 42), .ref (b 43), .ref (b 44), .int 0, .ref (b 46), .ref (b 47), .ref (b 48)]))]) [1] rfl
      have hDc := hD.sub (ws' := [(b 0, .inr (12, [.int 0, .int 0, .ref (b 2), .ref (b 3), .ref (b 4), .int 0, .int 0, .int 0, .int 0, .ref (b 9), .int 0, .ref (b 11), .ref (b 12), .ref (b 13), .ref (b 14), .ref (b 15), .ref (b 16), .ref (b 17), .ref (b 18), .int 0, .ref (b 20), .int 0, .int 0, .int 0, .ref (b 24), .ref (b 25), .ref (b 26), .int 0, .int 0, .ref (b 29), .ref (b 30), .int 0, .ref (b 32), .ref (b 33), .ref (b 34), .ref (b 35), .ref (b 36), .ref (b 37), .int 0, .int 0, .ref (b 40), .ref (b 41), .ref (b 42), .ref (b 43), .ref (b 44), .int 0, .ref (b 46), .ref (b 47), .ref (b 48)]))]) [1] (by decide) rfl
      have hFc := va_free (wc := [(b 0, .inr (12, [.int 0, .int 0, .ref (b 2), .ref (b 3), .ref (b 4), .int 0, .int 0, .int 0, .int 0, .ref (b 9), .int 0, .ref (b 11), .ref (b 12), .ref (b 13), .ref (b 14), .ref (b 15), .ref (b 16), .ref (b 17), .ref (b 18), .int 0, .ref (b 20), .int 0, .int 0, .int 0, .ref (b 24), .ref (b 25), .ref (b 26), .int 0, .int 0, .ref (b 29), .ref (b 30), .int 0, .ref (b 32), .ref (b 33), .ref (b 34), .ref (b 35), .ref (b 36), .ref (b 37), .int 0, .int 0, .ref (b 40), .ref (b 41), .ref (b 42), .ref (b 43), .ref (b 44), .int 0, .ref (b 46), .ref (b 47), .ref (b 48)]))]) hD hS hA [1] rfl
      refine va_calli (va_runV (As := [.int x2, .int x4]) (rest := []) ⟨hx, hb, hml, hown, hts⟩ (c_M_open l D dA E b x2 x4 H.size ) (cwV 2 hts (ga_V q485 q486 q483 q278 q484) rfl rfl rfl (by decide +kernel) ⟨(Nat.le_of_ble_eq_true rfl), (Nat.le_of_ble_eq_true rfl)⟩) ⟨pb_blind, va_recv hK hPc (ci := 12) (q0 := 0) rfl rfl, pb_pre hK hPc hDc hZ hS hFc _⟩ rfl rfl hl.1 rfl (lv_room (Nat.le_of_ble_eq_true rfl)) dL_law_331 ⟨(Nat.le_of_ble_eq_true rfl), (Nat.le_of_ble_eq_true rfl)⟩) hS (fun q _ h => hFc q h) hFc (fun r u t H1 locs ht hvm hw hB hz1 hk1 hS => ?_)
      refine W.widen (k := 74) (n := 12047) (Nat.le_of_ble_eq_true rfl) (Nat.le_of_ble_eq_true rfl) ?_
      obtain ⟨r39, rfl⟩ : ∃ z, z = r := ⟨_, rfl⟩
      obtain ⟨u40, rfl⟩ : ∃ z, z = u := ⟨_, rfl⟩
      have hw41 := hw
      clear hw
      obtain ⟨hP1, hD1⟩ := hB
      rw [ht] at hP1
      obtain ⟨hP, hD⟩ := va_join (wr := [(o, .inl (dA 3, 1, .inr (.inl u6)))]) (w1 := [(b 0, .inr (12, .int u40.1 :: u40.2))]) hP hD [1] [0] rfl rfl (by decide) (by decide) hk1 hFc hP1 hD1
      generalize H1 = H at hP hS ⊢
      have hP : va_P D vwCl [(o, .inl (dA 3, 1, .inr (.inl u6))), (b 0, .inr (12, .int u40.1 :: u40.2))] H := hP
      have hD : va_D A [(o, .inl (dA 3, 1, .inr (.inl u6))), (b 0, .inr (12, .int u40.1 :: u40.2))] := hD
      have hP := hP.sub (ws' := [(b 0, .inr (12, .int u40.1 :: u40.2)), (o, .inl (dA 3, 1, .inr (.inl u6)))]) [1, 0] rfl
      have hD := hD.sub (ws' := [(b 0, .inr (12, .int u40.1 :: u40.2)), (o, .inl (dA 3, 1, .inr (.inl u6)))]) [1, 0] (by decide) rfl
      have hm : u40.1 = 2 := by
        rcases hw41 with h9 | h9 | h9
        · exact absurd h9.1.2 hq.2
        · exact absurd (hq.1.symm.trans h9.1) (by decide)
        · exact h9.2
      rw [hm] at hP hD
      have hP : va_P D vwCl [(b 0, .inr (12, .int 2 :: u40.2)), (o, .inl (dA 3, 1, .inr (.inl u6)))] H := hP
      have hD : va_D A [(b 0, .inr (12, .int 2 :: u40.2)), (o, .inl (dA 3, 1, .inr (.inl u6)))] := hD
      refine lv_istore (lv' := [(7, .int r39), (6, .int 2), (5, .int 0), (4, .ref od), (3, .ref o), (2, .ref (b 0)), (1, .ref (a 0)), (0, .ref bs)]) hx hb dL_law_334 hl (by decide) rfl (fun ls hl => ?_)
      refine lv_aload_n hx hb dL_law_336 rfl (lv_at hl 5 rfl) ?_
      have hPc := hP.sub (ws' := [(b 0, .inr (12, .int 2 :: u40.2))]) [0] rfl
      have hDc := hD.sub (ws' := [(b 0, .inr (12, .int 2 :: u40.2))]) [0] (by decide) rfl
      have hFc := va_free (wc := [(b 0, .inr (12, .int 2 :: u40.2))]) hD hS hA [0] rfl
      refine va_calli (va_runV (As := []) (rest := []) ⟨hx, hb, hml, hown, hts⟩ (c_M_thrown l D dA E (b 0) 2 u40.2 H.size ) (cwV 0 hts (ga_V q470 q471 q468 q278 q469) rfl rfl rfl (by decide +kernel) ⟨(Nat.le_of_ble_eq_true rfl), (Nat.le_of_ble_eq_true rfl)⟩) ⟨pb_blind, va_recv hK hPc (ci := 12) (q0 := 0) rfl rfl, pb_pre hK hPc hDc hZ hS hFc _⟩ rfl rfl hl.1 rfl (lv_room (Nat.le_of_ble_eq_true rfl)) dL_law_337 ⟨(Nat.le_of_ble_eq_true rfl), (Nat.le_of_ble_eq_true rfl)⟩) hS (fun q _ h => hFc q h) hFc (fun r u t H1 locs ht hvm hw hB hz1 hk1 hS => ?_)
      refine W.widen (k := 74) (n := 12047) (Nat.le_of_ble_eq_true rfl) (Nat.le_of_ble_eq_true rfl) ?_
      obtain ⟨r42, rfl⟩ : ∃ z, z = r := ⟨_, rfl⟩
      obtain ⟨u43, rfl⟩ : ∃ z, z = u := ⟨_, rfl⟩
      have hw44 := hw
      clear hw
      obtain ⟨hP, hD⟩ := jn_drop (wr := [(o, .inl (dA 3, 1, .inr (.inl u6)))]) hP hD [0] [1] rfl rfl (by decide) (by decide) hk1 hFc
      generalize H1 = H at hP hS ⊢
      have hP : va_P D vwCl [(o, .inl (dA 3, 1, .inr (.inl u6)))] H := hP
      have hD : va_D A [(o, .inl (dA 3, 1, .inr (.inl u6)))] := hD
      obtain rfl : r42 = 2 := hw44
      refine lv_iload hx hb dL_law_340 (lv_at hl 1 rfl) ?_
      refine lv_icmp_eq (tgt := 347) hx hb dL_law_342 (by decide) (fun _ => ?_) (fun c45 => absurd (by decide) c45)
      refine lv_iload hx hb dL_law_347 (lv_at hl 1 rfl) ?_
      refine lv_if_ne (tgt := 364) hx hb dL_law_349 (by decide) (fun _ => ?_) (fun c46 => absurd c46 (by decide))
      refine lv_goto (tgt := 2346) hx hb dL_law_364 (by decide) ?_
      exact law_tail l C0 rfl (by rw [hAe]; exact hS) (Nat.le_of_ble_eq_true rfl) (Nat.le_of_ble_eq_true rfl) ls (lv_sub hl [7, 2] rfl)
