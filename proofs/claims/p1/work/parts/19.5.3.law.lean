set_option maxHeartbeats 4000000 in
set_option maxRecDepth 100000 in
/-- the law at join -/
theorem law_21 {p : Program} {e : Env} {s : State} {m : MethodId} {below : List Frame} {meth : Method} {c : Code} (l : Launch) (hlt : l.stackTraces = false) {bs L : Nat} {xs : Nat → Int32} (C0 : lw_At p s m meth c bs L xs) (hL6 : L = 6) (D : va_G) (dA : Nat → ClassId) (E : Nat) (A : Nat → Prop) (hAe : (fun q : Nat => s.heap.size ≤ q) = A) (a b : Nat → Nat) (o od : Nat) (hK : va_K D vwCl (TY dA) s) (hZ : ZZ dA E A s s.heap) (H : Heap) (locs : List Loc) (hP : va_P D vwCl [(a 0, .inr (11, [.ref (a 1), .ref (a 2), .ref (a 3), .ref (a 4), .ref (a 5), .ref (a 10), .ref (a 15), .ref (a 17), .null, .int 0, .int 0, .int 0])), (a 4, .inr (2, [.int 0, .ref E, .int 0])), (o, .inl (dA 3, 1, .inr (.inl (fun _ => 0)))), (b 0, .inr (12, [.int 0, .int 0, .ref (b 2), .ref (b 3), .ref (b 4), .int 0, .int 0, .int 0, .int 0, .ref (b 9), .int 0, .ref (b 11), .ref (b 12), .ref (b 13), .ref (b 14), .ref (b 15), .ref (b 16), .ref (b 17), .ref (b 18), .int 0, .ref (b 20), .int 0, .int 0, .int 0, .ref (b 24), .ref (b 25), .ref (b 26), .int 0, .int 0, .ref (b 29), .ref (b 30), .int 0, .ref (b 32), .ref (b 33), .ref (b 34), .ref (b 35), .ref (b 36), .ref (b 37), .int 0, .int 0, .ref (b 40), .ref (b 41), .ref (b 42), .ref (b 43), .ref (b 44), .int 0, .ref (b 46), .ref (b 47), .ref (b 48)]))] H) (hD : va_D A [(a 0, .inr (11, [.ref (a 1), .ref (a 2), .ref (a 3), .ref (a 4), .ref (a 5), .ref (a 10), .ref (a 15), .ref (a 17), .null, .int 0, .int 0, .int 0])), (a 4, .inr (2, [.int 0, .ref E, .int 0])), (o, .inl (dA 3, 1, .inr (.inl (fun _ => 0)))), (b 0, .inr (12, [.int 0, .int 0, .ref (b 2), .ref (b 3), .ref (b 4), .int 0, .int 0, .int 0, .int 0, .ref (b 9), .int 0, .ref (b 11), .ref (b 12), .ref (b 13), .ref (b 14), .ref (b 15), .ref (b 16), .ref (b 17), .ref (b 18), .int 0, .ref (b 20), .int 0, .int 0, .int 0, .ref (b 24), .ref (b 25), .ref (b 26), .int 0, .int 0, .ref (b 29), .ref (b 30), .int 0, .ref (b 32), .ref (b 33), .ref (b 34), .ref (b 35), .ref (b 36), .ref (b 37), .int 0, .int 0, .ref (b 40), .ref (b 41), .ref (b 42), .ref (b 43), .ref (b 44), .int 0, .ref (b 46), .ref (b 47), .ref (b 48)]))]) (hS : va_S A s.heap H locs) (ls : Array Slot) (hl : lv_has ls 9 [(5, .int 0), (4, .ref od), (3, .ref o), (2, .ref (b 0)), (1, .ref (a 0)), (0, .ref bs)]) : W p l e room_1 s m #[Value.ref bs] below meth c H locs 65 11778 (lw_Z below #[Value.ref bs] s) (F0 m 1248 ls []) := by
  subst hL6
  obtain ⟨hx, hb, hr, hml, hown, hts0, hX, hbl, hlocks, hgv⟩ := id C0
  have hts : ∀ w ∈ WA, w.before #[Value.ref bs] s = true := fun w h => hts0 w (WA_tbl h)
  have hA : ∀ q : Nat, s.heap.size ≤ q → A q := fun q h => by rw [← hAe]; exact h
  have hbA : ¬ A bs := by rw [← hAe]; exact Nat.not_le.mpr hbl
  refine lv_aload_n hx hb dL_law_1248 rfl (lv_at hl 4 rfl) ?_
  refine lv_aload_n hx hb dL_law_1249 rfl (lv_at hl 5 rfl) ?_
  refine lv_iload hx hb dL_law_1250 (lv_at hl 0 rfl) ?_
  refine lv_iconst (v := 1) hx hb dL_law_1252 (by decide) ?_
  refine lv_iadd hx hb dL_law_1253 ?_
  refine lv_topi (fun x1 ex1 => ?_)
  replace ex1 : x1 = 1 := ex1.trans (by decide)
  subst ex1
  refine va_sld hx hb hX hbl hbA hS (vi_c (by decide)) dL_law_1254 ?_
  refine lv_topi (fun x2 ex2 => ?_)
  obtain ⟨x3, ex3⟩ : ∃ y : Int32, y = (x2.toUInt32 % 65536).toInt32 := ⟨_, rfl⟩
  refine lv_i2c (v := x3) hx hb dL_law_1255 ex3.symm ?_
  refine lv_aload_n hx hb dL_law_1256 rfl (lv_at hl 5 rfl) ?_
  refine lv_iload hx hb dL_law_1257 (lv_at hl 0 rfl) ?_
  refine lv_iconst (v := 2) hx hb dL_law_1259 (by decide) ?_
  refine lv_iadd hx hb dL_law_1260 ?_
  refine lv_topi (fun x4 ex4 => ?_)
  replace ex4 : x4 = 2 := ex4.trans (by decide)
  subst ex4
  refine va_sld hx hb hX hbl hbA hS (vi_c (by decide)) dL_law_1261 ?_
  refine lv_topi (fun x5 ex5 => ?_)
  refine lv_aload_n hx hb dL_law_1262 rfl (lv_at hl 5 rfl) ?_
  refine lv_iload hx hb dL_law_1263 (lv_at hl 0 rfl) ?_
  refine lv_iconst (v := 3) hx hb dL_law_1265 (by decide) ?_
  refine lv_iadd hx hb dL_law_1266 ?_
  refine lv_topi (fun x6 ex6 => ?_)
  replace ex6 : x6 = 3 := ex6.trans (by decide)
  subst ex6
  refine va_sld hx hb hX hbl hbA hS (vi_c (by decide)) dL_law_1267 ?_
  refine lv_topi (fun x7 ex7 => ?_)
  refine lv_aload_n hx hb dL_law_1268 rfl (lv_at hl 2 rfl) ?_
  have hPc := hP.sub (ws' := [(a 0, .inr (11, [.ref (a 1), .ref (a 2), .ref (a 3), .ref (a 4), .ref (a 5), .ref (a 10), .ref (a 15), .ref (a 17), .null, .int 0, .int 0, .int 0])), (a 4, .inr (2, [.int 0, .ref E, .int 0])), (o, .inl (dA 3, 1, .inr (.inl (fun _ => 0))))]) [0, 1, 2] rfl
  have hDc := hD.sub (ws' := [(a 0, .inr (11, [.ref (a 1), .ref (a 2), .ref (a 3), .ref (a 4), .ref (a 5), .ref (a 10), .ref (a 15), .ref (a 17), .null, .int 0, .int 0, .int 0])), (a 4, .inr (2, [.int 0, .ref E, .int 0])), (o, .inl (dA 3, 1, .inr (.inl (fun _ => 0))))]) [0, 1, 2] (by decide) rfl
  have hFc := va_free (wc := [(a 0, .inr (11, [.ref (a 1), .ref (a 2), .ref (a 3), .ref (a 4), .ref (a 5), .ref (a 10), .ref (a 15), .ref (a 17), .null, .int 0, .int 0, .int 0])), (a 4, .inr (2, [.int 0, .ref E, .int 0])), (o, .inl (dA 3, 1, .inr (.inl (fun _ => 0))))]) hD hS hA [0, 1, 2] rfl
  refine vx_calli (vx_runSX (As := [.ref (a 0), .int x3, .int x5, .int x7, .ref o]) (rest := []) ⟨hx, hb, hml, hown, hts⟩ (c_L_join l hlt D dA E a o (fun _ => 0) x3 x5 x7 H.size ⟨by rw [ex3]; exact pk_nc _, by rw [ex3]; exact pk_fc _⟩) (vx_cwSW 5 hts (ga_S q618 q619 q463 q617) rfl rfl rfl (by decide +kernel) ⟨(Nat.le_of_ble_eq_true rfl), (Nat.le_of_ble_eq_true rfl)⟩) ⟨pb_blind, pb_pre hK hPc hDc hZ hS hFc _⟩ rfl rfl hl.1 rfl (lv_room (Nat.le_of_ble_eq_true rfl)) dL_law_1269 ⟨(Nat.le_of_ble_eq_true rfl), (Nat.le_of_ble_eq_true rfl)⟩) hS (fun q _ h => hFc q h) hFc (fun q _ h => hFc q h) (fun E9 ce q9 k t H1 locs ht hvm hpx hBX hz1 hk1 hS hce hcv hcl => ?_) (fun r u t H1 locs ht hvm hw hB hz1 hk1 hS => ?_)
  · exact hpx.elim
  · refine W.widen (k := 66) (n := 11784) (Nat.le_of_ble_eq_true rfl) (Nat.le_of_ble_eq_true rfl) ?_
    obtain ⟨r8, rfl⟩ : ∃ z, z = r := ⟨_, rfl⟩
    obtain ⟨u9, rfl⟩ : ∃ z, z = u := ⟨_, rfl⟩
    have hw10 := hw
    clear hw
    obtain ⟨hP1, hD1⟩ := hB
    rw [ht] at hP1
    obtain ⟨hP, hD⟩ := va_join (wr := [(b 0, .inr (12, [.int 0, .int 0, .ref (b 2), .ref (b 3), .ref (b 4), .int 0, .int 0, .int 0, .int 0, .ref (b 9), .int 0, .ref (b 11), .ref (b 12), .ref (b 13), .ref (b 14), .ref (b 15), .ref (b 16), .ref (b 17), .ref (b 18), .int 0, .ref (b 20), .int 0, .int 0, .int 0, .ref (b 24), .ref (b 25), .ref (b 26), .int 0, .int 0, .ref (b 29), .ref (b 30), .int 0, .ref (b 32), .ref (b 33), .ref (b 34), .ref (b 35), .ref (b 36), .ref (b 37), .int 0, .int 0, .ref (b 40), .ref (b 41), .ref (b 42), .ref (b 43), .ref (b 44), .int 0, .ref (b 46), .ref (b 47), .ref (b 48)]))]) (w1 := [(o, .inl (dA 3, 1, .inr (.inl u9)))]) hP hD [0, 1, 2] [3] rfl rfl (by decide) (by decide) hk1 hFc hP1 hD1
    generalize H1 = H at hP hS ⊢
    have hP : va_P D vwCl [(b 0, .inr (12, [.int 0, .int 0, .ref (b 2), .ref (b 3), .ref (b 4), .int 0, .int 0, .int 0, .int 0, .ref (b 9), .int 0, .ref (b 11), .ref (b 12), .ref (b 13), .ref (b 14), .ref (b 15), .ref (b 16), .ref (b 17), .ref (b 18), .int 0, .ref (b 20), .int 0, .int 0, .int 0, .ref (b 24), .ref (b 25), .ref (b 26), .int 0, .int 0, .ref (b 29), .ref (b 30), .int 0, .ref (b 32), .ref (b 33), .ref (b 34), .ref (b 35), .ref (b 36), .ref (b 37), .int 0, .int 0, .ref (b 40), .ref (b 41), .ref (b 42), .ref (b 43), .ref (b 44), .int 0, .ref (b 46), .ref (b 47), .ref (b 48)])), (o, .inl (dA 3, 1, .inr (.inl u9)))] H := hP
    have hD : va_D A [(b 0, .inr (12, [.int 0, .int 0, .ref (b 2), .ref (b 3), .ref (b 4), .int 0, .int 0, .int 0, .int 0, .ref (b 9), .int 0, .ref (b 11), .ref (b 12), .ref (b 13), .ref (b 14), .ref (b 15), .ref (b 16), .ref (b 17), .ref (b 18), .int 0, .ref (b 20), .int 0, .int 0, .int 0, .ref (b 24), .ref (b 25), .ref (b 26), .int 0, .int 0, .ref (b 29), .ref (b 30), .int 0, .ref (b 32), .ref (b 33), .ref (b 34), .ref (b 35), .ref (b 36), .ref (b 37), .int 0, .int 0, .ref (b 40), .ref (b 41), .ref (b 42), .ref (b 43), .ref (b 44), .int 0, .ref (b 46), .ref (b 47), .ref (b 48)])), (o, .inl (dA 3, 1, .inr (.inl u9)))] := hD
    have hP := hP.sub (ws' := [(o, .inl (dA 3, 1, .inr (.inl u9))), (b 0, .inr (12, [.int 0, .int 0, .ref (b 2), .ref (b 3), .ref (b 4), .int 0, .int 0, .int 0, .int 0, .ref (b 9), .int 0, .ref (b 11), .ref (b 12), .ref (b 13), .ref (b 14), .ref (b 15), .ref (b 16), .ref (b 17), .ref (b 18), .int 0, .ref (b 20), .int 0, .int 0, .int 0, .ref (b 24), .ref (b 25), .ref (b 26), .int 0, .int 0, .ref (b 29), .ref (b 30), .int 0, .ref (b 32), .ref (b 33), .ref (b 34), .ref (b 35), .ref (b 36), .ref (b 37), .int 0, .int 0, .ref (b 40), .ref (b 41), .ref (b 42), .ref (b 43), .ref (b 44), .int 0, .ref (b 46), .ref (b 47), .ref (b 48)]))]) [1, 0] rfl
    have hD := hD.sub (ws' := [(o, .inl (dA 3, 1, .inr (.inl u9))), (b 0, .inr (12, [.int 0, .int 0, .ref (b 2), .ref (b 3), .ref (b 4), .int 0, .int 0, .int 0, .int 0, .ref (b 9), .int 0, .ref (b 11), .ref (b 12), .ref (b 13), .ref (b 14), .ref (b 15), .ref (b 16), .ref (b 17), .ref (b 18), .int 0, .ref (b 20), .int 0, .int 0, .int 0, .ref (b 24), .ref (b 25), .ref (b 26), .int 0, .int 0, .ref (b 29), .ref (b 30), .int 0, .ref (b 32), .ref (b 33), .ref (b 34), .ref (b 35), .ref (b 36), .ref (b 37), .int 0, .int 0, .ref (b 40), .ref (b 41), .ref (b 42), .ref (b 43), .ref (b 44), .int 0, .ref (b 46), .ref (b 47), .ref (b 48)]))]) [1, 0] (by decide) rfl
    rcases hw10 with ⟨hq, hk⟩ | ⟨hq, hk⟩
    · obtain rfl : r8 = 1 := hk
      refine lv_istore (lv' := [(6, .int 1), (5, .int 0), (4, .ref od), (3, .ref o), (2, .ref (b 0)), (1, .ref (a 0)), (0, .ref bs)]) hx hb dL_law_1272 hl (by decide) rfl (fun ls hl => ?_)
      refine lv_aload_n hx hb dL_law_1274 rfl (lv_at hl 4 rfl) ?_
      refine lv_aload_n hx hb dL_law_1275 rfl (lv_at hl 6 rfl) ?_
      refine lv_iload hx hb dL_law_1276 (lv_at hl 1 rfl) ?_
      refine lv_iconst (v := 1) hx hb dL_law_1278 (by decide) ?_
      refine lv_iadd hx hb dL_law_1279 ?_
      refine lv_topi (fun x11 ex11 => ?_)
      replace ex11 : x11 = 1 := ex11.trans (by decide)
      subst ex11
      refine va_sld hx hb hX hbl hbA hS (vi_c (by decide)) dL_law_1280 ?_
      refine lv_topi (fun x12 ex12 => ?_)
      obtain rfl : x2 = x12 := ex2.trans ex12.symm
      refine lv_i2c (v := x3) hx hb dL_law_1281 ex3.symm ?_
      refine lv_aload_n hx hb dL_law_1282 rfl (lv_at hl 6 rfl) ?_
      refine lv_iload hx hb dL_law_1283 (lv_at hl 1 rfl) ?_
      refine lv_iconst (v := 2) hx hb dL_law_1285 (by decide) ?_
      refine lv_iadd hx hb dL_law_1286 ?_
      refine lv_topi (fun x13 ex13 => ?_)
      replace ex13 : x13 = 2 := ex13.trans (by decide)
      subst ex13
      refine va_sld hx hb hX hbl hbA hS (vi_c (by decide)) dL_law_1287 ?_
      refine lv_topi (fun x14 ex14 => ?_)
      obtain rfl : x5 = x14 := ex5.trans ex14.symm
      refine lv_aload_n hx hb dL_law_1288 rfl (lv_at hl 6 rfl) ?_
      refine lv_iload hx hb dL_law_1289 (lv_at hl 1 rfl) ?_
      refine lv_iconst (v := 3) hx hb dL_law_1291 (by decide) ?_
      refine lv_iadd hx hb dL_law_1292 ?_
      refine lv_topi (fun x15 ex15 => ?_)
      replace ex15 : x15 = 3 := ex15.trans (by decide)
      subst ex15
      refine va_sld hx hb hX hbl hbA hS (vi_c (by decide)) dL_law_1293 ?_
      refine lv_topi (fun x16 ex16 => ?_)
      obtain rfl : x7 = x16 := ex7.trans ex16.symm
      have hPc := hP.sub (ws' := [(b 0, .inr (12, [.int 0, .int 0, .ref (b 2), .ref (b 3), .ref (b 4), .int 0, .int 0, .int 0, .int 0, .ref (b 9), .int 0, .ref (b 11), .ref (b 12), .ref (b 13), .ref (b 14), .ref (b 15), .ref (b 16), .ref (b 17), .ref (b 18), .int 0, .ref (b 20), .int 0, .int 0, .int 0, .ref (b 24), .ref (b 25), .ref (b 26), .int 0, .int 0, .ref (b 29), .ref (b 30), .int 0, .ref (b 32), .ref (b 33), .ref (b 34), .ref (b 35), .ref (b 36), .ref (b 37), .int 0, .int 0, .ref (b 40), .ref (b 41), .ref (b 42), .ref (b 43), .ref (b 44), .int 0, .ref (b 46), .ref (b 47), .ref (b 48)]))]) [1] rfl
      have hDc := hD.sub (ws' := [(b 0, .inr (12, [.int 0, .int 0, .ref (b 2), .ref (b 3), .ref (b 4), .int 0, .int 0, .int 0, .int 0, .ref (b 9), .int 0, .ref (b 11), .ref (b 12), .ref (b 13), .ref (b 14), .ref (b 15), .ref (b 16), .ref (b 17), .ref (b 18), .int 0, .ref (b 20), .int 0, .int 0, .int 0, .ref (b 24), .ref (b 25), .ref (b 26), .int 0, .int 0, .ref (b 29), .ref (b 30), .int 0, .ref (b 32), .ref (b 33), .ref (b 34), .ref (b 35), .ref (b 36), .ref (b 37), .int 0, .int 0, .ref (b 40), .ref (b 41), .ref (b 42), .ref (b 43), .ref (b 44), .int 0, .ref (b 46), .ref (b 47), .ref (b 48)]))]) [1] (by decide) rfl
      have hFc := va_free (wc := [(b 0, .inr (12, [.int 0, .int 0, .ref (b 2), .ref (b 3), .ref (b 4), .int 0, .int 0, .int 0, .int 0, .ref (b 9), .int 0, .ref (b 11), .ref (b 12), .ref (b 13), .ref (b 14), .ref (b 15), .ref (b 16), .ref (b 17), .ref (b 18), .int 0, .ref (b 20), .int 0, .int 0, .int 0, .ref (b 24), .ref (b 25), .ref (b 26), .int 0, .int 0, .ref (b 29), .ref (b 30), .int 0, .ref (b 32), .ref (b 33), .ref (b 34), .ref (b 35), .ref (b 36), .ref (b 37), .int 0, .int 0, .ref (b 40), .ref (b 41), .ref (b 42), .ref (b 43), .ref (b 44), .int 0, .ref (b 46), .ref (b 47), .ref (b 48)]))]) hD hS hA [1] rfl
      refine va_calli (va_runV (As := [.int x3, .int x5, .int x7]) (rest := []) ⟨hx, hb, hml, hown, hts⟩ (c_M_join l D dA E b x3 x5 x7 H.size ) (cwV 3 hts (ga_V q622 q623 q620 q278 q621) rfl rfl rfl (by decide +kernel) ⟨(Nat.le_of_ble_eq_true rfl), (Nat.le_of_ble_eq_true rfl)⟩) ⟨pb_blind, va_recv hK hPc (ci := 12) (q0 := 0) rfl rfl, pb_pre hK hPc hDc hZ hS hFc _⟩ rfl rfl hl.1 rfl (lv_room (Nat.le_of_ble_eq_true rfl)) dL_law_1294 ⟨(Nat.le_of_ble_eq_true rfl), (Nat.le_of_ble_eq_true rfl)⟩) hS (fun q _ h => hFc q h) hFc (fun r u t H1 locs ht hvm hw hB hz1 hk1 hS => ?_)
      refine W.widen (k := 66) (n := 11784) (Nat.le_of_ble_eq_true rfl) (Nat.le_of_ble_eq_true rfl) ?_
      obtain ⟨r17, rfl⟩ : ∃ z, z = r := ⟨_, rfl⟩
      obtain ⟨u18, rfl⟩ : ∃ z, z = u := ⟨_, rfl⟩
      have hw19 := hw
      clear hw
      obtain ⟨hP1, hD1⟩ := hB
      rw [ht] at hP1
      obtain ⟨hP, hD⟩ := va_join (wr := [(o, .inl (dA 3, 1, .inr (.inl u9)))]) (w1 := [(b 0, .inr (12, .int u18.1 :: u18.2))]) hP hD [1] [0] rfl rfl (by decide) (by decide) hk1 hFc hP1 hD1
      generalize H1 = H at hP hS ⊢
      have hP : va_P D vwCl [(o, .inl (dA 3, 1, .inr (.inl u9))), (b 0, .inr (12, .int u18.1 :: u18.2))] H := hP
      have hD : va_D A [(o, .inl (dA 3, 1, .inr (.inl u9))), (b 0, .inr (12, .int u18.1 :: u18.2))] := hD
      have hP := hP.sub (ws' := [(b 0, .inr (12, .int u18.1 :: u18.2)), (o, .inl (dA 3, 1, .inr (.inl u9)))]) [1, 0] rfl
      have hD := hD.sub (ws' := [(b 0, .inr (12, .int u18.1 :: u18.2)), (o, .inl (dA 3, 1, .inr (.inl u9)))]) [1, 0] (by decide) rfl
      have hm : u18.1 = 1 := by
        rcases hw19 with h9 | h9
        · exact h9.2
        · exact absurd (hq.symm.trans h9.1) (by decide)
      rw [hm] at hP hD
      have hP : va_P D vwCl [(b 0, .inr (12, .int 1 :: u18.2)), (o, .inl (dA 3, 1, .inr (.inl u9)))] H := hP
      have hD : va_D A [(b 0, .inr (12, .int 1 :: u18.2)), (o, .inl (dA 3, 1, .inr (.inl u9)))] := hD
      refine lv_istore (lv' := [(7, .int r17), (6, .int 1), (5, .int 0), (4, .ref od), (3, .ref o), (2, .ref (b 0)), (1, .ref (a 0)), (0, .ref bs)]) hx hb dL_law_1297 hl (by decide) rfl (fun ls hl => ?_)
      refine lv_aload_n hx hb dL_law_1299 rfl (lv_at hl 5 rfl) ?_
      have hPc := hP.sub (ws' := [(b 0, .inr (12, .int 1 :: u18.2))]) [0] rfl
      have hDc := hD.sub (ws' := [(b 0, .inr (12, .int 1 :: u18.2))]) [0] (by decide) rfl
      have hFc := va_free (wc := [(b 0, .inr (12, .int 1 :: u18.2))]) hD hS hA [0] rfl
      refine va_calli (va_runV (As := []) (rest := []) ⟨hx, hb, hml, hown, hts⟩ (c_M_thrown l D dA E (b 0) 1 u18.2 H.size ) (cwV 0 hts (ga_V q470 q471 q468 q278 q469) rfl rfl rfl (by decide +kernel) ⟨(Nat.le_of_ble_eq_true rfl), (Nat.le_of_ble_eq_true rfl)⟩) ⟨pb_blind, va_recv hK hPc (ci := 12) (q0 := 0) rfl rfl, pb_pre hK hPc hDc hZ hS hFc _⟩ rfl rfl hl.1 rfl (lv_room (Nat.le_of_ble_eq_true rfl)) dL_law_1300 ⟨(Nat.le_of_ble_eq_true rfl), (Nat.le_of_ble_eq_true rfl)⟩) hS (fun q _ h => hFc q h) hFc (fun r u t H1 locs ht hvm hw hB hz1 hk1 hS => ?_)
      refine W.widen (k := 66) (n := 11784) (Nat.le_of_ble_eq_true rfl) (Nat.le_of_ble_eq_true rfl) ?_
      obtain ⟨r20, rfl⟩ : ∃ z, z = r := ⟨_, rfl⟩
      obtain ⟨u21, rfl⟩ : ∃ z, z = u := ⟨_, rfl⟩
      have hw22 := hw
      clear hw
      obtain ⟨hP, hD⟩ := jn_drop (wr := [(o, .inl (dA 3, 1, .inr (.inl u9)))]) hP hD [0] [1] rfl rfl (by decide) (by decide) hk1 hFc
      generalize H1 = H at hP hS ⊢
      have hP : va_P D vwCl [(o, .inl (dA 3, 1, .inr (.inl u9)))] H := hP
      have hD : va_D A [(o, .inl (dA 3, 1, .inr (.inl u9)))] := hD
      obtain rfl : r20 = 1 := hw22
      refine lv_iload hx hb dL_law_1303 (lv_at hl 1 rfl) ?_
      refine lv_icmp_eq (tgt := 1310) hx hb dL_law_1305 (by decide) (fun _ => ?_) (fun c23 => absurd (by decide) c23)
      refine lv_iload hx hb dL_law_1310 (lv_at hl 1 rfl) ?_
      refine lv_if_ne (tgt := 1327) hx hb dL_law_1312 (by decide) (fun _ => ?_) (fun c24 => absurd c24 (by decide))
      refine lv_goto (tgt := 2346) hx hb dL_law_1327 (by decide) ?_
      exact law_tail l C0 rfl (by rw [hAe]; exact hS) (Nat.le_of_ble_eq_true rfl) (Nat.le_of_ble_eq_true rfl) ls (lv_sub hl [7, 2] rfl)
    · obtain rfl : r8 = 2 := hk
      refine lv_istore (lv' := [(6, .int 2), (5, .int 0), (4, .ref od), (3, .ref o), (2, .ref (b 0)), (1, .ref (a 0)), (0, .ref bs)]) hx hb dL_law_1272 hl (by decide) rfl (fun ls hl => ?_)
      refine lv_aload_n hx hb dL_law_1274 rfl (lv_at hl 4 rfl) ?_
      refine lv_aload_n hx hb dL_law_1275 rfl (lv_at hl 6 rfl) ?_
      refine lv_iload hx hb dL_law_1276 (lv_at hl 1 rfl) ?_
      refine lv_iconst (v := 1) hx hb dL_law_1278 (by decide) ?_
      refine lv_iadd hx hb dL_law_1279 ?_
      refine lv_topi (fun x25 ex25 => ?_)
      replace ex25 : x25 = 1 := ex25.trans (by decide)
      subst ex25
      refine va_sld hx hb hX hbl hbA hS (vi_c (by decide)) dL_law_1280 ?_
      refine lv_topi (fun x26 ex26 => ?_)
      obtain rfl : x2 = x26 := ex2.trans ex26.symm
      refine lv_i2c (v := x3) hx hb dL_law_1281 ex3.symm ?_
      refine lv_aload_n hx hb dL_law_1282 rfl (lv_at hl 6 rfl) ?_
      refine lv_iload hx hb dL_law_1283 (lv_at hl 1 rfl) ?_
      refine lv_iconst (v := 2) hx hb dL_law_1285 (by decide) ?_
      refine lv_iadd hx hb dL_law_1286 ?_
      refine lv_topi (fun x27 ex27 => ?_)
      replace ex27 : x27 = 2 := ex27.trans (by decide)
      subst ex27
      refine va_sld hx hb hX hbl hbA hS (vi_c (by decide)) dL_law_1287 ?_
      refine lv_topi (fun x28 ex28 => ?_)
      obtain rfl : x5 = x28 := ex5.trans ex28.symm
      refine lv_aload_n hx hb dL_law_1288 rfl (lv_at hl 6 rfl) ?_
      refine lv_iload hx hb dL_law_1289 (lv_at hl 1 rfl) ?_
      refine lv_iconst (v := 3) hx hb dL_law_1291 (by decide) ?_
      refine lv_iadd hx hb dL_law_1292 ?_
      refine lv_topi (fun x29 ex29 => ?_)
      replace ex29 : x29 = 3 := ex29.trans (by decide)
      subst ex29
      refine va_sld hx hb hX hbl hbA hS (vi_c (by decide)) dL_law_1293 ?_
      refine lv_topi (fun x30 ex30 => ?_)
      obtain rfl : x7 = x30 := ex7.trans ex30.symm
      have hPc := hP.sub (ws' := [(b 0, .inr (12, [.int 0, .int 0, .ref (b 2), .ref (b 3), .ref (b 4), .int 0, .int 0, .int 0, .int 0, .ref (b 9), .int 0, .ref (b 11), .ref (b 12), .ref (b 13), .ref (b 14), .ref (b 15), .ref (b 16), .ref (b 17), .ref (b 18), .int 0, .ref (b 20), .int 0, .int 0, .int 0, .ref (b 24), .ref (b 25), .ref (b 26), .int 0, .int 0, .ref (b 29), .ref (b 30), .int 0, .ref (b 32), .ref (b 33), .ref (b 34), .ref (b 35), .ref (b 36), .ref (b 37), .int 0, .int 0, .ref (b 40), .ref (b 41), .ref (b 42), .ref (b 43), .ref (b 44), .int 0, .ref (b 46), .ref (b 47), .ref (b 48)]))]) [1] rfl
      have hDc := hD.sub (ws' := [(b 0, .inr (12, [.int 0, .int 0, .ref (b 2), .ref (b 3), .ref (b 4), .int 0, .int 0, .int 0, .int 0, .ref (b 9), .int 0, .ref (b 11), .ref (b 12), .ref (b 13), .ref (b 14), .ref (b 15), .ref (b 16), .ref (b 17), .ref (b 18), .int 0, .ref (b 20), .int 0, .int 0, .int 0, .ref (b 24), .ref (b 25), .ref (b 26), .int 0, .int 0, .ref (b 29), .ref (b 30), .int 0, .ref (b 32), .ref (b 33), .ref (b 34), .ref (b 35), .ref (b 36), .ref (b 37), .int 0, .int 0, .ref (b 40), .ref (b 41), .ref (b 42), .ref (b 43), .ref (b 44), .int 0, .ref (b 46), .ref (b 47), .ref (b 48)]))]) [1] (by decide) rfl
      have hFc := va_free (wc := [(b 0, .inr (12, [.int 0, .int 0, .ref (b 2), .ref (b 3), .ref (b 4), .int 0, .int 0, .int 0, .int 0, .ref (b 9), .int 0, .ref (b 11), .ref (b 12), .ref (b 13), .ref (b 14), .ref (b 15), .ref (b 16), .ref (b 17), .ref (b 18), .int 0, .ref (b 20), .int 0, .int 0, .int 0, .ref (b 24), .ref (b 25), .ref (b 26), .int 0, .int 0, .ref (b 29), .ref (b 30), .int 0, .ref (b 32), .ref (b 33), .ref (b 34), .ref (b 35), .ref (b 36), .ref (b 37), .int 0, .int 0, .ref (b 40), .ref (b 41), .ref (b 42), .ref (b 43), .ref (b 44), .int 0, .ref (b 46), .ref (b 47), .ref (b 48)]))]) hD hS hA [1] rfl
      refine va_calli (va_runV (As := [.int x3, .int x5, .int x7]) (rest := []) ⟨hx, hb, hml, hown, hts⟩ (c_M_join l D dA E b x3 x5 x7 H.size ) (cwV 3 hts (ga_V q622 q623 q620 q278 q621) rfl rfl rfl (by decide +kernel) ⟨(Nat.le_of_ble_eq_true rfl), (Nat.le_of_ble_eq_true rfl)⟩) ⟨pb_blind, va_recv hK hPc (ci := 12) (q0 := 0) rfl rfl, pb_pre hK hPc hDc hZ hS hFc _⟩ rfl rfl hl.1 rfl (lv_room (Nat.le_of_ble_eq_true rfl)) dL_law_1294 ⟨(Nat.le_of_ble_eq_true rfl), (Nat.le_of_ble_eq_true rfl)⟩) hS (fun q _ h => hFc q h) hFc (fun r u t H1 locs ht hvm hw hB hz1 hk1 hS => ?_)
      refine W.widen (k := 66) (n := 11784) (Nat.le_of_ble_eq_true rfl) (Nat.le_of_ble_eq_true rfl) ?_
      obtain ⟨r31, rfl⟩ : ∃ z, z = r := ⟨_, rfl⟩
      obtain ⟨u32, rfl⟩ : ∃ z, z = u := ⟨_, rfl⟩
      have hw33 := hw
      clear hw
      obtain ⟨hP1, hD1⟩ := hB
      rw [ht] at hP1
      obtain ⟨hP, hD⟩ := va_join (wr := [(o, .inl (dA 3, 1, .inr (.inl u9)))]) (w1 := [(b 0, .inr (12, .int u32.1 :: u32.2))]) hP hD [1] [0] rfl rfl (by decide) (by decide) hk1 hFc hP1 hD1
      generalize H1 = H at hP hS ⊢
      have hP : va_P D vwCl [(o, .inl (dA 3, 1, .inr (.inl u9))), (b 0, .inr (12, .int u32.1 :: u32.2))] H := hP
      have hD : va_D A [(o, .inl (dA 3, 1, .inr (.inl u9))), (b 0, .inr (12, .int u32.1 :: u32.2))] := hD
      have hP := hP.sub (ws' := [(b 0, .inr (12, .int u32.1 :: u32.2)), (o, .inl (dA 3, 1, .inr (.inl u9)))]) [1, 0] rfl
      have hD := hD.sub (ws' := [(b 0, .inr (12, .int u32.1 :: u32.2)), (o, .inl (dA 3, 1, .inr (.inl u9)))]) [1, 0] (by decide) rfl
      have hm : u32.1 = 2 := by
        rcases hw33 with h9 | h9
        · exact absurd (hq.symm.trans h9.1) (by decide)
        · exact h9.2
      rw [hm] at hP hD
      have hP : va_P D vwCl [(b 0, .inr (12, .int 2 :: u32.2)), (o, .inl (dA 3, 1, .inr (.inl u9)))] H := hP
      have hD : va_D A [(b 0, .inr (12, .int 2 :: u32.2)), (o, .inl (dA 3, 1, .inr (.inl u9)))] := hD
      refine lv_istore (lv' := [(7, .int r31), (6, .int 2), (5, .int 0), (4, .ref od), (3, .ref o), (2, .ref (b 0)), (1, .ref (a 0)), (0, .ref bs)]) hx hb dL_law_1297 hl (by decide) rfl (fun ls hl => ?_)
      refine lv_aload_n hx hb dL_law_1299 rfl (lv_at hl 5 rfl) ?_
      have hPc := hP.sub (ws' := [(b 0, .inr (12, .int 2 :: u32.2))]) [0] rfl
      have hDc := hD.sub (ws' := [(b 0, .inr (12, .int 2 :: u32.2))]) [0] (by decide) rfl
      have hFc := va_free (wc := [(b 0, .inr (12, .int 2 :: u32.2))]) hD hS hA [0] rfl
      refine va_calli (va_runV (As := []) (rest := []) ⟨hx, hb, hml, hown, hts⟩ (c_M_thrown l D dA E (b 0) 2 u32.2 H.size ) (cwV 0 hts (ga_V q470 q471 q468 q278 q469) rfl rfl rfl (by decide +kernel) ⟨(Nat.le_of_ble_eq_true rfl), (Nat.le_of_ble_eq_true rfl)⟩) ⟨pb_blind, va_recv hK hPc (ci := 12) (q0 := 0) rfl rfl, pb_pre hK hPc hDc hZ hS hFc _⟩ rfl rfl hl.1 rfl (lv_room (Nat.le_of_ble_eq_true rfl)) dL_law_1300 ⟨(Nat.le_of_ble_eq_true rfl), (Nat.le_of_ble_eq_true rfl)⟩) hS (fun q _ h => hFc q h) hFc (fun r u t H1 locs ht hvm hw hB hz1 hk1 hS => ?_)
      refine W.widen (k := 66) (n := 11784) (Nat.le_of_ble_eq_true rfl) (Nat.le_of_ble_eq_true rfl) ?_
      obtain ⟨r34, rfl⟩ : ∃ z, z = r := ⟨_, rfl⟩
      obtain ⟨u35, rfl⟩ : ∃ z, z = u := ⟨_, rfl⟩
      have hw36 := hw
      clear hw
      obtain ⟨hP, hD⟩ := jn_drop (wr := [(o, .inl (dA 3, 1, .inr (.inl u9)))]) hP hD [0] [1] rfl rfl (by decide) (by decide) hk1 hFc
      generalize H1 = H at hP hS ⊢
      have hP : va_P D vwCl [(o, .inl (dA 3, 1, .inr (.inl u9)))] H := hP
      have hD : va_D A [(o, .inl (dA 3, 1, .inr (.inl u9)))] := hD
      obtain rfl : r34 = 2 := hw36
      refine lv_iload hx hb dL_law_1303 (lv_at hl 1 rfl) ?_
      refine lv_icmp_eq (tgt := 1310) hx hb dL_law_1305 (by decide) (fun _ => ?_) (fun c37 => absurd (by decide) c37)
      refine lv_iload hx hb dL_law_1310 (lv_at hl 1 rfl) ?_
      refine lv_if_ne (tgt := 1327) hx hb dL_law_1312 (by decide) (fun _ => ?_) (fun c38 => absurd c38 (by decide))
      refine lv_goto (tgt := 2346) hx hb dL_law_1327 (by decide) ?_
      exact law_tail l C0 rfl (by rw [hAe]; exact hS) (Nat.le_of_ble_eq_true rfl) (Nat.le_of_ble_eq_true rfl) ls (lv_sub hl [7, 2] rfl)

set_option maxHeartbeats 4000000 in
set_option maxRecDepth 100000 in
/-- the law at hits -/
theorem law_22 {p : Program} {e : Env} {s : State} {m : MethodId} {below : List Frame} {meth : Method} {c : Code} (l : Launch) (hlt : l.stackTraces = false) {bs L : Nat} {xs : Nat → Int32} (C0 : lw_At p s m meth c bs L xs) (hL6 : L = 6) (D : va_G) (dA : Nat → ClassId) (E : Nat) (A : Nat → Prop) (hAe : (fun q : Nat => s.heap.size ≤ q) = A) (a b : Nat → Nat) (o od : Nat) (hK : va_K D vwCl (TY dA) s) (hZ : ZZ dA E A s s.heap) (H : Heap) (locs : List Loc) (hP : va_P D vwCl [(a 0, .inr (11, [.ref (a 1), .ref (a 2), .ref (a 3), .ref (a 4), .ref (a 5), .ref (a 10), .ref (a 15), .ref (a 17), .null, .int 0, .int 0, .int 0])), (a 3, .inr (2, [.int 0, .ref E, .int 0])), (o, .inl (dA 3, 1, .inr (.inl (fun _ => 0)))), (b 0, .inr (12, [.int 0, .int 0, .ref (b 2), .ref (b 3), .ref (b 4), .int 0, .int 0, .int 0, .int 0, .ref (b 9), .int 0, .ref (b 11), .ref (b 12), .ref (b 13), .ref (b 14), .ref (b 15), .ref (b 16), .ref (b 17), .ref (b 18), .int 0, .ref (b 20), .int 0, .int 0, .int 0, .ref (b 24), .ref (b 25), .ref (b 26), .int 0, .int 0, .ref (b 29), .ref (b 30), .int 0, .ref (b 32), .ref (b 33), .ref (b 34), .ref (b 35), .ref (b 36), .ref (b 37), .int 0, .int 0, .ref (b 40), .ref (b 41), .ref (b 42), .ref (b 43), .ref (b 44), .int 0, .ref (b 46), .ref (b 47), .ref (b 48)]))] H) (hD : va_D A [(a 0, .inr (11, [.ref (a 1), .ref (a 2), .ref (a 3), .ref (a 4), .ref (a 5), .ref (a 10), .ref (a 15), .ref (a 17), .null, .int 0, .int 0, .int 0])), (a 3, .inr (2, [.int 0, .ref E, .int 0])), (o, .inl (dA 3, 1, .inr (.inl (fun _ => 0)))), (b 0, .inr (12, [.int 0, .int 0, .ref (b 2), .ref (b 3), .ref (b 4), .int 0, .int 0, .int 0, .int 0, .ref (b 9), .int 0, .ref (b 11), .ref (b 12), .ref (b 13), .ref (b 14), .ref (b 15), .ref (b 16), .ref (b 17), .ref (b 18), .int 0, .ref (b 20), .int 0, .int 0, .int 0, .ref (b 24), .ref (b 25), .ref (b 26), .int 0, .int 0, .ref (b 29), .ref (b 30), .int 0, .ref (b 32), .ref (b 33), .ref (b 34), .ref (b 35), .ref (b 36), .ref (b 37), .int 0, .int 0, .ref (b 40), .ref (b 41), .ref (b 42), .ref (b 43), .ref (b 44), .int 0, .ref (b 46), .ref (b 47), .ref (b 48)]))]) (hS : va_S A s.heap H locs) (ls : Array Slot) (hl : lv_has ls 9 [(5, .int 0), (4, .ref od), (3, .ref o), (2, .ref (b 0)), (1, .ref (a 0)), (0, .ref bs)]) : W p l e room_1 s m #[Value.ref bs] below meth c H locs 65 11778 (lw_Z below #[Value.ref bs] s) (F0 m 1330 ls []) := by
  subst hL6
  obtain ⟨hx, hb, hr, hml, hown, hts0, hX, hbl, hlocks, hgv⟩ := id C0
  have hts : ∀ w ∈ WA, w.before #[Value.ref bs] s = true := fun w h => hts0 w (WA_tbl h)
  have hA : ∀ q : Nat, s.heap.size ≤ q → A q := fun q h => by rw [← hAe]; exact h
  have hbA : ¬ A bs := by rw [← hAe]; exact Nat.not_le.mpr hbl
  refine lv_aload_n hx hb dL_law_1330 rfl (lv_at hl 4 rfl) ?_
  refine lv_aload_n hx hb dL_law_1331 rfl (lv_at hl 5 rfl) ?_
  refine lv_iload hx hb dL_law_1332 (lv_at hl 0 rfl) ?_
  refine lv_iconst (v := 1) hx hb dL_law_1334 (by decide) ?_
  refine lv_iadd hx hb dL_law_1335 ?_
  refine lv_topi (fun x1 ex1 => ?_)
  replace ex1 : x1 = 1 := ex1.trans (by decide)
  subst ex1
  refine va_sld hx hb hX hbl hbA hS (vi_c (by decide)) dL_law_1336 ?_
  refine lv_topi (fun x2 ex2 => ?_)
  refine lv_aload_n hx hb dL_law_1337 rfl (lv_at hl 5 rfl) ?_
  refine lv_iload hx hb dL_law_1338 (lv_at hl 0 rfl) ?_
  refine lv_iconst (v := 2) hx hb dL_law_1340 (by decide) ?_
  refine lv_iadd hx hb dL_law_1341 ?_
  refine lv_topi (fun x3 ex3 => ?_)
  replace ex3 : x3 = 2 := ex3.trans (by decide)
  subst ex3
  refine va_sld hx hb hX hbl hbA hS (vi_c (by decide)) dL_law_1342 ?_
  refine lv_topi (fun x4 ex4 => ?_)
  refine lv_aload_n hx hb dL_law_1343 rfl (lv_at hl 2 rfl) ?_
  have hPc := hP.sub (ws' := [(a 0, .inr (11, [.ref (a 1), .ref (a 2), .ref (a 3), .ref (a 4), .ref (a 5), .ref (a 10), .ref (a 15), .ref (a 17), .null, .int 0, .int 0, .int 0])), (a 3, .inr (2, [.int 0, .ref E, .int 0])), (o, .inl (dA 3, 1, .inr (.inl (fun _ => 0))))]) [0, 1, 2] rfl
  have hDc := hD.sub (ws' := [(a 0, .inr (11, [.ref (a 1), .ref (a 2), .ref (a 3), .ref (a 4), .ref (a 5), .ref (a 10), .ref (a 15), .ref (a 17), .null, .int 0, .int 0, .int 0])), (a 3, .inr (2, [.int 0, .ref E, .int 0])), (o, .inl (dA 3, 1, .inr (.inl (fun _ => 0))))]) [0, 1, 2] (by decide) rfl
  have hFc := va_free (wc := [(a 0, .inr (11, [.ref (a 1), .ref (a 2), .ref (a 3), .ref (a 4), .ref (a 5), .ref (a 10), .ref (a 15), .ref (a 17), .null, .int 0, .int 0, .int 0])), (a 3, .inr (2, [.int 0, .ref E, .int 0])), (o, .inl (dA 3, 1, .inr (.inl (fun _ => 0))))]) hD hS hA [0, 1, 2] rfl
  refine vx_calli (vx_runSX (As := [.ref (a 0), .int x2, .int x4, .ref o]) (rest := []) ⟨hx, hb, hml, hown, hts⟩ (c_L_hits l hlt D dA E a o (fun _ => 0) x2 x4 H.size ) (vx_cwSW 4 hts (ga_S q625 q626 q463 q624) rfl rfl rfl (by decide +kernel) ⟨(Nat.le_of_ble_eq_true rfl), (Nat.le_of_ble_eq_true rfl)⟩) ⟨pb_blind, pb_pre hK hPc hDc hZ hS hFc _⟩ rfl rfl hl.1 rfl (lv_room (Nat.le_of_ble_eq_true rfl)) dL_law_1344 ⟨(Nat.le_of_ble_eq_true rfl), (Nat.le_of_ble_eq_true rfl)⟩) hS (fun q _ h => hFc q h) hFc (fun q _ h => hFc q h) (fun E9 ce q9 k t H1 locs ht hvm hpx hBX hz1 hk1 hS hce hcv hcl => ?_) (fun r u t H1 locs ht hvm hw hB hz1 hk1 hS => ?_)
  · exact hpx.elim
  · refine W.widen (k := 66) (n := 11784) (Nat.le_of_ble_eq_true rfl) (Nat.le_of_ble_eq_true rfl) ?_
    obtain ⟨r5, rfl⟩ : ∃ z, z = r := ⟨_, rfl⟩
    obtain ⟨u6, rfl⟩ : ∃ z, z = u := ⟨_, rfl⟩
    have hw7 := hw
    clear hw
    obtain ⟨hP1, hD1⟩ := hB
    rw [ht] at hP1
    obtain ⟨hP, hD⟩ := va_join (wr := [(b 0, .inr (12, [.int 0, .int 0, .ref (b 2), .ref (b 3), .ref (b 4), .int 0, .int 0, .int 0, .int 0, .ref (b 9), .int 0, .ref (b 11), .ref (b 12), .ref (b 13), .ref (b 14), .ref (b 15), .ref (b 16), .ref (b 17), .ref (b 18), .int 0, .ref (b 20), .int 0, .int 0, .int 0, .ref (b 24), .ref (b 25), .ref (b 26), .int 0, .int 0, .ref (b 29), .ref (b 30), .int 0, .ref (b 32), .ref (b 33), .ref (b 34), .ref (b 35), .ref (b 36), .ref (b 37), .int 0, .int 0, .ref (b 40), .ref (b 41), .ref (b 42), .ref (b 43), .ref (b 44), .int 0, .ref (b 46), .ref (b 47), .ref (b 48)]))]) (w1 := [(o, .inl (dA 3, 1, .inr (.inl u6)))]) hP hD [0, 1, 2] [3] rfl rfl (by decide) (by decide) hk1 hFc hP1 hD1
    generalize H1 = H at hP hS ⊢
    have hP : va_P D vwCl [(b 0, .inr (12, [.int 0, .int 0, .ref (b 2), .ref (b 3), .ref (b 4), .int 0, .int 0, .int 0, .int 0, .ref (b 9), .int 0, .ref (b 11), .ref (b 12), .ref (b 13), .ref (b 14), .ref (b 15), .ref (b 16), .ref (b 17), .ref (b 18), .int 0, .ref (b 20), .int 0, .int 0, .int 0, .ref (b 24), .ref (b 25), .ref (b 26), .int 0, .int 0, .ref (b 29), .ref (b 30), .int 0, .ref (b 32), .ref (b 33), .ref (b 34), .ref (b 35), .ref (b 36), .ref (b 37), .int 0, .int 0, .ref (b 40), .ref (b 41), .ref (b 42), .ref (b 43), .ref (b 44), .int 0, .ref (b 46), .ref (b 47), .ref (b 48)])), (o, .inl (dA 3, 1, .inr (.inl u6)))] H := hP
    have hD : va_D A [(b 0, .inr (12, [.int 0, .int 0, .ref (b 2), .ref (b 3), .ref (b 4), .int 0, .int 0, .int 0, .int 0, .ref (b 9), .int 0, .ref (b 11), .ref (b 12), .ref (b 13), .ref (b 14), .ref (b 15), .ref (b 16), .ref (b 17), .ref (b 18), .int 0, .ref (b 20), .int 0, .int 0, .int 0, .ref (b 24), .ref (b 25), .ref (b 26), .int 0, .int 0, .ref (b 29), .ref (b 30), .int 0, .ref (b 32), .ref (b 33), .ref (b 34), .ref (b 35), .ref (b 36), .ref (b 37), .int 0, .int 0, .ref (b 40), .ref (b 41), .ref (b 42), .ref (b 43), .ref (b 44), .int 0, .ref (b 46), .ref (b 47), .ref (b 48)])), (o, .inl (dA 3, 1, .inr (.inl u6)))] := hD
    have hP := hP.sub (ws' := [(o, .inl (dA 3, 1, .inr (.inl u6))), (b 0, .inr (12, [.int 0, .int 0, .ref (b 2), .ref (b 3), .ref (b 4), .int 0, .int 0, .int 0, .int 0, .ref (b 9), .int 0, .ref (b 11), .ref (b 12), .ref (b 13), .ref (b 14), .ref (b 15), .ref (b 16), .ref (b 17), .ref (b 18), .int 0, .ref (b 20), .int 0, .int 0, .int 0, .ref (b 24), .ref (b 25), .ref (b 26), .int 0, .int 0, .ref (b 29), .ref (b 30), .int 0, .ref (b 32), .ref (b 33), .ref (b 34), .ref (b 35), .ref (b 36), .ref (b 37), .int 0, .int 0, .ref (b 40), .ref (b 41), .ref (b 42), .ref (b 43), .ref (b 44), .int 0, .ref (b 46), .ref (b 47), .ref (b 48)]))]) [1, 0] rfl
    have hD := hD.sub (ws' := [(o, .inl (dA 3, 1, .inr (.inl u6))), (b 0, .inr (12, [.int 0, .int 0, .ref (b 2), .ref (b 3), .ref (b 4), .int 0, .int 0, .int 0, .int 0, .ref (b 9), .int 0, .ref (b 11), .ref (b 12), .ref (b 13), .ref (b 14), .ref (b 15), .ref (b 16), .ref (b 17), .ref (b 18), .int 0, .ref (b 20), .int 0, .int 0, .int 0, .ref (b 24), .ref (b 25), .ref (b 26), .int 0, .int 0, .ref (b 29), .ref (b 30), .int 0, .ref (b 32), .ref (b 33), .ref (b 34), .ref (b 35), .ref (b 36), .ref (b 37), .int 0, .int 0, .ref (b 40), .ref (b 41), .ref (b 42), .ref (b 43), .ref (b 44), .int 0, .ref (b 46), .ref (b 47), .ref (b 48)]))]) [1, 0] (by decide) rfl
    have hk := hw7
    obtain rfl : r5 = 1 := hk
    refine lv_istore (lv' := [(6, .int 1), (5, .int 0), (4, .ref od), (3, .ref o), (2, .ref (b 0)), (1, .ref (a 0)), (0, .ref bs)]) hx hb dL_law_1347 hl (by decide) rfl (fun ls hl => ?_)
    refine lv_aload_n hx hb dL_law_1349 rfl (lv_at hl 4 rfl) ?_
    refine lv_aload_n hx hb dL_law_1350 rfl (lv_at hl 6 rfl) ?_
    refine lv_iload hx hb dL_law_1351 (lv_at hl 1 rfl) ?_
    refine lv_iconst (v := 1) hx hb dL_law_1353 (by decide) ?_
    refine lv_iadd hx hb dL_law_1354 ?_
    refine lv_topi (fun x8 ex8 => ?_)
    replace ex8 : x8 = 1 := ex8.trans (by decide)
    subst ex8
    refine va_sld hx hb hX hbl hbA hS (vi_c (by decide)) dL_law_1355 ?_
    refine lv_topi (fun x9 ex9 => ?_)
    obtain rfl : x2 = x9 := ex2.trans ex9.symm
    refine lv_aload_n hx hb dL_law_1356 rfl (lv_at hl 6 rfl) ?_
    refine lv_iload hx hb dL_law_1357 (lv_at hl 1 rfl) ?_
    refine lv_iconst (v := 2) hx hb dL_law_1359 (by decide) ?_
    refine lv_iadd hx hb dL_law_1360 ?_
    refine lv_topi (fun x10 ex10 => ?_)
    replace ex10 : x10 = 2 := ex10.trans (by decide)
    subst ex10
    refine va_sld hx hb hX hbl hbA hS (vi_c (by decide)) dL_law_1361 ?_
    refine lv_topi (fun x11 ex11 => ?_)
    obtain rfl : x4 = x11 := ex4.trans ex11.symm
    have hPc := hP.sub (ws' := [(b 0, .inr (12, [.int 0, .int 0, .ref (b 2), .ref (b 3), .ref (b 4), .int 0, .int 0, .int 0, .int 0, .ref (b 9), .int 0, .ref (b 11), .ref (b 12), .ref (b 13), .ref (b 14), .ref (b 15), .ref (b 16), .ref (b 17), .ref (b 18), .int 0, .ref (b 20), .int 0, .int 0, .int 0, .ref (b 24), .ref (b 25), .ref (b 26), .int 0, .int 0, .ref (b 29), .ref (b 30), .int 0, .ref (b 32), .ref (b 33), .ref (b 34), .ref (b 35), .ref (b 36), .ref (b 37), .int 0, .int 0, .ref (b 40), .ref (b 41), .ref (b 42), .ref (b 43), .ref (b 44), .int 0, .ref (b 46), .ref (b 47), .ref (b 48)]))]) [1] rfl
    have hDc := hD.sub (ws' := [(b 0, .inr (12, [.int 0, .int 0, .ref (b 2), .ref (b 3), .ref (b 4), .int 0, .int 0, .int 0, .int 0, .ref (b 9), .int 0, .ref (b 11), .ref (b 12), .ref (b 13), .ref (b 14), .ref (b 15), .ref (b 16), .ref (b 17), .ref (b 18), .int 0, .ref (b 20), .int 0, .int 0, .int 0, .ref (b 24), .ref (b 25), .ref (b 26), .int 0, .int 0, .ref (b 29), .ref (b 30), .int 0, .ref (b 32), .ref (b 33), .ref (b 34), .ref (b 35), .ref (b 36), .ref (b 37), .int 0, .int 0, .ref (b 40), .ref (b 41), .ref (b 42), .ref (b 43), .ref (b 44), .int 0, .ref (b 46), .ref (b 47), .ref (b 48)]))]) [1] (by decide) rfl
    have hFc := va_free (wc := [(b 0, .inr (12, [.int 0, .int 0, .ref (b 2), .ref (b 3), .ref (b 4), .int 0, .int 0, .int 0, .int 0, .ref (b 9), .int 0, .ref (b 11), .ref (b 12), .ref (b 13), .ref (b 14), .ref (b 15), .ref (b 16), .ref (b 17), .ref (b 18), .int 0, .ref (b 20), .int 0, .int 0, .int 0, .ref (b 24), .ref (b 25), .ref (b 26), .int 0, .int 0, .ref (b 29), .ref (b 30), .int 0, .ref (b 32), .ref (b 33), .ref (b 34), .ref (b 35), .ref (b 36), .ref (b 37), .int 0, .int 0, .ref (b 40), .ref (b 41), .ref (b 42), .ref (b 43), .ref (b 44), .int 0, .ref (b 46), .ref (b 47), .ref (b 48)]))]) hD hS hA [1] rfl
    refine va_calli (va_runV (As := [.int x2, .int x4]) (rest := []) ⟨hx, hb, hml, hown, hts⟩ (c_M_hits l D dA E b x2 x4 H.size ) (cwV 2 hts (ga_V q629 q630 q627 q278 q628) rfl rfl rfl (by decide +kernel) ⟨(Nat.le_of_ble_eq_true rfl), (Nat.le_of_ble_eq_true rfl)⟩) ⟨pb_blind, va_recv hK hPc (ci := 12) (q0 := 0) rfl rfl, pb_pre hK hPc hDc hZ hS hFc _⟩ rfl rfl hl.1 rfl (lv_room (Nat.le_of_ble_eq_true rfl)) dL_law_1362 ⟨(Nat.le_of_ble_eq_true rfl), (Nat.le_of_ble_eq_true rfl)⟩) hS (fun q _ h => hFc q h) hFc (fun r u t H1 locs ht hvm hw hB hz1 hk1 hS => ?_)
    refine W.widen (k := 66) (n := 11784) (Nat.le_of_ble_eq_true rfl) (Nat.le_of_ble_eq_true rfl) ?_
    obtain ⟨r12, rfl⟩ : ∃ z, z = r := ⟨_, rfl⟩
    obtain ⟨u13, rfl⟩ : ∃ z, z = u := ⟨_, rfl⟩
    have hw14 := hw
    clear hw
    obtain ⟨hP1, hD1⟩ := hB
    rw [ht] at hP1
    obtain ⟨hP, hD⟩ := va_join (wr := [(o, .inl (dA 3, 1, .inr (.inl u6)))]) (w1 := [(b 0, .inr (12, .int u13.1 :: u13.2))]) hP hD [1] [0] rfl rfl (by decide) (by decide) hk1 hFc hP1 hD1
    generalize H1 = H at hP hS ⊢
    have hP : va_P D vwCl [(o, .inl (dA 3, 1, .inr (.inl u6))), (b 0, .inr (12, .int u13.1 :: u13.2))] H := hP
    have hD : va_D A [(o, .inl (dA 3, 1, .inr (.inl u6))), (b 0, .inr (12, .int u13.1 :: u13.2))] := hD
    have hP := hP.sub (ws' := [(b 0, .inr (12, .int u13.1 :: u13.2)), (o, .inl (dA 3, 1, .inr (.inl u6)))]) [1, 0] rfl
    have hD := hD.sub (ws' := [(b 0, .inr (12, .int u13.1 :: u13.2)), (o, .inl (dA 3, 1, .inr (.inl u6)))]) [1, 0] (by decide) rfl
    have hm : u13.1 = 1 := hw14
    rw [hm] at hP hD
    have hP : va_P D vwCl [(b 0, .inr (12, .int 1 :: u13.2)), (o, .inl (dA 3, 1, .inr (.inl u6)))] H := hP
    have hD : va_D A [(b 0, .inr (12, .int 1 :: u13.2)), (o, .inl (dA 3, 1, .inr (.inl u6)))] := hD
    refine lv_istore (lv' := [(7, .int r12), (6, .int 1), (5, .int 0), (4, .ref od), (3, .ref o), (2, .ref (b 0)), (1, .ref (a 0)), (0, .ref bs)]) hx hb dL_law_1365 hl (by decide) rfl (fun ls hl => ?_)
    refine lv_aload_n hx hb dL_law_1367 rfl (lv_at hl 5 rfl) ?_
    have hPc := hP.sub (ws' := [(b 0, .inr (12, .int 1 :: u13.2))]) [0] rfl
    have hDc := hD.sub (ws' := [(b 0, .inr (12, .int 1 :: u13.2))]) [0] (by decide) rfl
    have hFc := va_free (wc := [(b 0, .inr (12, .int 1 :: u13.2))]) hD hS hA [0] rfl
    refine va_calli (va_runV (As := []) (rest := []) ⟨hx, hb, hml, hown, hts⟩ (c_M_thrown l D dA E (b 0) 1 u13.2 H.size ) (cwV 0 hts (ga_V q470 q471 q468 q278 q469) rfl rfl rfl (by decide +kernel) ⟨(Nat.le_of_ble_eq_true rfl), (Nat.le_of_ble_eq_true rfl)⟩) ⟨pb_blind, va_recv hK hPc (ci := 12) (q0 := 0) rfl rfl, pb_pre hK hPc hDc hZ hS hFc _⟩ rfl rfl hl.1 rfl (lv_room (Nat.le_of_ble_eq_true rfl)) dL_law_1368 ⟨(Nat.le_of_ble_eq_true rfl), (Nat.le_of_ble_eq_true rfl)⟩) hS (fun q _ h => hFc q h) hFc (fun r u t H1 locs ht hvm hw hB hz1 hk1 hS => ?_)
    refine W.widen (k := 66) (n := 11784) (Nat.le_of_ble_eq_true rfl) (Nat.le_of_ble_eq_true rfl) ?_
    obtain ⟨r15, rfl⟩ : ∃ z, z = r := ⟨_, rfl⟩
    obtain ⟨u16, rfl⟩ : ∃ z, z = u := ⟨_, rfl⟩
    have hw17 := hw
    clear hw
    obtain ⟨hP, hD⟩ := jn_drop (wr := [(o, .inl (dA 3, 1, .inr (.inl u6)))]) hP hD [0] [1] rfl rfl (by decide) (by decide) hk1 hFc
    generalize H1 = H at hP hS ⊢
    have hP : va_P D vwCl [(o, .inl (dA 3, 1, .inr (.inl u6)))] H := hP
    have hD : va_D A [(o, .inl (dA 3, 1, .inr (.inl u6)))] := hD
    obtain rfl : r15 = 1 := hw17
    refine lv_iload hx hb dL_law_1371 (lv_at hl 1 rfl) ?_
    refine lv_icmp_eq (tgt := 1378) hx hb dL_law_1373 (by decide) (fun _ => ?_) (fun c18 => absurd (by decide) c18)
    refine lv_iload hx hb dL_law_1378 (lv_at hl 1 rfl) ?_
    refine lv_if_ne (tgt := 1395) hx hb dL_law_1380 (by decide) (fun _ => ?_) (fun c19 => absurd c19 (by decide))
    refine lv_goto (tgt := 2346) hx hb dL_law_1395 (by decide) ?_
    exact law_tail l C0 rfl (by rw [hAe]; exact hS) (Nat.le_of_ble_eq_true rfl) (Nat.le_of_ble_eq_true rfl) ls (lv_sub hl [7, 2] rfl)

set_option maxHeartbeats 4000000 in
set_option maxRecDepth 100000 in
/-- the law at hit -/
theorem law_23 {p : Program} {e : Env} {s : State} {m : MethodId} {below : List Frame} {meth : Method} {c : Code} (l : Launch) (hlt : l.stackTraces = false) {bs L : Nat} {xs : Nat → Int32} (C0 : lw_At p s m meth c bs L xs) (hL6 : L = 6) (D : va_G) (dA : Nat → ClassId) (E : Nat) (A : Nat → Prop) (hAe : (fun q : Nat => s.heap.size ≤ q) = A) (a b : Nat → Nat) (o od : Nat) (hK : va_K D vwCl (TY dA) s) (hZ : ZZ dA E A s s.heap) (H : Heap) (locs : List Loc) (hP : va_P D vwCl [(a 0, .inr (11, [.ref (a 1), .ref (a 2), .ref (a 3), .ref (a 4), .ref (a 5), .ref (a 10), .ref (a 15), .ref (a 17), .null, .int 0, .int 0, .int 0])), (a 3, .inr (2, [.int 0, .ref E, .int 0])), (o, .inl (dA 3, 1, .inr (.inl (fun _ => 0)))), (b 0, .inr (12, [.int 0, .int 0, .ref (b 2), .ref (b 3), .ref (b 4), .int 0, .int 0, .int 0, .int 0, .ref (b 9), .int 0, .ref (b 11), .ref (b 12), .ref (b 13), .ref (b 14), .ref (b 15), .ref (b 16), .ref (b 17), .ref (b 18), .int 0, .ref (b 20), .int 0, .int 0, .int 0, .ref (b 24), .ref (b 25), .ref (b 26), .int 0, .int 0, .ref (b 29), .ref (b 30), .int 0, .ref (b 32), .ref (b 33), .ref (b 34), .ref (b 35), .ref (b 36), .ref (b 37), .int 0, .int 0, .ref (b 40), .ref (b 41), .ref (b 42), .ref (b 43), .ref (b 44), .int 0, .ref (b 46), .ref (b 47), .ref (b 48)]))] H) (hD : va_D A [(a 0, .inr (11, [.ref (a 1), .ref (a 2), .ref (a 3), .ref (a 4), .ref (a 5), .ref (a 10), .ref (a 15), .ref (a 17), .null, .int 0, .int 0, .int 0])), (a 3, .inr (2, [.int 0, .ref E, .int 0])), (o, .inl (dA 3, 1, .inr (.inl (fun _ => 0)))), (b 0, .inr (12, [.int 0, .int 0, .ref (b 2), .ref (b 3), .ref (b 4), .int 0, .int 0, .int 0, .int 0, .ref (b 9), .int 0, .ref (b 11), .ref (b 12), .ref (b 13), .ref (b 14), .ref (b 15), .ref (b 16), .ref (b 17), .ref (b 18), .int 0, .ref (b 20), .int 0, .int 0, .int 0, .ref (b 24), .ref (b 25), .ref (b 26), .int 0, .int 0, .ref (b 29), .ref (b 30), .int 0, .ref (b 32), .ref (b 33), .ref (b 34), .ref (b 35), .ref (b 36), .ref (b 37), .int 0, .int 0, .ref (b 40), .ref (b 41), .ref (b 42), .ref (b 43), .ref (b 44), .int 0, .ref (b 46), .ref (b 47), .ref (b 48)]))]) (hS : va_S A s.heap H locs) (ls : Array Slot) (hl : lv_has ls 9 [(5, .int 0), (4, .ref od), (3, .ref o), (2, .ref (b 0)), (1, .ref (a 0)), (0, .ref bs)]) : W p l e room_1 s m #[Value.ref bs] below meth c H locs 65 11778 (lw_Z below #[Value.ref bs] s) (F0 m 1398 ls []) := by
  subst hL6
  obtain ⟨hx, hb, hr, hml, hown, hts0, hX, hbl, hlocks, hgv⟩ := id C0
  have hts : ∀ w ∈ WA, w.before #[Value.ref bs] s = true := fun w h => hts0 w (WA_tbl h)
  have hA : ∀ q : Nat, s.heap.size ≤ q → A q := fun q h => by rw [← hAe]; exact h
  have hbA : ¬ A bs := by rw [← hAe]; exact Nat.not_le.mpr hbl
  refine lv_aload_n hx hb dL_law_1398 rfl (lv_at hl 4 rfl) ?_
  refine lv_aload_n hx hb dL_law_1399 rfl (lv_at hl 5 rfl) ?_
  refine lv_iload hx hb dL_law_1400 (lv_at hl 0 rfl) ?_
  refine lv_iconst (v := 1) hx hb dL_law_1402 (by decide) ?_
  refine lv_iadd hx hb dL_law_1403 ?_
  refine lv_topi (fun x1 ex1 => ?_)
  replace ex1 : x1 = 1 := ex1.trans (by decide)
  subst ex1
  refine va_sld hx hb hX hbl hbA hS (vi_c (by decide)) dL_law_1404 ?_
  refine lv_topi (fun x2 ex2 => ?_)
  refine lv_aload_n hx hb dL_law_1405 rfl (lv_at hl 5 rfl) ?_
  refine lv_iload hx hb dL_law_1406 (lv_at hl 0 rfl) ?_
  refine lv_iconst (v := 2) hx hb dL_law_1408 (by decide) ?_
  refine lv_iadd hx hb dL_law_1409 ?_
  refine lv_topi (fun x3 ex3 => ?_)
  replace ex3 : x3 = 2 := ex3.trans (by decide)
  subst ex3
  refine va_sld hx hb hX hbl hbA hS (vi_c (by decide)) dL_law_1410 ?_
  refine lv_topi (fun x4 ex4 => ?_)
  refine lv_aload_n hx hb dL_law_1411 rfl (lv_at hl 5 rfl) ?_
  refine lv_iload hx hb dL_law_1412 (lv_at hl 0 rfl) ?_
  refine lv_iconst (v := 3) hx hb dL_law_1414 (by decide) ?_
  refine lv_iadd hx hb dL_law_1415 ?_
  refine lv_topi (fun x5 ex5 => ?_)
  replace ex5 : x5 = 3 := ex5.trans (by decide)
  subst ex5
  refine va_sld hx hb hX hbl hbA hS (vi_c (by decide)) dL_law_1416 ?_
  refine lv_topi (fun x6 ex6 => ?_)
  refine lv_aload_n hx hb dL_law_1417 rfl (lv_at hl 2 rfl) ?_
  have hPc := hP.sub (ws' := [(a 0, .inr (11, [.ref (a 1), .ref (a 2), .ref (a 3), .ref (a 4), .ref (a 5), .ref (a 10), .ref (a 15), .ref (a 17), .null, .int 0, .int 0, .int 0])), (a 3, .inr (2, [.int 0, .ref E, .int 0])), (o, .inl (dA 3, 1, .inr (.inl (fun _ => 0))))]) [0, 1, 2] rfl
  have hDc := hD.sub (ws' := [(a 0, .inr (11, [.ref (a 1), .ref (a 2), .ref (a 3), .ref (a 4), .ref (a 5), .ref (a 10), .ref (a 15), .ref (a 17), .null, .int 0, .int 0, .int 0])), (a 3, .inr (2, [.int 0, .ref E, .int 0])), (o, .inl (dA 3, 1, .inr (.inl (fun _ => 0))))]) [0, 1, 2] (by decide) rfl
  have hFc := va_free (wc := [(a 0, .inr (11, [.ref (a 1), .ref (a 2), .ref (a 3), .ref (a 4), .ref (a 5), .ref (a 10), .ref (a 15), .ref (a 17), .null, .int 0, .int 0, .int 0])), (a 3, .inr (2, [.int 0, .ref E, .int 0])), (o, .inl (dA 3, 1, .inr (.inl (fun _ => 0))))]) hD hS hA [0, 1, 2] rfl
  refine vx_calli (vx_runSX (As := [.ref (a 0), .int x2, .int x4, .int x6, .ref o]) (rest := []) ⟨hx, hb, hml, hown, hts⟩ (c_L_hit l hlt D dA E a o (fun _ => 0) x2 x4 x6 H.size ) (vx_cwSW 5 hts (ga_S q632 q633 q463 q631) rfl rfl rfl (by decide +kernel) ⟨(Nat.le_of_ble_eq_true rfl), (Nat.le_of_ble_eq_true rfl)⟩) ⟨pb_blind, pb_pre hK hPc hDc hZ hS hFc _⟩ rfl rfl hl.1 rfl (lv_room (Nat.le_of_ble_eq_true rfl)) dL_law_1418 ⟨(Nat.le_of_ble_eq_true rfl), (Nat.le_of_ble_eq_true rfl)⟩) hS (fun q _ h => hFc q h) hFc (fun q _ h => hFc q h) (fun E9 ce q9 k t H1 locs ht hvm hpx hBX hz1 hk1 hS hce hcv hcl => ?_) (fun r u t H1 locs ht hvm hw hB hz1 hk1 hS => ?_)
  · exact hpx.elim
  · refine W.widen (k := 66) (n := 11784) (Nat.le_of_ble_eq_true rfl) (Nat.le_of_ble_eq_true rfl) ?_
    obtain ⟨r7, rfl⟩ : ∃ z, z = r := ⟨_, rfl⟩
    obtain ⟨u8, rfl⟩ : ∃ z, z = u := ⟨_, rfl⟩
    have hw9 := hw
    clear hw
    obtain ⟨hP1, hD1⟩ := hB
    rw [ht] at hP1
    obtain ⟨hP, hD⟩ := va_join (wr := [(b 0, .inr (12, [.int 0, .int 0, .ref (b 2), .ref (b 3), .ref (b 4), .int 0, .int 0, .int 0, .int 0, .ref (b 9), .int 0, .ref (b 11), .ref (b 12), .ref (b 13), .ref (b 14), .ref (b 15), .ref (b 16), .ref (b 17), .ref (b 18), .int 0, .ref (b 20), .int 0, .int 0, .int 0, .ref (b 24), .ref (b 25), .ref (b 26), .int 0, .int 0, .ref (b 29), .ref (b 30), .int 0, .ref (b 32), .ref (b 33), .ref (b 34), .ref (b 35), .ref (b 36), .ref (b 37), .int 0, .int 0, .ref (b 40), .ref (b 41), .ref (b 42), .ref (b 43), .ref (b 44), .int 0, .ref (b 46), .ref (b 47), .ref (b 48)]))]) (w1 := [(o, .inl (dA 3, 1, .inr (.inl u8)))]) hP hD [0, 1, 2] [3] rfl rfl (by decide) (by decide) hk1 hFc hP1 hD1
    generalize H1 = H at hP hS ⊢
    have hP : va_P D vwCl [(b 0, .inr (12, [.int 0, .int 0, .ref (b 2), .ref (b 3), .ref (b 4), .int 0, .int 0, .int 0, .int 0, .ref (b 9), .int 0, .ref (b 11), .ref (b 12), .ref (b 13), .ref (b 14), .ref (b 15), .ref (b 16), .ref (b 17), .ref (b 18), .int 0, .ref (b 20), .int 0, .int 0, .int 0, .ref (b 24), .ref (b 25), .ref (b 26), .int 0, .int 0, .ref (b 29), .ref (b 30), .int 0, .ref (b 32), .ref (b 33), .ref (b 34), .ref (b 35), .ref (b 36), .ref (b 37), .int 0, .int 0, .ref (b 40), .ref (b 41), .ref (b 42), .ref (b 43), .ref (b 44), .int 0, .ref (b 46), .ref (b 47), .ref (b 48)])), (o, .inl (dA 3, 1, .inr (.inl u8)))] H := hP
    have hD : va_D A [(b 0, .inr (12, [.int 0, .int 0, .ref (b 2), .ref (b 3), .ref (b 4), .int 0, .int 0, .int 0, .int 0, .ref (b 9), .int 0, .ref (b 11), .ref (b 12), .ref (b 13), .ref (b 14), .ref (b 15), .ref (b 16), .ref (b 17), .ref (b 18), .int 0, .ref (b 20), .int 0, .int 0, .int 0, .ref (b 24), .ref (b 25), .ref (b 26), .int 0, .int 0, .ref (b 29), .ref (b 30), .int 0, .ref (b 32), .ref (b 33), .ref (b 34), .ref (b 35), .ref (b 36), .ref (b 37), .int 0, .int 0, .ref (b 40), .ref (b 41), .ref (b 42), .ref (b 43), .ref (b 44), .int 0, .ref (b 46), .ref (b 47), .ref (b 48)])), (o, .inl (dA 3, 1, .inr (.inl u8)))] := hD
    have hP := hP.sub (ws' := [(o, .inl (dA 3, 1, .inr (.inl u8))), (b 0, .inr (12, [.int 0, .int 0, .ref (b 2), .ref (b 3), .ref (b 4), .int 0, .int 0, .int 0, .int 0, .ref (b 9), .int 0, .ref (b 11), .ref (b 12), .ref (b 13), .ref (b 14), .ref (b 15), .ref (b 16), .ref (b 17), .ref (b 18), .int 0, .ref (b 20), .int 0, .int 0, .int 0, .ref (b 24), .ref (b 25), .ref (b 26), .int 0, .int 0, .ref (b 29), .ref (b 30), .int 0, .ref (b 32), .ref (b 33), .ref (b 34), .ref (b 35), .ref (b 36), .ref (b 37), .int 0, .int 0, .ref (b 40), .ref (b 41), .ref (b 42), .ref (b 43), .ref (b 44), .int 0, .ref (b 46), .ref (b 47), .ref (b 48)]))]) [1, 0] rfl
    have hD := hD.sub (ws' := [(o, .inl (dA 3, 1, .inr (.inl u8))), (b 0, .inr (12, [.int 0, .int 0, .ref (b 2), .ref (b 3), .ref (b 4), .int 0, .int 0, .int 0, .int 0, .ref (b 9), .int 0, .ref (b 11), .ref (b 12), .ref (b 13), .ref (b 14), .ref (b 15), .ref (b 16), .ref (b 17), .ref (b 18), .int 0, .ref (b 20), .int 0, .int 0, .int 0, .ref (b 24), .ref (b 25), .ref (b 26), .int 0, .int 0, .ref (b 29), .ref (b 30), .int 0, .ref (b 32), .ref (b 33), .ref (b 34), .ref (b 35), .ref (b 36), .ref (b 37), .int 0, .int 0, .ref (b 40), .ref (b 41), .ref (b 42), .ref (b 43), .ref (b 44), .int 0, .ref (b 46), .ref (b 47), .ref (b 48)]))]) [1, 0] (by decide) rfl
    have hk := hw9
    obtain rfl : r7 = 1 := hk
    refine lv_istore (lv' := [(6, .int 1), (5, .int 0), (4, .ref od), (3, .ref o), (2, .ref (b 0)), (1, .ref (a 0)), (0, .ref bs)]) hx hb dL_law_1421 hl (by decide) rfl (fun ls hl => ?_)
    refine lv_aload_n hx hb dL_law_1423 rfl (lv_at hl 4 rfl) ?_
    refine lv_aload_n hx hb dL_law_1424 rfl (lv_at hl 6 rfl) ?_
    refine lv_iload hx hb dL_law_1425 (lv_at hl 1 rfl) ?_
    refine lv_iconst (v := 1) hx hb dL_law_1427 (by decide) ?_
    refine lv_iadd hx hb dL_law_1428 ?_
    refine lv_topi (fun x10 ex10 => ?_)
    replace ex10 : x10 = 1 := ex10.trans (by decide)
    subst ex10
    refine va_sld hx hb hX hbl hbA hS (vi_c (by decide)) dL_law_1429 ?_
    refine lv_topi (fun x11 ex11 => ?_)
    obtain rfl : x2 = x11 := ex2.trans ex11.symm
    refine lv_aload_n hx hb dL_law_1430 rfl (lv_at hl 6 rfl) ?_
    refine lv_iload hx hb dL_law_1431 (lv_at hl 1 rfl) ?_
    refine lv_iconst (v := 2) hx hb dL_law_1433 (by decide) ?_
    refine lv_iadd hx hb dL_law_1434 ?_
    refine lv_topi (fun x12 ex12 => ?_)
    replace ex12 : x12 = 2 := ex12.trans (by decide)
    subst ex12
    refine va_sld hx hb hX hbl hbA hS (vi_c (by decide)) dL_law_1435 ?_
    refine lv_topi (fun x13 ex13 => ?_)
    obtain rfl : x4 = x13 := ex4.trans ex13.symm
    refine lv_aload_n hx hb dL_law_1436 rfl (lv_at hl 6 rfl) ?_
    refine lv_iload hx hb dL_law_1437 (lv_at hl 1 rfl) ?_
    refine lv_iconst (v := 3) hx hb dL_law_1439 (by decide) ?_
    refine lv_iadd hx hb dL_law_1440 ?_
    refine lv_topi (fun x14 ex14 => ?_)
    replace ex14 : x14 = 3 := ex14.trans (by decide)
    subst ex14
    refine va_sld hx hb hX hbl hbA hS (vi_c (by decide)) dL_law_1441 ?_
    refine lv_topi (fun x15 ex15 => ?_)
    obtain rfl : x6 = x15 := ex6.trans ex15.symm
    have hPc := hP.sub (ws' := [(b 0, .inr (12, [.int 0, .int 0, .ref (b 2), .ref (b 3), .ref (b 4), .int 0, .int 0, .int 0, .int 0, .ref (b 9), .int 0, .ref (b 11), .ref (b 12), .ref (b 13), .ref (b 14), .ref (b 15), .ref (b 16), .ref (b 17), .ref (b 18), .int 0, .ref (b 20), .int 0, .int 0, .int 0, .ref (b 24), .ref (b 25), .ref (b 26), .int 0, .int 0, .ref (b 29), .ref (b 30), .int 0, .ref (b 32), .ref (b 33), .ref (b 34), .ref (b 35), .ref (b 36), .ref (b 37), .int 0, .int 0, .ref (b 40), .ref (b 41), .ref (b 42), .ref (b 43), .ref (b 44), .int 0, .ref (b 46), .ref (b 47), .ref (b 48)]))]) [1] rfl
    have hDc := hD.sub (ws' := [(b 0, .inr (12, [.int 0, .int 0, .ref (b 2), .ref (b 3), .ref (b 4), .int 0, .int 0, .int 0, .int 0, .ref (b 9), .int 0, .ref (b 11), .ref (b 12), .ref (b 13), .ref (b 14), .ref (b 15), .ref (b 16), .ref (b 17), .ref (b 18), .int 0, .ref (b 20), .int 0, .int 0, .int 0, .ref (b 24), .ref (b 25), .ref (b 26), .int 0, .int 0, .ref (b 29), .ref (b 30), .int 0, .ref (b 32), .ref (b 33), .ref (b 34), .ref (b 35), .ref (b 36), .ref (b 37), .int 0, .int 0, .ref (b 40), .ref (b 41), .ref (b 42), .ref (b 43), .ref (b 44), .int 0, .ref (b 46), .ref (b 47), .ref (b 48)]))]) [1] (by decide) rfl
    have hFc := va_free (wc := [(b 0, .inr (12, [.int 0, .int 0, .ref (b 2), .ref (b 3), .ref (b 4), .int 0, .int 0, .int 0, .int 0, .ref (b 9), .int 0, .ref (b 11), .ref (b 12), .ref (b 13), .ref (b 14), .ref (b 15), .ref (b 16), .ref (b 17), .ref (b 18), .int 0, .ref (b 20), .int 0, .int 0, .int 0, .ref (b 24), .ref (b 25), .ref (b 26), .int 0, .int 0, .ref (b 29), .ref (b 30), .int 0, .ref (b 32), .ref (b 33), .ref (b 34), .ref (b 35), .ref (b 36), .ref (b 37), .int 0, .int 0, .ref (b 40), .ref (b 41), .ref (b 42), .ref (b 43), .ref (b 44), .int 0, .ref (b 46), .ref (b 47), .ref (b 48)]))]) hD hS hA [1] rfl
    refine va_calli (va_runV (As := [.int x2, .int x4, .int x6]) (rest := []) ⟨hx, hb, hml, hown, hts⟩ (c_M_hit l D dA E b x2 x4 x6 H.size ) (cwV 3 hts (ga_V q636 q637 q634 q278 q635) rfl rfl rfl (by decide +kernel) ⟨(Nat.le_of_ble_eq_true rfl), (Nat.le_of_ble_eq_true rfl)⟩) ⟨pb_blind, va_recv hK hPc (ci := 12) (q0 := 0) rfl rfl, pb_pre hK hPc hDc hZ hS hFc _⟩ rfl rfl hl.1 rfl (lv_room (Nat.le_of_ble_eq_true rfl)) dL_law_1442 ⟨(Nat.le_of_ble_eq_true rfl), (Nat.le_of_ble_eq_true rfl)⟩) hS (fun q _ h => hFc q h) hFc (fun r u t H1 locs ht hvm hw hB hz1 hk1 hS => ?_)
    refine W.widen (k := 66) (n := 11784) (Nat.le_of_ble_eq_true rfl) (Nat.le_of_ble_eq_true rfl) ?_
    obtain ⟨r16, rfl⟩ : ∃ z, z = r := ⟨_, rfl⟩
    obtain ⟨u17, rfl⟩ : ∃ z, z = u := ⟨_, rfl⟩
    have hw18 := hw
    clear hw
    obtain ⟨hP1, hD1⟩ := hB
    rw [ht] at hP1
    obtain ⟨hP, hD⟩ := va_join (wr := [(o, .inl (dA 3, 1, .inr (.inl u8)))]) (w1 := [(b 0, .inr (12, .int u17.1 :: u17.2))]) hP hD [1] [0] rfl rfl (by decide) (by decide) hk1 hFc hP1 hD1
    generalize H1 = H at hP hS ⊢
    have hP : va_P D vwCl [(o, .inl (dA 3, 1, .inr (.inl u8))), (b 0, .inr (12, .int u17.1 :: u17.2))] H := hP
    have hD : va_D A [(o, .inl (dA 3, 1, .inr (.inl u8))), (b 0, .inr (12, .int u17.1 :: u17.2))] := hD
    have hP := hP.sub (ws' := [(b 0, .inr (12, .int u17.1 :: u17.2)), (o, .inl (dA 3, 1, .inr (.inl u8)))]) [1, 0] rfl
    have hD := hD.sub (ws' := [(b 0, .inr (12, .int u17.1 :: u17.2)), (o, .inl (dA 3, 1, .inr (.inl u8)))]) [1, 0] (by decide) rfl
    have hm : u17.1 = 1 := hw18
    rw [hm] at hP hD
    have hP : va_P D vwCl [(b 0, .inr (12, .int 1 :: u17.2)), (o, .inl (dA 3, 1, .inr (.inl u8)))] H := hP
    have hD : va_D A [(b 0, .inr (12, .int 1 :: u17.2)), (o, .inl (dA 3, 1, .inr (.inl u8)))] := hD
    refine lv_istore (lv' := [(7, .int r16), (6, .int 1), (5, .int 0), (4, .ref od), (3, .ref o), (2, .ref (b 0)), (1, .ref (a 0)), (0, .ref bs)]) hx hb dL_law_1445 hl (by decide) rfl (fun ls hl => ?_)
    refine lv_aload_n hx hb dL_law_1447 rfl (lv_at hl 5 rfl) ?_
    have hPc := hP.sub (ws' := [(b 0, .inr (12, .int 1 :: u17.2))]) [0] rfl
    have hDc := hD.sub (ws' := [(b 0, .inr (12, .int 1 :: u17.2))]) [0] (by decide) rfl
    have hFc := va_free (wc := [(b 0, .inr (12, .int 1 :: u17.2))]) hD hS hA [0] rfl
    refine va_calli (va_runV (As := []) (rest := []) ⟨hx, hb, hml, hown, hts⟩ (c_M_thrown l D dA E (b 0) 1 u17.2 H.size ) (cwV 0 hts (ga_V q470 q471 q468 q278 q469) rfl rfl rfl (by decide +kernel) ⟨(Nat.le_of_ble_eq_true rfl), (Nat.le_of_ble_eq_true rfl)⟩) ⟨pb_blind, va_recv hK hPc (ci := 12) (q0 := 0) rfl rfl, pb_pre hK hPc hDc hZ hS hFc _⟩ rfl rfl hl.1 rfl (lv_room (Nat.le_of_ble_eq_true rfl)) dL_law_1448 ⟨(Nat.le_of_ble_eq_true rfl), (Nat.le_of_ble_eq_true rfl)⟩) hS (fun q _ h => hFc q h) hFc (fun r u t H1 locs ht hvm hw hB hz1 hk1 hS => ?_)
    refine W.widen (k := 66) (n := 11784) (Nat.le_of_ble_eq_true rfl) (Nat.le_of_ble_eq_true rfl) ?_
    obtain ⟨r19, rfl⟩ : ∃ z, z = r := ⟨_, rfl⟩
    obtain ⟨u20, rfl⟩ : ∃ z, z = u := ⟨_, rfl⟩
    have hw21 := hw
    clear hw
    obtain ⟨hP, hD⟩ := jn_drop (wr := [(o, .inl (dA 3, 1, .inr (.inl u8)))]) hP hD [0] [1] rfl rfl (by decide) (by decide) hk1 hFc
    generalize H1 = H at hP hS ⊢
    have hP : va_P D vwCl [(o, .inl (dA 3, 1, .inr (.inl u8)))] H := hP
    have hD : va_D A [(o, .inl (dA 3, 1, .inr (.inl u8)))] := hD
    obtain rfl : r19 = 1 := hw21
    refine lv_iload hx hb dL_law_1451 (lv_at hl 1 rfl) ?_
    refine lv_icmp_eq (tgt := 1458) hx hb dL_law_1453 (by decide) (fun _ => ?_) (fun c22 => absurd (by decide) c22)
    refine lv_iload hx hb dL_law_1458 (lv_at hl 1 rfl) ?_
    refine lv_if_ne (tgt := 1475) hx hb dL_law_1460 (by decide) (fun _ => ?_) (fun c23 => absurd c23 (by decide))
    refine lv_goto (tgt := 2346) hx hb dL_law_1475 (by decide) ?_
    exact law_tail l C0 rfl (by rw [hAe]; exact hS) (Nat.le_of_ble_eq_true rfl) (Nat.le_of_ble_eq_true rfl) ls (lv_sub hl [7, 2] rfl)

set_option maxHeartbeats 4000000 in
set_option maxRecDepth 100000 in
/-- the law at score -/
theorem law_24 {p : Program} {e : Env} {s : State} {m : MethodId} {below : List Frame} {meth : Method} {c : Code} (l : Launch) (hlt : l.stackTraces = false) {bs L : Nat} {xs : Nat → Int32} (C0 : lw_At p s m meth c bs L xs) (hL6 : L = 6) (D : va_G) (dA : Nat → ClassId) (E : Nat) (A : Nat → Prop) (hAe : (fun q : Nat => s.heap.size ≤ q) = A) (a b : Nat → Nat) (o od : Nat) (hK : va_K D vwCl (TY dA) s) (hZ : ZZ dA E A s s.heap) (H : Heap) (locs : List Loc) (hP : va_P D vwCl [(a 0, .inr (11, [.ref (a 1), .ref (a 2), .ref (a 3), .ref (a 4), .ref (a 5), .ref (a 10), .ref (a 15), .ref (a 17), .null, .int 0, .int 0, .int 0])), (a 3, .inr (2, [.int 0, .ref E, .int 0])), (o, .inl (dA 3, 1, .inr (.inl (fun _ => 0)))), (b 0, .inr (12, [.int 0, .int 0, .ref (b 2), .ref (b 3), .ref (b 4), .int 0, .int 0, .int 0, .int 0, .ref (b 9), .int 0, .ref (b 11), .ref (b 12), .ref (b 13), .ref (b 14), .ref (b 15), .ref (b 16), .ref (b 17), .ref (b 18), .int 0, .ref (b 20), .int 0, .int 0, .int 0, .ref (b 24), .ref (b 25), .ref (b 26), .int 0, .int 0, .ref (b 29), .ref (b 30), .int 0, .ref (b 32), .ref (b 33), .ref (b 34), .ref (b 35), .ref (b 36), .ref (b 37), .int 0, .int 0, .ref (b 40), .ref (b 41), .ref (b 42), .ref (b 43), .ref (b 44), .int 0, .ref (b 46), .ref (b 47), .ref (b 48)]))] H) (hD : va_D A [(a 0, .inr (11, [.ref (a 1), .ref (a 2), .ref (a 3), .ref (a 4), .ref (a 5), .ref (a 10), .ref (a 15), .ref (a 17), .null, .int 0, .int 0, .int 0])), (a 3, .inr (2, [.int 0, .ref E, .int 0])), (o, .inl (dA 3, 1, .inr (.inl (fun _ => 0)))), (b 0, .inr (12, [.int 0, .int 0, .ref (b 2), .ref (b 3), .ref (b 4), .int 0, .int 0, .int 0, .int 0, .ref (b 9), .int 0, .ref (b 11), .ref (b 12), .ref (b 13), .ref (b 14), .ref (b 15), .ref (b 16), .ref (b 17), .ref (b 18), .int 0, .ref (b 20), .int 0, .int 0, .int 0, .ref (b 24), .ref (b 25), .ref (b 26), .int 0, .int 0, .ref (b 29), .ref (b 30), .int 0, .ref (b 32), .ref (b 33), .ref (b 34), .ref (b 35), .ref (b 36), .ref (b 37), .int 0, .int 0, .ref (b 40), .ref (b 41), .ref (b 42), .ref (b 43), .ref (b 44), .int 0, .ref (b 46), .ref (b 47), .ref (b 48)]))]) (hS : va_S A s.heap H locs) (ls : Array Slot) (hl : lv_has ls 9 [(5, .int 0), (4, .ref od), (3, .ref o), (2, .ref (b 0)), (1, .ref (a 0)), (0, .ref bs)]) : W p l e room_1 s m #[Value.ref bs] below meth c H locs 65 11778 (lw_Z below #[Value.ref bs] s) (F0 m 1478 ls []) := by
  subst hL6
  obtain ⟨hx, hb, hr, hml, hown, hts0, hX, hbl, hlocks, hgv⟩ := id C0
  have hts : ∀ w ∈ WA, w.before #[Value.ref bs] s = true := fun w h => hts0 w (WA_tbl h)
  have hA : ∀ q : Nat, s.heap.size ≤ q → A q := fun q h => by rw [← hAe]; exact h
  have hbA : ¬ A bs := by rw [← hAe]; exact Nat.not_le.mpr hbl
  refine lv_aload_n hx hb dL_law_1478 rfl (lv_at hl 4 rfl) ?_
  refine lv_aload_n hx hb dL_law_1479 rfl (lv_at hl 5 rfl) ?_
  refine lv_iload hx hb dL_law_1480 (lv_at hl 0 rfl) ?_
  refine lv_iconst (v := 1) hx hb dL_law_1482 (by decide) ?_
  refine lv_iadd hx hb dL_law_1483 ?_
  refine lv_topi (fun x1 ex1 => ?_)
  replace ex1 : x1 = 1 := ex1.trans (by decide)
  subst ex1
  refine va_sld hx hb hX hbl hbA hS (vi_c (by decide)) dL_law_1484 ?_
  refine lv_topi (fun x2 ex2 => ?_)
  refine lv_aload_n hx hb dL_law_1485 rfl (lv_at hl 5 rfl) ?_
  refine lv_iload hx hb dL_law_1486 (lv_at hl 0 rfl) ?_
  refine lv_iconst (v := 2) hx hb dL_law_1488 (by decide) ?_
  refine lv_iadd hx hb dL_law_1489 ?_
  refine lv_topi (fun x3 ex3 => ?_)
  replace ex3 : x3 = 2 := ex3.trans (by decide)
  subst ex3
  refine va_sld hx hb hX hbl hbA hS (vi_c (by decide)) dL_law_1490 ?_
  refine lv_topi (fun x4 ex4 => ?_)
  refine lv_aload_n hx hb dL_law_1491 rfl (lv_at hl 5 rfl) ?_
  refine lv_iload hx hb dL_law_1492 (lv_at hl 0 rfl) ?_
  refine lv_iconst (v := 3) hx hb dL_law_1494 (by decide) ?_
  refine lv_iadd hx hb dL_law_1495 ?_
  refine lv_topi (fun x5 ex5 => ?_)
  replace ex5 : x5 = 3 := ex5.trans (by decide)
  subst ex5
  refine va_sld hx hb hX hbl hbA hS (vi_c (by decide)) dL_law_1496 ?_
  refine lv_topi (fun x6 ex6 => ?_)
  refine lv_aload_n hx hb dL_law_1497 rfl (lv_at hl 2 rfl) ?_
  have hPc := hP.sub (ws' := [(a 0, .inr (11, [.ref (a 1), .ref (a 2), .ref (a 3), .ref (a 4), .ref (a 5), .ref (a 10), .ref (a 15), .ref (a 17), .null, .int 0, .int 0, .int 0])), (a 3, .inr (2, [.int 0, .ref E, .int 0])), (o, .inl (dA 3, 1, .inr (.inl (fun _ => 0))))]) [0, 1, 2] rfl
  have hDc := hD.sub (ws' := [(a 0, .inr (11, [.ref (a 1), .ref (a 2), .ref (a 3), .ref (a 4), .ref (a 5), .ref (a 10), .ref (a 15), .ref (a 17), .null, .int 0, .int 0, .int 0])), (a 3, .inr (2, [.int 0, .ref E, .int 0])), (o, .inl (dA 3, 1, .inr (.inl (fun _ => 0))))]) [0, 1, 2] (by decide) rfl
  have hFc := va_free (wc := [(a 0, .inr (11, [.ref (a 1), .ref (a 2), .ref (a 3), .ref (a 4), .ref (a 5), .ref (a 10), .ref (a 15), .ref (a 17), .null, .int 0, .int 0, .int 0])), (a 3, .inr (2, [.int 0, .ref E, .int 0])), (o, .inl (dA 3, 1, .inr (.inl (fun _ => 0))))]) hD hS hA [0, 1, 2] rfl
  refine vx_calli (vx_runSX (As := [.ref (a 0), .int x2, .int x4, .int x6, .ref o]) (rest := []) ⟨hx, hb, hml, hown, hts⟩ (c_L_score l hlt D dA E a o (fun _ => 0) x2 x4 x6 H.size ) (vx_cwSW 5 hts (ga_S q639 q640 q463 q638) rfl rfl rfl (by decide +kernel) ⟨(Nat.le_of_ble_eq_true rfl), (Nat.le_of_ble_eq_true rfl)⟩) ⟨pb_blind, pb_pre hK hPc hDc hZ hS hFc _⟩ rfl rfl hl.1 rfl (lv_room (Nat.le_of_ble_eq_true rfl)) dL_law_1498 ⟨(Nat.le_of_ble_eq_true rfl), (Nat.le_of_ble_eq_true rfl)⟩) hS (fun q _ h => hFc q h) hFc (fun q _ h => hFc q h) (fun E9 ce q9 k t H1 locs ht hvm hpx hBX hz1 hk1 hS hce hcv hcl => ?_) (fun r u t H1 locs ht hvm hw hB hz1 hk1 hS => ?_)
  · exact hpx.elim
  · refine W.widen (k := 66) (n := 11784) (Nat.le_of_ble_eq_true rfl) (Nat.le_of_ble_eq_true rfl) ?_
    obtain ⟨r7, rfl⟩ : ∃ z, z = r := ⟨_, rfl⟩
    obtain ⟨u8, rfl⟩ : ∃ z, z = u := ⟨_, rfl⟩
    have hw9 := hw
    clear hw
    obtain ⟨hP1, hD1⟩ := hB
    rw [ht] at hP1
    obtain ⟨hP, hD⟩ := va_join (wr := [(b 0, .inr (12, [.int 0, .int 0, .ref (b 2), .ref (b 3), .ref (b 4), .int 0, .int 0, .int 0, .int 0, .ref (b 9), .int 0, .ref (b 11), .ref (b 12), .ref (b 13), .ref (b 14), .ref (b 15), .ref (b 16), .ref (b 17), .ref (b 18), .int 0, .ref (b 20), .int 0, .int 0, .int 0, .ref (b 24), .ref (b 25), .ref (b 26), .int 0, .int 0, .ref (b 29), .ref (b 30), .int 0, .ref (b 32), .ref (b 33), .ref (b 34), .ref (b 35), .ref (b 36), .ref (b 37), .int 0, .int 0, .ref (b 40), .ref (b 41), .ref (b 42), .ref (b 43), .ref (b 44), .int 0, .ref (b 46), .ref (b 47), .ref (b 48)]))]) (w1 := [(o, .inl (dA 3, 1, .inr (.inl u8)))]) hP hD [0, 1, 2] [3] rfl rfl (by decide) (by decide) hk1 hFc hP1 hD1
    generalize H1 = H at hP hS ⊢
    have hP : va_P D vwCl [(b 0, .inr (12, [.int 0, .int 0, .ref (b 2), .ref (b 3), .ref (b 4), .int 0, .int 0, .int 0, .int 0, .ref (b 9), .int 0, .ref (b 11), .ref (b 12), .ref (b 13), .ref (b 14), .ref (b 15), .ref (b 16), .ref (b 17), .ref (b 18), .int 0, .ref (b 20), .int 0, .int 0, .int 0, .ref (b 24), .ref (b 25), .ref (b 26), .int 0, .int 0, .ref (b 29), .ref (b 30), .int 0, .ref (b 32), .ref (b 33), .ref (b 34), .ref (b 35), .ref (b 36), .ref (b 37), .int 0, .int 0, .ref (b 40), .ref (b 41), .ref (b 42), .ref (b 43), .ref (b 44), .int 0, .ref (b 46), .ref (b 47), .ref (b 48)])), (o, .inl (dA 3, 1, .inr (.inl u8)))] H := hP
    have hD : va_D A [(b 0, .inr (12, [.int 0, .int 0, .ref (b 2), .ref (b 3), .ref (b 4), .int 0, .int 0, .int 0, .int 0, .ref (b 9), .int 0, .ref (b 11), .ref (b 12), .ref (b 13), .ref (b 14), .ref (b 15), .ref (b 16), .ref (b 17), .ref (b 18), .int 0, .ref (b 20), .int 0, .int 0, .int 0, .ref (b 24), .ref (b 25), .ref (b 26), .int 0, .int 0, .ref (b 29), .ref (b 30), .int 0, .ref (b 32), .ref (b 33), .ref (b 34), .ref (b 35), .ref (b 36), .ref (b 37), .int 0, .int 0, .ref (b 40), .ref (b 41), .ref (b 42), .ref (b 43), .ref (b 44), .int 0, .ref (b 46), .ref (b 47), .ref (b 48)])), (o, .inl (dA 3, 1, .inr (.inl u8)))] := hD
    have hP := hP.sub (ws' := [(o, .inl (dA 3, 1, .inr (.inl u8))), (b 0, .inr (12, [.int 0, .int 0, .ref (b 2), .ref (b 3), .ref (b 4), .int 0, .int 0, .int 0, .int 0, .ref (b 9), .int 0, .ref (b 11), .ref (b 12), .ref (b 13), .ref (b 14), .ref (b 15), .ref (b 16), .ref (b 17), .ref (b 18), .int 0, .ref (b 20), .int 0, .int 0, .int 0, .ref (b 24), .ref (b 25), .ref (b 26), .int 0, .int 0, .ref (b 29), .ref (b 30), .int 0, .ref (b 32), .ref (b 33), .ref (b 34), .ref (b 35), .ref (b 36), .ref (b 37), .int 0, .int 0, .ref (b 40), .ref (b 41), .ref (b 42), .ref (b 43), .ref (b 44), .int 0, .ref (b 46), .ref (b 47), .ref (b 48)]))]) [1, 0] rfl
    have hD := hD.sub (ws' := [(o, .inl (dA 3, 1, .inr (.inl u8))), (b 0, .inr (12, [.int 0, .int 0, .ref (b 2), .ref (b 3), .ref (b 4), .int 0, .int 0, .int 0, .int 0, .ref (b 9), .int 0, .ref (b 11), .ref (b 12), .ref (b 13), .ref (b 14), .ref (b 15), .ref (b 16), .ref (b 17), .ref (b 18), .int 0, .ref (b 20), .int 0, .int 0, .int 0, .ref (b 24), .ref (b 25), .ref (b 26), .int 0, .int 0, .ref (b 29), .ref (b 30), .int 0, .ref (b 32), .ref (b 33), .ref (b 34), .ref (b 35), .ref (b 36), .ref (b 37), .int 0, .int 0, .ref (b 40), .ref (b 41), .ref (b 42), .ref (b 43), .ref (b 44), .int 0, .ref (b 46), .ref (b 47), .ref (b 48)]))]) [1, 0] (by decide) rfl
    have hk := hw9
    obtain rfl : r7 = 1 := hk
    refine lv_istore (lv' := [(6, .int 1), (5, .int 0), (4, .ref od), (3, .ref o), (2, .ref (b 0)), (1, .ref (a 0)), (0, .ref bs)]) hx hb dL_law_1501 hl (by decide) rfl (fun ls hl => ?_)
    refine lv_aload_n hx hb dL_law_1503 rfl (lv_at hl 4 rfl) ?_
    refine lv_aload_n hx hb dL_law_1504 rfl (lv_at hl 6 rfl) ?_
    refine lv_iload hx hb dL_law_1505 (lv_at hl 1 rfl) ?_
    refine lv_iconst (v := 1) hx hb dL_law_1507 (by decide) ?_
    refine lv_iadd hx hb dL_law_1508 ?_
    refine lv_topi (fun x10 ex10 => ?_)
    replace ex10 : x10 = 1 := ex10.trans (by decide)
    subst ex10
    refine va_sld hx hb hX hbl hbA hS (vi_c (by decide)) dL_law_1509 ?_
    refine lv_topi (fun x11 ex11 => ?_)
    obtain rfl : x2 = x11 := ex2.trans ex11.symm
    refine lv_aload_n hx hb dL_law_1510 rfl (lv_at hl 6 rfl) ?_
    refine lv_iload hx hb dL_law_1511 (lv_at hl 1 rfl) ?_
    refine lv_iconst (v := 2) hx hb dL_law_1513 (by decide) ?_
    refine lv_iadd hx hb dL_law_1514 ?_
    refine lv_topi (fun x12 ex12 => ?_)
    replace ex12 : x12 = 2 := ex12.trans (by decide)
    subst ex12
    refine va_sld hx hb hX hbl hbA hS (vi_c (by decide)) dL_law_1515 ?_
    refine lv_topi (fun x13 ex13 => ?_)
    obtain rfl : x4 = x13 := ex4.trans ex13.symm
    refine lv_aload_n hx hb dL_law_1516 rfl (lv_at hl 6 rfl) ?_
    refine lv_iload hx hb dL_law_1517 (lv_at hl 1 rfl) ?_
    refine lv_iconst (v := 3) hx hb dL_law_1519 (by decide) ?_
    refine lv_iadd hx hb dL_law_1520 ?_
    refine lv_topi (fun x14 ex14 => ?_)
    replace ex14 : x14 = 3 := ex14.trans (by decide)
    subst ex14
    refine va_sld hx hb hX hbl hbA hS (vi_c (by decide)) dL_law_1521 ?_
    refine lv_topi (fun x15 ex15 => ?_)
    obtain rfl : x6 = x15 := ex6.trans ex15.symm
    have hPc := hP.sub (ws' := [(b 0, .inr (12, [.int 0, .int 0, .ref (b 2), .ref (b 3), .ref (b 4), .int 0, .int 0, .int 0, .int 0, .ref (b 9), .int 0, .ref (b 11), .ref (b 12), .ref (b 13), .ref (b 14), .ref (b 15), .ref (b 16), .ref (b 17), .ref (b 18), .int 0, .ref (b 20), .int 0, .int 0, .int 0, .ref (b 24), .ref (b 25), .ref (b 26), .int 0, .int 0, .ref (b 29), .ref (b 30), .int 0, .ref (b 32), .ref (b 33), .ref (b 34), .ref (b 35), .ref (b 36), .ref (b 37), .int 0, .int 0, .ref (b 40), .ref (b 41), .ref (b 42), .ref (b 43), .ref (b 44), .int 0, .ref (b 46), .ref (b 47), .ref (b 48)]))]) [1] rfl
    have hDc := hD.sub (ws' := [(b 0, .inr (12, [.int 0, .int 0, .ref (b 2), .ref (b 3), .ref (b 4), .int 0, .int 0, .int 0, .int 0, .ref (b 9), .int 0, .ref (b 11), .ref (b 12), .ref (b 13), .ref (b 14), .ref (b 15), .ref (b 16), .ref (b 17), .ref (b 18), .int 0, .ref (b 20), .int 0, .int 0, .int 0, .ref (b 24), .ref (b 25), .ref (b 26), .int 0, .int 0, .ref (b 29), .ref (b 30), .int 0, .ref (b 32), .ref (b 33), .ref (b 34), .ref (b 35), .ref (b 36), .ref (b 37), .int 0, .int 0, .ref (b 40), .ref (b 41), .ref (b 42), .ref (b 43), .ref (b 44), .int 0, .ref (b 46), .ref (b 47), .ref (b 48)]))]) [1] (by decide) rfl
    have hFc := va_free (wc := [(b 0, .inr (12, [.int 0, .int 0, .ref (b 2), .ref (b 3), .ref (b 4), .int 0, .int 0, .int 0, .int 0, .ref (b 9), .int 0, .ref (b 11), .ref (b 12), .ref (b 13), .ref (b 14), .ref (b 15), .ref (b 16), .ref (b 17), .ref (b 18), .int 0, .ref (b 20), .int 0, .int 0, .int 0, .ref (b 24), .ref (b 25), .ref (b 26), .int 0, .int 0, .ref (b 29), .ref (b 30), .int 0, .ref (b 32), .ref (b 33), .ref (b 34), .ref (b 35), .ref (b 36), .ref (b 37), .int 0, .int 0, .ref (b 40), .ref (b 41), .ref (b 42), .ref (b 43), .ref (b 44), .int 0, .ref (b 46), .ref (b 47), .ref (b 48)]))]) hD hS hA [1] rfl
    refine va_calll (va_runV (As := [.int x2, .int x4, .int x6]) (rest := []) ⟨hx, hb, hml, hown, hts⟩ (c_M_score l D dA E b x2 x4 x6 H.size ) (cwV 3 hts (ga_V q643 q644 q641 q278 q642) rfl rfl rfl (by decide +kernel) ⟨(Nat.le_of_ble_eq_true rfl), (Nat.le_of_ble_eq_true rfl)⟩) ⟨pb_blind, va_recv hK hPc (ci := 12) (q0 := 0) rfl rfl, pb_pre hK hPc hDc hZ hS hFc _⟩ rfl rfl hl.1 rfl (lv_room (Nat.le_of_ble_eq_true rfl)) dL_law_1522 ⟨(Nat.le_of_ble_eq_true rfl), (Nat.le_of_ble_eq_true rfl)⟩) hS (fun q _ h => hFc q h) hFc (fun r u t H1 locs ht hvm hw hB hz1 hk1 hS => ?_)
    refine W.widen (k := 66) (n := 11784) (Nat.le_of_ble_eq_true rfl) (Nat.le_of_ble_eq_true rfl) ?_
    obtain ⟨r16, rfl⟩ : ∃ z, z = r := ⟨_, rfl⟩
    obtain ⟨u17, rfl⟩ : ∃ z, z = u := ⟨_, rfl⟩
    have hw18 := hw
    clear hw
    obtain ⟨hP1, hD1⟩ := hB
    rw [ht] at hP1
    obtain ⟨hP, hD⟩ := va_join (wr := [(o, .inl (dA 3, 1, .inr (.inl u8)))]) (w1 := [(b 0, .inr (12, .int u17.1 :: u17.2))]) hP hD [1] [0] rfl rfl (by decide) (by decide) hk1 hFc hP1 hD1
    generalize H1 = H at hP hS ⊢
    have hP : va_P D vwCl [(o, .inl (dA 3, 1, .inr (.inl u8))), (b 0, .inr (12, .int u17.1 :: u17.2))] H := hP
    have hD : va_D A [(o, .inl (dA 3, 1, .inr (.inl u8))), (b 0, .inr (12, .int u17.1 :: u17.2))] := hD
    have hP := hP.sub (ws' := [(b 0, .inr (12, .int u17.1 :: u17.2)), (o, .inl (dA 3, 1, .inr (.inl u8)))]) [1, 0] rfl
    have hD := hD.sub (ws' := [(b 0, .inr (12, .int u17.1 :: u17.2)), (o, .inl (dA 3, 1, .inr (.inl u8)))]) [1, 0] (by decide) rfl
    have hm : u17.1 = 1 := hw18
    rw [hm] at hP hD
    have hP : va_P D vwCl [(b 0, .inr (12, .int 1 :: u17.2)), (o, .inl (dA 3, 1, .inr (.inl u8)))] H := hP
    have hD : va_D A [(b 0, .inr (12, .int 1 :: u17.2)), (o, .inl (dA 3, 1, .inr (.inl u8)))] := hD
    refine lv_lstore (lv' := [(7, .long r16), (6, .int 1), (5, .int 0), (4, .ref od), (3, .ref o), (2, .ref (b 0)), (1, .ref (a 0)), (0, .ref bs)]) hx hb dL_law_1525 hl (by decide) rfl (fun ls hl => ?_)
    refine lv_aload_n hx hb dL_law_1527 rfl (lv_at hl 5 rfl) ?_
    have hPc := hP.sub (ws' := [(b 0, .inr (12, .int 1 :: u17.2))]) [0] rfl
    have hDc := hD.sub (ws' := [(b 0, .inr (12, .int 1 :: u17.2))]) [0] (by decide) rfl
    have hFc := va_free (wc := [(b 0, .inr (12, .int 1 :: u17.2))]) hD hS hA [0] rfl
    refine va_calli (va_runV (As := []) (rest := []) ⟨hx, hb, hml, hown, hts⟩ (c_M_thrown l D dA E (b 0) 1 u17.2 H.size ) (cwV 0 hts (ga_V q470 q471 q468 q278 q469) rfl rfl rfl (by decide +kernel) ⟨(Nat.le_of_ble_eq_true rfl), (Nat.le_of_ble_eq_true rfl)⟩) ⟨pb_blind, va_recv hK hPc (ci := 12) (q0 := 0) rfl rfl, pb_pre hK hPc hDc hZ hS hFc _⟩ rfl rfl hl.1 rfl (lv_room (Nat.le_of_ble_eq_true rfl)) dL_law_1528 ⟨(Nat.le_of_ble_eq_true rfl), (Nat.le_of_ble_eq_true rfl)⟩) hS (fun q _ h => hFc q h) hFc (fun r u t H1 locs ht hvm hw hB hz1 hk1 hS => ?_)
    refine W.widen (k := 66) (n := 11784) (Nat.le_of_ble_eq_true rfl) (Nat.le_of_ble_eq_true rfl) ?_
    obtain ⟨r19, rfl⟩ : ∃ z, z = r := ⟨_, rfl⟩
    obtain ⟨u20, rfl⟩ : ∃ z, z = u := ⟨_, rfl⟩
    have hw21 := hw
    clear hw
    obtain ⟨hP, hD⟩ := jn_drop (wr := [(o, .inl (dA 3, 1, .inr (.inl u8)))]) hP hD [0] [1] rfl rfl (by decide) (by decide) hk1 hFc
    generalize H1 = H at hP hS ⊢
    have hP : va_P D vwCl [(o, .inl (dA 3, 1, .inr (.inl u8)))] H := hP
    have hD : va_D A [(o, .inl (dA 3, 1, .inr (.inl u8)))] := hD
    obtain rfl : r19 = 1 := hw21
    refine lv_iload hx hb dL_law_1531 (lv_at hl 1 rfl) ?_
    refine lv_icmp_eq (tgt := 1538) hx hb dL_law_1533 (by decide) (fun _ => ?_) (fun c22 => absurd (by decide) c22)
    refine lv_iload hx hb dL_law_1538 (lv_at hl 1 rfl) ?_
    refine lv_if_ne (tgt := 1554) hx hb dL_law_1540 (by decide) (fun _ => ?_) (fun c23 => absurd c23 (by decide))
    refine lv_goto (tgt := 2346) hx hb dL_law_1554 (by decide) ?_
    exact law_tail l C0 rfl (by rw [hAe]; exact hS) (Nat.le_of_ble_eq_true rfl) (Nat.le_of_ble_eq_true rfl) ls (lv_sub hl [7, 2] rfl)

set_option maxHeartbeats 4000000 in
set_option maxRecDepth 100000 in
/-- the law at scoreAlone -/
theorem law_25 {p : Program} {e : Env} {s : State} {m : MethodId} {below : List Frame} {meth : Method} {c : Code} (l : Launch) (hlt : l.stackTraces = false) {bs L : Nat} {xs : Nat → Int32} (C0 : lw_At p s m meth c bs L xs) (hL6 : L = 6) (D : va_G) (dA : Nat → ClassId) (E : Nat) (A : Nat → Prop) (hAe : (fun q : Nat => s.heap.size ≤ q) = A) (a b : Nat → Nat) (o od : Nat) (hK : va_K D vwCl (TY dA) s) (hZ : ZZ dA E A s s.heap) (H : Heap) (locs : List Loc) (hP : va_P D vwCl [(a 0, .inr (11, [.ref (a 1), .ref (a 2), .ref (a 3), .ref (a 4), .ref (a 5), .ref (a 10), .ref (a 15), .ref (a 17), .null, .int 0, .int 0, .int 0])), (a 3, .inr (2, [.int 0, .ref E, .int 0])), (o, .inl (dA 3, 1, .inr (.inl (fun _ => 0)))), (b 0, .inr (12, [.int 0, .int 0, .ref (b 2), .ref (b 3), .ref (b 4), .int 0, .int 0, .int 0, .int 0, .ref (b 9), .int 0, .ref (b 11), .ref (b 12), .ref (b 13), .ref (b 14), .ref (b 15), .ref (b 16), .ref (b 17), .ref (b 18), .int 0, .ref (b 20), .int 0, .int 0, .int 0, .ref (b 24), .ref (b 25), .ref (b 26), .int 0, .int 0, .ref (b 29), .ref (b 30), .int 0, .ref (b 32), .ref (b 33), .ref (b 34), .ref (b 35), .ref (b 36), .ref (b 37), .int 0, .int 0, .ref (b 40), .ref (b 41), .ref (b 42), .ref (b 43), .ref (b 44), .int 0, .ref (b 46), .ref (b 47), .ref (b 48)]))] H) (hD : va_D A [(a 0, .inr (11, [.ref (a 1), .ref (a 2), .ref (a 3), .ref (a 4), .ref (a 5), .ref (a 10), .ref (a 15), .ref (a 17), .null, .int 0, .int 0, .int 0])), (a 3, .inr (2, [.int 0, .ref E, .int 0])), (o, .inl (dA 3, 1, .inr (.inl (fun _ => 0)))), (b 0, .inr (12, [.int 0, .int 0, .ref (b 2), .ref (b 3), .ref (b 4), .int 0, .int 0, .int 0, .int 0, .ref (b 9), .int 0, .ref (b 11), .ref (b 12), .ref (b 13), .ref (b 14), .ref (b 15), .ref (b 16), .ref (b 17), .ref (b 18), .int 0, .ref (b 20), .int 0, .int 0, .int 0, .ref (b 24), .ref (b 25), .ref (b 26), .int 0, .int 0, .ref (b 29), .ref (b 30), .int 0, .ref (b 32), .ref (b 33), .ref (b 34), .ref (b 35), .ref (b 36), .ref (b 37), .int 0, .int 0, .ref (b 40), .ref (b 41), .ref (b 42), .ref (b 43), .ref (b 44), .int 0, .ref (b 46), .ref (b 47), .ref (b 48)]))]) (hS : va_S A s.heap H locs) (ls : Array Slot) (hl : lv_has ls 9 [(5, .int 0), (4, .ref od), (3, .ref o), (2, .ref (b 0)), (1, .ref (a 0)), (0, .ref bs)]) : W p l e room_1 s m #[Value.ref bs] below meth c H locs 65 11778 (lw_Z below #[Value.ref bs] s) (F0 m 1557 ls []) := by
  subst hL6
  obtain ⟨hx, hb, hr, hml, hown, hts0, hX, hbl, hlocks, hgv⟩ := id C0
  have hts : ∀ w ∈ WA, w.before #[Value.ref bs] s = true := fun w h => hts0 w (WA_tbl h)
  have hA : ∀ q : Nat, s.heap.size ≤ q → A q := fun q h => by rw [← hAe]; exact h
  have hbA : ¬ A bs := by rw [← hAe]; exact Nat.not_le.mpr hbl
  refine lv_aload_n hx hb dL_law_1557 rfl (lv_at hl 4 rfl) ?_
  refine lv_aload_n hx hb dL_law_1558 rfl (lv_at hl 5 rfl) ?_
  refine lv_iload hx hb dL_law_1559 (lv_at hl 0 rfl) ?_
  refine lv_iconst (v := 1) hx hb dL_law_1561 (by decide) ?_
  refine lv_iadd hx hb dL_law_1562 ?_
  refine lv_topi (fun x1 ex1 => ?_)
  replace ex1 : x1 = 1 := ex1.trans (by decide)
  subst ex1
  refine va_sld hx hb hX hbl hbA hS (vi_c (by decide)) dL_law_1563 ?_
  refine lv_topi (fun x2 ex2 => ?_)
  refine lv_aload_n hx hb dL_law_1564 rfl (lv_at hl 5 rfl) ?_
  refine lv_iload hx hb dL_law_1565 (lv_at hl 0 rfl) ?_
  refine lv_iconst (v := 2) hx hb dL_law_1567 (by decide) ?_
  refine lv_iadd hx hb dL_law_1568 ?_
  refine lv_topi (fun x3 ex3 => ?_)
  replace ex3 : x3 = 2 := ex3.trans (by decide)
  subst ex3
  refine va_sld hx hb hX hbl hbA hS (vi_c (by decide)) dL_law_1569 ?_
  refine lv_topi (fun x4 ex4 => ?_)
  refine lv_aload_n hx hb dL_law_1570 rfl (lv_at hl 5 rfl) ?_
  refine lv_iload hx hb dL_law_1571 (lv_at hl 0 rfl) ?_
  refine lv_iconst (v := 3) hx hb dL_law_1573 (by decide) ?_
  refine lv_iadd hx hb dL_law_1574 ?_
  refine lv_topi (fun x5 ex5 => ?_)
  replace ex5 : x5 = 3 := ex5.trans (by decide)
  subst ex5
  refine va_sld hx hb hX hbl hbA hS (vi_c (by decide)) dL_law_1575 ?_
  refine lv_topi (fun x6 ex6 => ?_)
  refine lv_aload_n hx hb dL_law_1576 rfl (lv_at hl 2 rfl) ?_
  have hPc := hP.sub (ws' := [(a 0, .inr (11, [.ref (a 1), .ref (a 2), .ref (a 3), .ref (a 4), .ref (a 5), .ref (a 10), .ref (a 15), .ref (a 17), .null, .int 0, .int 0, .int 0])), (a 3, .inr (2, [.int 0, .ref E, .int 0])), (o, .inl (dA 3, 1, .inr (.inl (fun _ => 0))))]) [0, 1, 2] rfl
  have hDc := hD.sub (ws' := [(a 0, .inr (11, [.ref (a 1), .ref (a 2), .ref (a 3), .ref (a 4), .ref (a 5), .ref (a 10), .ref (a 15), .ref (a 17), .null, .int 0, .int 0, .int 0])), (a 3, .inr (2, [.int 0, .ref E, .int 0])), (o, .inl (dA 3, 1, .inr (.inl (fun _ => 0))))]) [0, 1, 2] (by decide) rfl
  have hFc := va_free (wc := [(a 0, .inr (11, [.ref (a 1), .ref (a 2), .ref (a 3), .ref (a 4), .ref (a 5), .ref (a 10), .ref (a 15), .ref (a 17), .null, .int 0, .int 0, .int 0])), (a 3, .inr (2, [.int 0, .ref E, .int 0])), (o, .inl (dA 3, 1, .inr (.inl (fun _ => 0))))]) hD hS hA [0, 1, 2] rfl
  refine vx_calli (vx_runSX (As := [.ref (a 0), .int x2, .int x4, .int x6, .ref o]) (rest := []) ⟨hx, hb, hml, hown, hts⟩ (c_L_scoreAlone l hlt D dA E a o (fun _ => 0) x2 x4 x6 H.size ) (vx_cwSW 5 hts (ga_S q646 q647 q463 q645) rfl rfl rfl (by decide +kernel) ⟨(Nat.le_of_ble_eq_true rfl), (Nat.le_of_ble_eq_true rfl)⟩) ⟨pb_blind, pb_pre hK hPc hDc hZ hS hFc _⟩ rfl rfl hl.1 rfl (lv_room (Nat.le_of_ble_eq_true rfl)) dL_law_1577 ⟨(Nat.le_of_ble_eq_true rfl), (Nat.le_of_ble_eq_true rfl)⟩) hS (fun q _ h => hFc q h) hFc (fun q _ h => hFc q h) (fun E9 ce q9 k t H1 locs ht hvm hpx hBX hz1 hk1 hS hce hcv hcl => ?_) (fun r u t H1 locs ht hvm hw hB hz1 hk1 hS => ?_)
  · exact hpx.elim
  · refine W.widen (k := 66) (n := 11784) (Nat.le_of_ble_eq_true rfl) (Nat.le_of_ble_eq_true rfl) ?_
    obtain ⟨r7, rfl⟩ : ∃ z, z = r := ⟨_, rfl⟩
    obtain ⟨u8, rfl⟩ : ∃ z, z = u := ⟨_, rfl⟩
    have hw9 := hw
    clear hw
    obtain ⟨hP1, hD1⟩ := hB
    rw [ht] at hP1
    obtain ⟨hP, hD⟩ := va_join (wr := [(b 0, .inr (12, [.int 0, .int 0, .ref (b 2), .ref (b 3), .ref (b 4), .int 0, .int 0, .int 0, .int 0, .ref (b 9), .int 0, .ref (b 11), .ref (b 12), .ref (b 13), .ref (b 14), .ref (b 15), .ref (b 16), .ref (b 17), .ref (b 18), .int 0, .ref (b 20), .int 0, .int 0, .int 0, .ref (b 24), .ref (b 25), .ref (b 26), .int 0, .int 0, .ref (b 29), .ref (b 30), .int 0, .ref (b 32), .ref (b 33), .ref (b 34), .ref (b 35), .ref (b 36), .ref (b 37), .int 0, .int 0, .ref (b 40), .ref (b 41), .ref (b 42), .ref (b 43), .ref (b 44), .int 0, .ref (b 46), .ref (b 47), .ref (b 48)]))]) (w1 := [(o, .inl (dA 3, 1, .inr (.inl u8)))]) hP hD [0, 1, 2] [3] rfl rfl (by decide) (by decide) hk1 hFc hP1 hD1
    generalize H1 = H at hP hS ⊢
    have hP : va_P D vwCl [(b 0, .inr (12, [.int 0, .int 0, .ref (b 2), .ref (b 3), .ref (b 4), .int 0, .int 0, .int 0, .int 0, .ref (b 9), .int 0, .ref (b 11), .ref (b 12), .ref (b 13), .ref (b 14), .ref (b 15), .ref (b 16), .ref (b 17), .ref (b 18), .int 0, .ref (b 20), .int 0, .int 0, .int 0, .ref (b 24), .ref (b 25), .ref (b 26), .int 0, .int 0, .ref (b 29), .ref (b 30), .int 0, .ref (b 32), .ref (b 33), .ref (b 34), .ref (b 35), .ref (b 36), .ref (b 37), .int 0, .int 0, .ref (b 40), .ref (b 41), .ref (b 42), .ref (b 43), .ref (b 44), .int 0, .ref (b 46), .ref (b 47), .ref (b 48)])), (o, .inl (dA 3, 1, .inr (.inl u8)))] H := hP
    have hD : va_D A [(b 0, .inr (12, [.int 0, .int 0, .ref (b 2), .ref (b 3), .ref (b 4), .int 0, .int 0, .int 0, .int 0, .ref (b 9), .int 0, .ref (b 11), .ref (b 12), .ref (b 13), .ref (b 14), .ref (b 15), .ref (b 16), .ref (b 17), .ref (b 18), .int 0, .ref (b 20), .int 0, .int 0, .int 0, .ref (b 24), .ref (b 25), .ref (b 26), .int 0, .int 0, .ref (b 29), .ref (b 30), .int 0, .ref (b 32), .ref (b 33), .ref (b 34), .ref (b 35), .ref (b 36), .ref (b 37), .int 0, .int 0, .ref (b 40), .ref (b 41), .ref (b 42), .ref (b 43), .ref (b 44), .int 0, .ref (b 46), .ref (b 47), .ref (b 48)])), (o, .inl (dA 3, 1, .inr (.inl u8)))] := hD
    have hP := hP.sub (ws' := [(o, .inl (dA 3, 1, .inr (.inl u8))), (b 0, .inr (12, [.int 0, .int 0, .ref (b 2), .ref (b 3), .ref (b 4), .int 0, .int 0, .int 0, .int 0, .ref (b 9), .int 0, .ref (b 11), .ref (b 12), .ref (b 13), .ref (b 14), .ref (b 15), .ref (b 16), .ref (b 17), .ref (b 18), .int 0, .ref (b 20), .int 0, .int 0, .int 0, .ref (b 24), .ref (b 25), .ref (b 26), .int 0, .int 0, .ref (b 29), .ref (b 30), .int 0, .ref (b 32), .ref (b 33), .ref (b 34), .ref (b 35), .ref (b 36), .ref (b 37), .int 0, .int 0, .ref (b 40), .ref (b 41), .ref (b 42), .ref (b 43), .ref (b 44), .int 0, .ref (b 46), .ref (b 47), .ref (b 48)]))]) [1, 0] rfl
    have hD := hD.sub (ws' := [(o, .inl (dA 3, 1, .inr (.inl u8))), (b 0, .inr (12, [.int 0, .int 0, .ref (b 2), .ref (b 3), .ref (b 4), .int 0, .int 0, .int 0, .int 0, .ref (b 9), .int 0, .ref (b 11), .ref (b 12), .ref (b 13), .ref (b 14), .ref (b 15), .ref (b 16), .ref (b 17), .ref (b 18), .int 0, .ref (b 20), .int 0, .int 0, .int 0, .ref (b 24), .ref (b 25), .ref (b 26), .int 0, .int 0, .ref (b 29), .ref (b 30), .int 0, .ref (b 32), .ref (b 33), .ref (b 34), .ref (b 35), .ref (b 36), .ref (b 37), .int 0, .int 0, .ref (b 40), .ref (b 41), .ref (b 42), .ref (b 43), .ref (b 44), .int 0, .ref (b 46), .ref (b 47), .ref (b 48)]))]) [1, 0] (by decide) rfl
    have hk := hw9
    obtain rfl : r7 = 1 := hk
    refine lv_istore (lv' := [(6, .int 1), (5, .int 0), (4, .ref od), (3, .ref o), (2, .ref (b 0)), (1, .ref (a 0)), (0, .ref bs)]) hx hb dL_law_1580 hl (by decide) rfl (fun ls hl => ?_)
    refine lv_aload_n hx hb dL_law_1582 rfl (lv_at hl 4 rfl) ?_
    refine lv_aload_n hx hb dL_law_1583 rfl (lv_at hl 6 rfl) ?_
    refine lv_iload hx hb dL_law_1584 (lv_at hl 1 rfl) ?_
    refine lv_iconst (v := 1) hx hb dL_law_1586 (by decide) ?_
    refine lv_iadd hx hb dL_law_1587 ?_
    refine lv_topi (fun x10 ex10 => ?_)
    replace ex10 : x10 = 1 := ex10.trans (by decide)
    subst ex10
    refine va_sld hx hb hX hbl hbA hS (vi_c (by decide)) dL_law_1588 ?_
    refine lv_topi (fun x11 ex11 => ?_)
    obtain rfl : x2 = x11 := ex2.trans ex11.symm
    refine lv_aload_n hx hb dL_law_1589 rfl (lv_at hl 6 rfl) ?_
    refine lv_iload hx hb dL_law_1590 (lv_at hl 1 rfl) ?_
    refine lv_iconst (v := 2) hx hb dL_law_1592 (by decide) ?_
    refine lv_iadd hx hb dL_law_1593 ?_
    refine lv_topi (fun x12 ex12 => ?_)
    replace ex12 : x12 = 2 := ex12.trans (by decide)
    subst ex12
    refine va_sld hx hb hX hbl hbA hS (vi_c (by decide)) dL_law_1594 ?_
    refine lv_topi (fun x13 ex13 => ?_)
    obtain rfl : x4 = x13 := ex4.trans ex13.symm
    refine lv_aload_n hx hb dL_law_1595 rfl (lv_at hl 6 rfl) ?_
    refine lv_iload hx hb dL_law_1596 (lv_at hl 1 rfl) ?_
    refine lv_iconst (v := 3) hx hb dL_law_1598 (by decide) ?_
    refine lv_iadd hx hb dL_law_1599 ?_
    refine lv_topi (fun x14 ex14 => ?_)
    replace ex14 : x14 = 3 := ex14.trans (by decide)
    subst ex14
    refine va_sld hx hb hX hbl hbA hS (vi_c (by decide)) dL_law_1600 ?_
    refine lv_topi (fun x15 ex15 => ?_)
    obtain rfl : x6 = x15 := ex6.trans ex15.symm
    have hPc := hP.sub (ws' := [(b 0, .inr (12, [.int 0, .int 0, .ref (b 2), .ref (b 3), .ref (b 4), .int 0, .int 0, .int 0, .int 0, .ref (b 9), .int 0, .ref (b 11), .ref (b 12), .ref (b 13), .ref (b 14), .ref (b 15), .ref (b 16), .ref (b 17), .ref (b 18), .int 0, .ref (b 20), .int 0, .int 0, .int 0, .ref (b 24), .ref (b 25), .ref (b 26), .int 0, .int 0, .ref (b 29), .ref (b 30), .int 0, .ref (b 32), .ref (b 33), .ref (b 34), .ref (b 35), .ref (b 36), .ref (b 37), .int 0, .int 0, .ref (b 40), .ref (b 41), .ref (b 42), .ref (b 43), .ref (b 44), .int 0, .ref (b 46), .ref (b 47), .ref (b 48)]))]) [1] rfl
    have hDc := hD.sub (ws' := [(b 0, .inr (12, [.int 0, .int 0, .ref (b 2), .ref (b 3), .ref (b 4), .int 0, .int 0, .int 0, .int 0, .ref (b 9), .int 0, .ref (b 11), .ref (b 12), .ref (b 13), .ref (b 14), .ref (b 15), .ref (b 16), .ref (b 17), .ref (b 18), .int 0, .ref (b 20), .int 0, .int 0, .int 0, .ref (b 24), .ref (b 25), .ref (b 26), .int 0, .int 0, .ref (b 29), .ref (b 30), .int 0, .ref (b 32), .ref (b 33), .ref (b 34), .ref (b 35), .ref (b 36), .ref (b 37), .int 0, .int 0, .ref (b 40), .ref (b 41), .ref (b 42), .ref (b 43), .ref (b 44), .int 0, .ref (b 46), .ref (b 47), .ref (b 48)]))]) [1] (by decide) rfl
    have hFc := va_free (wc := [(b 0, .inr (12, [.int 0, .int 0, .ref (b 2), .ref (b 3), .ref (b 4), .int 0, .int 0, .int 0, .int 0, .ref (b 9), .int 0, .ref (b 11), .ref (b 12), .ref (b 13), .ref (b 14), .ref (b 15), .ref (b 16), .ref (b 17), .ref (b 18), .int 0, .ref (b 20), .int 0, .int 0, .int 0, .ref (b 24), .ref (b 25), .ref (b 26), .int 0, .int 0, .ref (b 29), .ref (b 30), .int 0, .ref (b 32), .ref (b 33), .ref (b 34), .ref (b 35), .ref (b 36), .ref (b 37), .int 0, .int 0, .ref (b 40), .ref (b 41), .ref (b 42), .ref (b 43), .ref (b 44), .int 0, .ref (b 46), .ref (b 47), .ref (b 48)]))]) hD hS hA [1] rfl
    refine va_calll (va_runV (As := [.int x2, .int x4, .int x6]) (rest := []) ⟨hx, hb, hml, hown, hts⟩ (c_M_scoreAlone l D dA E b x2 x4 x6 H.size ) (cwV 3 hts (ga_V q650 q651 q648 q278 q649) rfl rfl rfl (by decide +kernel) ⟨(Nat.le_of_ble_eq_true rfl), (Nat.le_of_ble_eq_true rfl)⟩) ⟨pb_blind, va_recv hK hPc (ci := 12) (q0 := 0) rfl rfl, pb_pre hK hPc hDc hZ hS hFc _⟩ rfl rfl hl.1 rfl (lv_room (Nat.le_of_ble_eq_true rfl)) dL_law_1601 ⟨(Nat.le_of_ble_eq_true rfl), (Nat.le_of_ble_eq_true rfl)⟩) hS (fun q _ h => hFc q h) hFc (fun r u t H1 locs ht hvm hw hB hz1 hk1 hS => ?_)
    refine W.widen (k := 66) (n := 11784) (Nat.le_of_ble_eq_true rfl) (Nat.le_of_ble_eq_true rfl) ?_
    obtain ⟨r16, rfl⟩ : ∃ z, z = r := ⟨_, rfl⟩
    obtain ⟨u17, rfl⟩ : ∃ z, z = u := ⟨_, rfl⟩
    have hw18 := hw
    clear hw
    obtain ⟨hP1, hD1⟩ := hB
    rw [ht] at hP1
    obtain ⟨hP, hD⟩ := va_join (wr := [(o, .inl (dA 3, 1, .inr (.inl u8)))]) (w1 := [(b 0, .inr (12, .int u17.1 :: u17.2))]) hP hD [1] [0] rfl rfl (by decide) (by decide) hk1 hFc hP1 hD1
    generalize H1 = H at hP hS ⊢
    have hP : va_P D vwCl [(o, .inl (dA 3, 1, .inr (.inl u8))), (b 0, .inr (12, .int u17.1 :: u17.2))] H := hP
    have hD : va_D A [(o, .inl (dA 3, 1, .inr (.inl u8))), (b 0, .inr (12, .int u17.1 :: u17.2))] := hD
    have hP := hP.sub (ws' := [(b 0, .inr (12, .int u17.1 :: u17.2)), (o, .inl (dA 3, 1, .inr (.inl u8)))]) [1, 0] rfl
    have hD := hD.sub (ws' := [(b 0, .inr (12, .int u17.1 :: u17.2)), (o, .inl (dA 3, 1, .inr (.inl u8)))]) [1, 0] (by decide) rfl
    have hm : u17.1 = 1 := hw18
    rw [hm] at hP hD
    have hP : va_P D vwCl [(b 0, .inr (12, .int 1 :: u17.2)), (o, .inl (dA 3, 1, .inr (.inl u8)))] H := hP
    have hD : va_D A [(b 0, .inr (12, .int 1 :: u17.2)), (o, .inl (dA 3, 1, .inr (.inl u8)))] := hD
    refine lv_lstore (lv' := [(7, .long r16), (6, .int 1), (5, .int 0), (4, .ref od), (3, .ref o), (2, .ref (b 0)), (1, .ref (a 0)), (0, .ref bs)]) hx hb dL_law_1604 hl (by decide) rfl (fun ls hl => ?_)
    refine lv_aload_n hx hb dL_law_1606 rfl (lv_at hl 5 rfl) ?_
    have hPc := hP.sub (ws' := [(b 0, .inr (12, .int 1 :: u17.2))]) [0] rfl
    have hDc := hD.sub (ws' := [(b 0, .inr (12, .int 1 :: u17.2))]) [0] (by decide) rfl
    have hFc := va_free (wc := [(b 0, .inr (12, .int 1 :: u17.2))]) hD hS hA [0] rfl
    refine va_calli (va_runV (As := []) (rest := []) ⟨hx, hb, hml, hown, hts⟩ (c_M_thrown l D dA E (b 0) 1 u17.2 H.size ) (cwV 0 hts (ga_V q470 q471 q468 q278 q469) rfl rfl rfl (by decide +kernel) ⟨(Nat.le_of_ble_eq_true rfl), (Nat.le_of_ble_eq_true rfl)⟩) ⟨pb_blind, va_recv hK hPc (ci := 12) (q0 := 0) rfl rfl, pb_pre hK hPc hDc hZ hS hFc _⟩ rfl rfl hl.1 rfl (lv_room (Nat.le_of_ble_eq_true rfl)) dL_law_1607 ⟨(Nat.le_of_ble_eq_true rfl), (Nat.le_of_ble_eq_true rfl)⟩) hS (fun q _ h => hFc q h) hFc (fun r u t H1 locs ht hvm hw hB hz1 hk1 hS => ?_)
    refine W.widen (k := 66) (n := 11784) (Nat.le_of_ble_eq_true rfl) (Nat.le_of_ble_eq_true rfl) ?_
    obtain ⟨r19, rfl⟩ : ∃ z, z = r := ⟨_, rfl⟩
    obtain ⟨u20, rfl⟩ : ∃ z, z = u := ⟨_, rfl⟩
    have hw21 := hw
    clear hw
    obtain ⟨hP, hD⟩ := jn_drop (wr := [(o, .inl (dA 3, 1, .inr (.inl u8)))]) hP hD [0] [1] rfl rfl (by decide) (by decide) hk1 hFc
    generalize H1 = H at hP hS ⊢
    have hP : va_P D vwCl [(o, .inl (dA 3, 1, .inr (.inl u8)))] H := hP
    have hD : va_D A [(o, .inl (dA 3, 1, .inr (.inl u8)))] := hD
    obtain rfl : r19 = 1 := hw21
    refine lv_iload hx hb dL_law_1610 (lv_at hl 1 rfl) ?_
    refine lv_icmp_eq (tgt := 1617) hx hb dL_law_1612 (by decide) (fun _ => ?_) (fun c22 => absurd (by decide) c22)
    refine lv_iload hx hb dL_law_1617 (lv_at hl 1 rfl) ?_
    refine lv_if_ne (tgt := 1633) hx hb dL_law_1619 (by decide) (fun _ => ?_) (fun c23 => absurd c23 (by decide))
    refine lv_goto (tgt := 2346) hx hb dL_law_1633 (by decide) ?_
    exact law_tail l C0 rfl (by rw [hAe]; exact hS) (Nat.le_of_ble_eq_true rfl) (Nat.le_of_ble_eq_true rfl) ls (lv_sub hl [7, 2] rfl)

set_option maxHeartbeats 4000000 in
set_option maxRecDepth 100000 in
/-- the law at tagged -/
theorem law_26 {p : Program} {e : Env} {s : State} {m : MethodId} {below : List Frame} {meth : Method} {c : Code} (l : Launch) (hlt : l.stackTraces = false) {bs L : Nat} {xs : Nat → Int32} (C0 : lw_At p s m meth c bs L xs) (hL6 : L = 6) (D : va_G) (dA : Nat → ClassId) (E : Nat) (A : Nat → Prop) (hAe : (fun q : Nat => s.heap.size ≤ q) = A) (a b : Nat → Nat) (o od : Nat) (hK : va_K D vwCl (TY dA) s) (hZ : ZZ dA E A s s.heap) (H : Heap) (locs : List Loc) (hP : va_P D vwCl [(a 0, .inr (11, [.ref (a 1), .ref (a 2), .ref (a 3), .ref (a 4), .ref (a 5), .ref (a 10), .ref (a 15), .ref (a 17), .null, .int 0, .int 0, .int 0])), (a 3, .inr (2, [.int 0, .ref E, .int 0])), (o, .inl (dA 3, 1, .inr (.inl (fun _ => 0)))), (b 0, .inr (12, [.int 0, .int 0, .ref (b 2), .ref (b 3), .ref (b 4), .int 0, .int 0, .int 0, .int 0, .ref (b 9), .int 0, .ref (b 11), .ref (b 12), .ref (b 13), .ref (b 14), .ref (b 15), .ref (b 16), .ref (b 17), .ref (b 18), .int 0, .ref (b 20), .int 0, .int 0, .int 0, .ref (b 24), .ref (b 25), .ref (b 26), .int 0, .int 0, .ref (b 29), .ref (b 30), .int 0, .ref (b 32), .ref (b 33), .ref (b 34), .ref (b 35), .ref (b 36), .ref (b 37), .int 0, .int 0, .ref (b 40), .ref (b 41), .ref (b 42), .ref (b 43), .ref (b 44), .int 0, .ref (b 46), .ref (b 47), .ref (b 48)]))] H) (hD : va_D A [(a 0, .inr (11, [.ref (a 1), .ref (a 2), .ref (a 3), .ref (a 4), .ref (a 5), .ref (a 10), .ref (a 15), .ref (a 17), .null, .int 0, .int 0, .int 0])), (a 3, .inr (2, [.int 0, .ref E, .int 0])), (o, .inl (dA 3, 1, .inr (.inl (fun _ => 0)))), (b 0, .inr (12, [.int 0, .int 0, .ref (b 2), .ref (b 3), .ref (b 4), .int 0, .int 0, .int 0, .int 0, .ref (b 9), .int 0, .ref (b 11), .ref (b 12), .ref (b 13), .ref (b 14), .ref (b 15), .ref (b 16), .ref (b 17), .ref (b 18), .int 0, .ref (b 20), .int 0, .int 0, .int 0, .ref (b 24), .ref (b 25), .ref (b 26), .int 0, .int 0, .ref (b 29), .ref (b 30), .int 0, .ref (b 32), .ref (b 33), .ref (b 34), .ref (b 35), .ref (b 36), .ref (b 37), .int 0, .int 0, .ref (b 40), .ref (b 41), .ref (b 42), .ref (b 43), .ref (b 44), .int 0, .ref (b 46), .ref (b 47), .ref (b 48)]))]) (hS : va_S A s.heap H locs) (ls : Array Slot) (hl : lv_has ls 9 [(5, .int 0), (4, .ref od), (3, .ref o), (2, .ref (b 0)), (1, .ref (a 0)), (0, .ref bs)]) : W p l e room_1 s m #[Value.ref bs] below meth c H locs 65 11778 (lw_Z below #[Value.ref bs] s) (F0 m 1636 ls []) := by
  subst hL6
  obtain ⟨hx, hb, hr, hml, hown, hts0, hX, hbl, hlocks, hgv⟩ := id C0
  have hts : ∀ w ∈ WA, w.before #[Value.ref bs] s = true := fun w h => hts0 w (WA_tbl h)
  have hA : ∀ q : Nat, s.heap.size ≤ q → A q := fun q h => by rw [← hAe]; exact h
  have hbA : ¬ A bs := by rw [← hAe]; exact Nat.not_le.mpr hbl
  refine lv_aload_n hx hb dL_law_1636 rfl (lv_at hl 4 rfl) ?_
  refine lv_aload_n hx hb dL_law_1637 rfl (lv_at hl 5 rfl) ?_
  refine lv_iload hx hb dL_law_1638 (lv_at hl 0 rfl) ?_
  refine lv_iconst (v := 1) hx hb dL_law_1640 (by decide) ?_
  refine lv_iadd hx hb dL_law_1641 ?_
  refine lv_topi (fun x1 ex1 => ?_)
  replace ex1 : x1 = 1 := ex1.trans (by decide)
  subst ex1
  refine va_sld hx hb hX hbl hbA hS (vi_c (by decide)) dL_law_1642 ?_
  refine lv_topi (fun x2 ex2 => ?_)
  refine lv_aload_n hx hb dL_law_1643 rfl (lv_at hl 5 rfl) ?_
  refine lv_iload hx hb dL_law_1644 (lv_at hl 0 rfl) ?_
  refine lv_iconst (v := 2) hx hb dL_law_1646 (by decide) ?_
  refine lv_iadd hx hb dL_law_1647 ?_
  refine lv_topi (fun x3 ex3 => ?_)
  replace ex3 : x3 = 2 := ex3.trans (by decide)
  subst ex3
  refine va_sld hx hb hX hbl hbA hS (vi_c (by decide)) dL_law_1648 ?_
  refine lv_topi (fun x4 ex4 => ?_)
  refine lv_aload_n hx hb dL_law_1649 rfl (lv_at hl 5 rfl) ?_
  refine lv_iload hx hb dL_law_1650 (lv_at hl 0 rfl) ?_
  refine lv_iconst (v := 3) hx hb dL_law_1652 (by decide) ?_
  refine lv_iadd hx hb dL_law_1653 ?_
  refine lv_topi (fun x5 ex5 => ?_)
  replace ex5 : x5 = 3 := ex5.trans (by decide)
  subst ex5
  refine va_sld hx hb hX hbl hbA hS (vi_c (by decide)) dL_law_1654 ?_
  refine lv_topi (fun x6 ex6 => ?_)
  refine lv_aload_n hx hb dL_law_1655 rfl (lv_at hl 2 rfl) ?_
  have hPc := hP.sub (ws' := [(a 0, .inr (11, [.ref (a 1), .ref (a 2), .ref (a 3), .ref (a 4), .ref (a 5), .ref (a 10), .ref (a 15), .ref (a 17), .null, .int 0, .int 0, .int 0])), (a 3, .inr (2, [.int 0, .ref E, .int 0])), (o, .inl (dA 3, 1, .inr (.inl (fun _ => 0))))]) [0, 1, 2] rfl
  have hDc := hD.sub (ws' := [(a 0, .inr (11, [.ref (a 1), .ref (a 2), .ref (a 3), .ref (a 4), .ref (a 5), .ref (a 10), .ref (a 15), .ref (a 17), .null, .int 0, .int 0, .int 0])), (a 3, .inr (2, [.int 0, .ref E, .int 0])), (o, .inl (dA 3, 1, .inr (.inl (fun _ => 0))))]) [0, 1, 2] (by decide) rfl
  have hFc := va_free (wc := [(a 0, .inr (11, [.ref (a 1), .ref (a 2), .ref (a 3), .ref (a 4), .ref (a 5), .ref (a 10), .ref (a 15), .ref (a 17), .null, .int 0, .int 0, .int 0])), (a 3, .inr (2, [.int 0, .ref E, .int 0])), (o, .inl (dA 3, 1, .inr (.inl (fun _ => 0))))]) hD hS hA [0, 1, 2] rfl
  refine vx_calli (vx_runSX (As := [.ref (a 0), .int x2, .int x4, .int x6, .ref o]) (rest := []) ⟨hx, hb, hml, hown, hts⟩ (c_L_tagged l hlt D dA E a o (fun _ => 0) x2 x4 x6 H.size ) (vx_cwSW 5 hts (ga_S q653 q654 q463 q652) rfl rfl rfl (by decide +kernel) ⟨(Nat.le_of_ble_eq_true rfl), (Nat.le_of_ble_eq_true rfl)⟩) ⟨pb_blind, pb_pre hK hPc hDc hZ hS hFc _⟩ rfl rfl hl.1 rfl (lv_room (Nat.le_of_ble_eq_true rfl)) dL_law_1656 ⟨(Nat.le_of_ble_eq_true rfl), (Nat.le_of_ble_eq_true rfl)⟩) hS (fun q _ h => hFc q h) hFc (fun q _ h => hFc q h) (fun E9 ce q9 k t H1 locs ht hvm hpx hBX hz1 hk1 hS hce hcv hcl => ?_) (fun r u t H1 locs ht hvm hw hB hz1 hk1 hS => ?_)
  · exact hpx.elim
  · refine W.widen (k := 66) (n := 11784) (Nat.le_of_ble_eq_true rfl) (Nat.le_of_ble_eq_true rfl) ?_
    obtain ⟨r7, rfl⟩ : ∃ z, z = r := ⟨_, rfl⟩
    obtain ⟨u8, rfl⟩ : ∃ z, z = u := ⟨_, rfl⟩
    have hw9 := hw
    clear hw
    obtain ⟨hP1, hD1⟩ := hB
    rw [ht] at hP1
    obtain ⟨hP, hD⟩ := va_join (wr := [(b 0, .inr (12, [.int 0, .int 0, .ref (b 2), .ref (b 3), .ref (b 4), .int 0, .int 0, .int 0, .int 0, .ref (b 9), .int 0, .ref (b 11), .ref (b 12), .ref (b 13), .ref (b 14), .ref (b 15), .ref (b 16), .ref (b 17), .ref (b 18), .int 0, .ref (b 20), .int 0, .int 0, .int 0, .ref (b 24), .ref (b 25), .ref (b 26), .int 0, .int 0, .ref (b 29), .ref (b 30), .int 0, .ref (b 32), .ref (b 33), .ref (b 34), .ref (b 35), .ref (b 36), .ref (b 37), .int 0, .int 0, .ref (b 40), .ref (b 41), .ref (b 42), .ref (b 43), .ref (b 44), .int 0, .ref (b 46), .ref (b 47), .ref (b 48)]))]) (w1 := [(o, .inl (dA 3, 1, .inr (.inl u8)))]) hP hD [0, 1, 2] [3] rfl rfl (by decide) (by decide) hk1 hFc hP1 hD1
    generalize H1 = H at hP hS ⊢
    have hP : va_P D vwCl [(b 0, .inr (12, [.int 0, .int 0, .ref (b 2), .ref (b 3), .ref (b 4), .int 0, .int 0, .int 0, .int 0, .ref (b 9), .int 0, .ref (b 11), .ref (b 12), .ref (b 13), .ref (b 14), .ref (b 15), .ref (b 16), .ref (b 17), .ref (b 18), .int 0, .ref (b 20), .int 0, .int 0, .int 0, .ref (b 24), .ref (b 25), .ref (b 26), .int 0, .int 0, .ref (b 29), .ref (b 30), .int 0, .ref (b 32), .ref (b 33), .ref (b 34), .ref (b 35), .ref (b 36), .ref (b 37), .int 0, .int 0, .ref (b 40), .ref (b 41), .ref (b 42), .ref (b 43), .ref (b 44), .int 0, .ref (b 46), .ref (b 47), .ref (b 48)])), (o, .inl (dA 3, 1, .inr (.inl u8)))] H := hP
    have hD : va_D A [(b 0, .inr (12, [.int 0, .int 0, .ref (b 2), .ref (b 3), .ref (b 4), .int 0, .int 0, .int 0, .int 0, .ref (b 9), .int 0, .ref (b 11), .ref (b 12), .ref (b 13), .ref (b 14), .ref (b 15), .ref (b 16), .ref (b 17), .ref (b 18), .int 0, .ref (b 20), .int 0, .int 0, .int 0, .ref (b 24), .ref (b 25), .ref (b 26), .int 0, .int 0, .ref (b 29), .ref (b 30), .int 0, .ref (b 32), .ref (b 33), .ref (b 34), .ref (b 35), .ref (b 36), .ref (b 37), .int 0, .int 0, .ref (b 40), .ref (b 41), .ref (b 42), .ref (b 43), .ref (b 44), .int 0, .ref (b 46), .ref (b 47), .ref (b 48)])), (o, .inl (dA 3, 1, .inr (.inl u8)))] := hD
    have hP := hP.sub (ws' := [(o, .inl (dA 3, 1, .inr (.inl u8))), (b 0, .inr (12, [.int 0, .int 0, .ref (b 2), .ref (b 3), .ref (b 4), .int 0, .int 0, .int 0, .int 0, .ref (b 9), .int 0, .ref (b 11), .ref (b 12), .ref (b 13), .ref (b 14), .ref (b 15), .ref (b 16), .ref (b 17), .ref (b 18), .int 0, .ref (b 20), .int 0, .int 0, .int 0, .ref (b 24), .ref (b 25), .ref (b 26), .int 0, .int 0, .ref (b 29), .ref (b 30), .int 0, .ref (b 32), .ref (b 33), .ref (b 34), .ref (b 35), .ref (b 36), .ref (b 37), .int 0, .int 0, .ref (b 40), .ref (b 41), .ref (b 42), .ref (b 43), .ref (b 44), .int 0, .ref (b 46), .ref (b 47), .ref (b 48)]))]) [1, 0] rfl
    have hD := hD.sub (ws' := [(o, .inl (dA 3, 1, .inr (.inl u8))), (b 0, .inr (12, [.int 0, .int 0, .ref (b 2), .ref (b 3), .ref (b 4), .int 0, .int 0, .int 0, .int 0, .ref (b 9), .int 0, .ref (b 11), .ref (b 12), .ref (b 13), .ref (b 14), .ref (b 15), .ref (b 16), .ref (b 17), .ref (b 18), .int 0, .ref (b 20), .int 0, .int 0, .int 0, .ref (b 24), .ref (b 25), .ref (b 26), .int 0, .int 0, .ref (b 29), .ref (b 30), .int 0, .ref (b 32), .ref (b 33), .ref (b 34), .ref (b 35), .ref (b 36), .ref (b 37), .int 0, .int 0, .ref (b 40), .ref (b 41), .ref (b 42), .ref (b 43), .ref (b 44), .int 0, .ref (b 46), .ref (b 47), .ref (b 48)]))]) [1, 0] (by decide) rfl
    have hk := hw9
    obtain rfl : r7 = 1 := hk
    refine lv_istore (lv' := [(6, .int 1), (5, .int 0), (4, .ref od), (3, .ref o), (2, .ref (b 0)), (1, .ref (a 0)), (0, .ref bs)]) hx hb dL_law_1659 hl (by decide) rfl (fun ls hl => ?_)
    refine lv_aload_n hx hb dL_law_1661 rfl (lv_at hl 4 rfl) ?_
    refine lv_aload_n hx hb dL_law_1662 rfl (lv_at hl 6 rfl) ?_
    refine lv_iload hx hb dL_law_1663 (lv_at hl 1 rfl) ?_
    refine lv_iconst (v := 1) hx hb dL_law_1665 (by decide) ?_
    refine lv_iadd hx hb dL_law_1666 ?_
    refine lv_topi (fun x10 ex10 => ?_)
    replace ex10 : x10 = 1 := ex10.trans (by decide)
    subst ex10
    refine va_sld hx hb hX hbl hbA hS (vi_c (by decide)) dL_law_1667 ?_
    refine lv_topi (fun x11 ex11 => ?_)
    obtain rfl : x2 = x11 := ex2.trans ex11.symm
    refine lv_aload_n hx hb dL_law_1668 rfl (lv_at hl 6 rfl) ?_
    refine lv_iload hx hb dL_law_1669 (lv_at hl 1 rfl) ?_
    refine lv_iconst (v := 2) hx hb dL_law_1671 (by decide) ?_
    refine lv_iadd hx hb dL_law_1672 ?_
    refine lv_topi (fun x12 ex12 => ?_)
    replace ex12 : x12 = 2 := ex12.trans (by decide)
    subst ex12
    refine va_sld hx hb hX hbl hbA hS (vi_c (by decide)) dL_law_1673 ?_
    refine lv_topi (fun x13 ex13 => ?_)
    obtain rfl : x4 = x13 := ex4.trans ex13.symm
    refine lv_aload_n hx hb dL_law_1674 rfl (lv_at hl 6 rfl) ?_
    refine lv_iload hx hb dL_law_1675 (lv_at hl 1 rfl) ?_
    refine lv_iconst (v := 3) hx hb dL_law_1677 (by decide) ?_
    refine lv_iadd hx hb dL_law_1678 ?_
    refine lv_topi (fun x14 ex14 => ?_)
    replace ex14 : x14 = 3 := ex14.trans (by decide)
    subst ex14
    refine va_sld hx hb hX hbl hbA hS (vi_c (by decide)) dL_law_1679 ?_
    refine lv_topi (fun x15 ex15 => ?_)
    obtain rfl : x6 = x15 := ex6.trans ex15.symm
    have hPc := hP.sub (ws' := [(b 0, .inr (12, [.int 0, .int 0, .ref (b 2), .ref (b 3), .ref (b 4), .int 0, .int 0, .int 0, .int 0, .ref (b 9), .int 0, .ref (b 11), .ref (b 12), .ref (b 13), .ref (b 14), .ref (b 15), .ref (b 16), .ref (b 17), .ref (b 18), .int 0, .ref (b 20), .int 0, .int 0, .int 0, .ref (b 24), .ref (b 25), .ref (b 26), .int 0, .int 0, .ref (b 29), .ref (b 30), .int 0, .ref (b 32), .ref (b 33), .ref (b 34), .ref (b 35), .ref (b 36), .ref (b 37), .int 0, .int 0, .ref (b 40), .ref (b 41), .ref (b 42), .ref (b 43), .ref (b 44), .int 0, .ref (b 46), .ref (b 47), .ref (b 48)]))]) [1] rfl
    have hDc := hD.sub (ws' := [(b 0, .inr (12, [.int 0, .int 0, .ref (b 2), .ref (b 3), .ref (b 4), .int 0, .int 0, .int 0, .int 0, .ref (b 9), .int 0, .ref (b 11), .ref (b 12), .ref (b 13), .ref (b 14), .ref (b 15), .ref (b 16), .ref (b 17), .ref (b 18), .int 0, .ref (b 20), .int 0, .int 0, .int 0, .ref (b 24), .ref (b 25), .ref (b 26), .int 0, .int 0, .ref (b 29), .ref (b 30), .int 0, .ref (b 32), .ref (b 33), .ref (b 34), .ref (b 35), .ref (b 36), .ref (b 37), .int 0, .int 0, .ref (b 40), .ref (b 41), .ref (b 42), .ref (b 43), .ref (b 44), .int 0, .ref (b 46), .ref (b 47), .ref (b 48)]))]) [1] (by decide) rfl
    have hFc := va_free (wc := [(b 0, .inr (12, [.int 0, .int 0, .ref (b 2), .ref (b 3), .ref (b 4), .int 0, .int 0, .int 0, .int 0, .ref (b 9), .int 0, .ref (b 11), .ref (b 12), .ref (b 13), .ref (b 14), .ref (b 15), .ref (b 16), .ref (b 17), .ref (b 18), .int 0, .ref (b 20), .int 0, .int 0, .int 0, .ref (b 24), .ref (b 25), .ref (b 26), .int 0, .int 0, .ref (b 29), .ref (b 30), .int 0, .ref (b 32), .ref (b 33), .ref (b 34), .ref (b 35), .ref (b 36), .ref (b 37), .int 0, .int 0, .ref (b 40), .ref (b 41), .ref (b 42), .ref (b 43), .ref (b 44), .int 0, .ref (b 46), .ref (b 47), .ref (b 48)]))]) hD hS hA [1] rfl
    refine va_calli (va_runV (As := [.int x2, .int x4, .int x6]) (rest := []) ⟨hx, hb, hml, hown, hts⟩ (c_M_tagged l D dA E b x2 x4 x6 H.size ) (cwV 3 hts (ga_V q657 q658 q655 q278 q656) rfl rfl rfl (by decide +kernel) ⟨(Nat.le_of_ble_eq_true rfl), (Nat.le_of_ble_eq_true rfl)⟩) ⟨pb_blind, va_recv hK hPc (ci := 12) (q0 := 0) rfl rfl, pb_pre hK hPc hDc hZ hS hFc _⟩ rfl rfl hl.1 rfl (lv_room (Nat.le_of_ble_eq_true rfl)) dL_law_1680 ⟨(Nat.le_of_ble_eq_true rfl), (Nat.le_of_ble_eq_true rfl)⟩) hS (fun q _ h => hFc q h) hFc (fun r u t H1 locs ht hvm hw hB hz1 hk1 hS => ?_)
    refine W.widen (k := 66) (n := 11784) (Nat.le_of_ble_eq_true rfl) (Nat.le_of_ble_eq_true rfl) ?_
    obtain ⟨r16, rfl⟩ : ∃ z, z = r := ⟨_, rfl⟩
    obtain ⟨u17, rfl⟩ : ∃ z, z = u := ⟨_, rfl⟩
    have hw18 := hw
    clear hw
    obtain ⟨hP1, hD1⟩ := hB
    rw [ht] at hP1
    obtain ⟨hP, hD⟩ := va_join (wr := [(o, .inl (dA 3, 1, .inr (.inl u8)))]) (w1 := [(b 0, .inr (12, .int u17.1 :: u17.2))]) hP hD [1] [0] rfl rfl (by decide) (by decide) hk1 hFc hP1 hD1
    generalize H1 = H at hP hS ⊢
    have hP : va_P D vwCl [(o, .inl (dA 3, 1, .inr (.inl u8))), (b 0, .inr (12, .int u17.1 :: u17.2))] H := hP
    have hD : va_D A [(o, .inl (dA 3, 1, .inr (.inl u8))), (b 0, .inr (12, .int u17.1 :: u17.2))] := hD
    have hP := hP.sub (ws' := [(b 0, .inr (12, .int u17.1 :: u17.2)), (o, .inl (dA 3, 1, .inr (.inl u8)))]) [1, 0] rfl
    have hD := hD.sub (ws' := [(b 0, .inr (12, .int u17.1 :: u17.2)), (o, .inl (dA 3, 1, .inr (.inl u8)))]) [1, 0] (by decide) rfl
    have hm : u17.1 = 1 := hw18
    rw [hm] at hP hD
    have hP : va_P D vwCl [(b 0, .inr (12, .int 1 :: u17.2)), (o, .inl (dA 3, 1, .inr (.inl u8)))] H := hP
    have hD : va_D A [(b 0, .inr (12, .int 1 :: u17.2)), (o, .inl (dA 3, 1, .inr (.inl u8)))] := hD
    refine lv_istore (lv' := [(7, .int r16), (6, .int 1), (5, .int 0), (4, .ref od), (3, .ref o), (2, .ref (b 0)), (1, .ref (a 0)), (0, .ref bs)]) hx hb dL_law_1683 hl (by decide) rfl (fun ls hl => ?_)
    refine lv_aload_n hx hb dL_law_1685 rfl (lv_at hl 5 rfl) ?_
    have hPc := hP.sub (ws' := [(b 0, .inr (12, .int 1 :: u17.2))]) [0] rfl
    have hDc := hD.sub (ws' := [(b 0, .inr (12, .int 1 :: u17.2))]) [0] (by decide) rfl
    have hFc := va_free (wc := [(b 0, .inr (12, .int 1 :: u17.2))]) hD hS hA [0] rfl
    refine va_calli (va_runV (As := []) (rest := []) ⟨hx, hb, hml, hown, hts⟩ (c_M_thrown l D dA E (b 0) 1 u17.2 H.size ) (cwV 0 hts (ga_V q470 q471 q468 q278 q469) rfl rfl rfl (by decide +kernel) ⟨(Nat.le_of_ble_eq_true rfl), (Nat.le_of_ble_eq_true rfl)⟩) ⟨pb_blind, va_recv hK hPc (ci := 12) (q0 := 0) rfl rfl, pb_pre hK hPc hDc hZ hS hFc _⟩ rfl rfl hl.1 rfl (lv_room (Nat.le_of_ble_eq_true rfl)) dL_law_1686 ⟨(Nat.le_of_ble_eq_true rfl), (Nat.le_of_ble_eq_true rfl)⟩) hS (fun q _ h => hFc q h) hFc (fun r u t H1 locs ht hvm hw hB hz1 hk1 hS => ?_)
    refine W.widen (k := 66) (n := 11784) (Nat.le_of_ble_eq_true rfl) (Nat.le_of_ble_eq_true rfl) ?_
    obtain ⟨r19, rfl⟩ : ∃ z, z = r := ⟨_, rfl⟩
    obtain ⟨u20, rfl⟩ : ∃ z, z = u := ⟨_, rfl⟩
    have hw21 := hw
    clear hw
    obtain ⟨hP, hD⟩ := jn_drop (wr := [(o, .inl (dA 3, 1, .inr (.inl u8)))]) hP hD [0] [1] rfl rfl (by decide) (by decide) hk1 hFc
    generalize H1 = H at hP hS ⊢
    have hP : va_P D vwCl [(o, .inl (dA 3, 1, .inr (.inl u8)))] H := hP
    have hD : va_D A [(o, .inl (dA 3, 1, .inr (.inl u8)))] := hD
    obtain rfl : r19 = 1 := hw21
    refine lv_iload hx hb dL_law_1689 (lv_at hl 1 rfl) ?_
    refine lv_icmp_eq (tgt := 1696) hx hb dL_law_1691 (by decide) (fun _ => ?_) (fun c22 => absurd (by decide) c22)
    refine lv_iload hx hb dL_law_1696 (lv_at hl 1 rfl) ?_
    refine lv_if_ne (tgt := 1713) hx hb dL_law_1698 (by decide) (fun _ => ?_) (fun c23 => absurd c23 (by decide))
    refine lv_goto (tgt := 2346) hx hb dL_law_1713 (by decide) ?_
    exact law_tail l C0 rfl (by rw [hAe]; exact hS) (Nat.le_of_ble_eq_true rfl) (Nat.le_of_ble_eq_true rfl) ls (lv_sub hl [7, 2] rfl)

set_option maxHeartbeats 4000000 in
set_option maxRecDepth 100000 in
/-- the law at firstTagged -/
theorem law_27 {p : Program} {e : Env} {s : State} {m : MethodId} {below : List Frame} {meth : Method} {c : Code} (l : Launch) (hlt : l.stackTraces = false) {bs L : Nat} {xs : Nat → Int32} (C0 : lw_At p s m meth c bs L xs) (hL6 : L = 6) (D : va_G) (dA : Nat → ClassId) (E : Nat) (A : Nat → Prop) (hAe : (fun q : Nat => s.heap.size ≤ q) = A) (a b : Nat → Nat) (o od : Nat) (hK : va_K D vwCl (TY dA) s) (hZ : ZZ dA E A s s.heap) (H : Heap) (locs : List Loc) (hP : va_P D vwCl [(a 0, .inr (11, [.ref (a 1), .ref (a 2), .ref (a 3), .ref (a 4), .ref (a 5), .ref (a 10), .ref (a 15), .ref (a 17), .null, .int 0, .int 0, .int 0])), (a 3, .inr (2, [.int 0, .ref E, .int 0])), (o, .inl (dA 3, 1, .inr (.inl (fun _ => 0)))), (b 0, .inr (12, [.int 0, .int 0, .ref (b 2), .ref (b 3), .ref (b 4), .int 0, .int 0, .int 0, .int 0, .ref (b 9), .int 0, .ref (b 11), .ref (b 12), .ref (b 13), .ref (b 14), .ref (b 15), .ref (b 16), .ref (b 17), .ref (b 18), .int 0, .ref (b 20), .int 0, .int 0, .int 0, .ref (b 24), .ref (b 25), .ref (b 26), .int 0, .int 0, .ref (b 29), .ref (b 30), .int 0, .ref (b 32), .ref (b 33), .ref (b 34), .ref (b 35), .ref (b 36), .ref (b 37), .int 0, .int 0, .ref (b 40), .ref (b 41), .ref (b 42), .ref (b 43), .ref (b 44), .int 0, .ref (b 46), .ref (b 47), .ref (b 48)]))] H) (hD : va_D A [(a 0, .inr (11, [.ref (a 1), .ref (a 2), .ref (a 3), .ref (a 4), .ref (a 5), .ref (a 10), .ref (a 15), .ref (a 17), .null, .int 0, .int 0, .int 0])), (a 3, .inr (2, [.int 0, .ref E, .int 0])), (o, .inl (dA 3, 1, .inr (.inl (fun _ => 0)))), (b 0, .inr (12, [.int 0, .int 0, .ref (b 2), .ref (b 3), .ref (b 4), .int 0, .int 0, .int 0, .int 0, .ref (b 9), .int 0, .ref (b 11), .ref (b 12), .ref (b 13), .ref (b 14), .ref (b 15), .ref (b 16), .ref (b 17), .ref (b 18), .int 0, .ref (b 20), .int 0, .int 0, .int 0, .ref (b 24), .ref (b 25), .ref (b 26), .int 0, .int 0, .ref (b 29), .ref (b 30), .int 0, .ref (b 32), .ref (b 33), .ref (b 34), .ref (b 35), .ref (b 36), .ref (b 37), .int 0, .int 0, .ref (b 40), .ref (b 41), .ref (b 42), .ref (b 43), .ref (b 44), .int 0, .ref (b 46), .ref (b 47), .ref (b 48)]))]) (hS : va_S A s.heap H locs) (ls : Array Slot) (hl : lv_has ls 9 [(5, .int 0), (4, .ref od), (3, .ref o), (2, .ref (b 0)), (1, .ref (a 0)), (0, .ref bs)]) : W p l e room_1 s m #[Value.ref bs] below meth c H locs 65 11778 (lw_Z below #[Value.ref bs] s) (F0 m 1716 ls []) := by
  subst hL6
  obtain ⟨hx, hb, hr, hml, hown, hts0, hX, hbl, hlocks, hgv⟩ := id C0
  have hts : ∀ w ∈ WA, w.before #[Value.ref bs] s = true := fun w h => hts0 w (WA_tbl h)
  have hA : ∀ q : Nat, s.heap.size ≤ q → A q := fun q h => by rw [← hAe]; exact h
  have hbA : ¬ A bs := by rw [← hAe]; exact Nat.not_le.mpr hbl
  refine lv_aload_n hx hb dL_law_1716 rfl (lv_at hl 4 rfl) ?_
  refine lv_aload_n hx hb dL_law_1717 rfl (lv_at hl 5 rfl) ?_
  refine lv_iload hx hb dL_law_1718 (lv_at hl 0 rfl) ?_
  refine lv_iconst (v := 1) hx hb dL_law_1720 (by decide) ?_
  refine lv_iadd hx hb dL_law_1721 ?_
  refine lv_topi (fun x1 ex1 => ?_)
  replace ex1 : x1 = 1 := ex1.trans (by decide)
  subst ex1
  refine va_sld hx hb hX hbl hbA hS (vi_c (by decide)) dL_law_1722 ?_
  refine lv_topi (fun x2 ex2 => ?_)
  refine lv_aload_n hx hb dL_law_1723 rfl (lv_at hl 5 rfl) ?_
  refine lv_iload hx hb dL_law_1724 (lv_at hl 0 rfl) ?_
  refine lv_iconst (v := 2) hx hb dL_law_1726 (by decide) ?_
  refine lv_iadd hx hb dL_law_1727 ?_
  refine lv_topi (fun x3 ex3 => ?_)
  replace ex3 : x3 = 2 := ex3.trans (by decide)
  subst ex3
  refine va_sld hx hb hX hbl hbA hS (vi_c (by decide)) dL_law_1728 ?_
  refine lv_topi (fun x4 ex4 => ?_)
  refine lv_aload_n hx hb dL_law_1729 rfl (lv_at hl 5 rfl) ?_
  refine lv_iload hx hb dL_law_1730 (lv_at hl 0 rfl) ?_
  refine lv_iconst (v := 3) hx hb dL_law_1732 (by decide) ?_
  refine lv_iadd hx hb dL_law_1733 ?_
  refine lv_topi (fun x5 ex5 => ?_)
  replace ex5 : x5 = 3 := ex5.trans (by decide)
  subst ex5
  refine va_sld hx hb hX hbl hbA hS (vi_c (by decide)) dL_law_1734 ?_
  refine lv_topi (fun x6 ex6 => ?_)
  refine lv_aload_n hx hb dL_law_1735 rfl (lv_at hl 2 rfl) ?_
  have hPc := hP.sub (ws' := [(a 0, .inr (11, [.ref (a 1), .ref (a 2), .ref (a 3), .ref (a 4), .ref (a 5), .ref (a 10), .ref (a 15), .ref (a 17), .null, .int 0, .int 0, .int 0])), (a 3, .inr (2, [.int 0, .ref E, .int 0])), (o, .inl (dA 3, 1, .inr (.inl (fun _ => 0))))]) [0, 1, 2] rfl
  have hDc := hD.sub (ws' := [(a 0, .inr (11, [.ref (a 1), .ref (a 2), .ref (a 3), .ref (a 4), .ref (a 5), .ref (a 10), .ref (a 15), .ref (a 17), .null, .int 0, .int 0, .int 0])), (a 3, .inr (2, [.int 0, .ref E, .int 0])), (o, .inl (dA 3, 1, .inr (.inl (fun _ => 0))))]) [0, 1, 2] (by decide) rfl
  have hFc := va_free (wc := [(a 0, .inr (11, [.ref (a 1), .ref (a 2), .ref (a 3), .ref (a 4), .ref (a 5), .ref (a 10), .ref (a 15), .ref (a 17), .null, .int 0, .int 0, .int 0])), (a 3, .inr (2, [.int 0, .ref E, .int 0])), (o, .inl (dA 3, 1, .inr (.inl (fun _ => 0))))]) hD hS hA [0, 1, 2] rfl
  refine vx_calli (vx_runSX (As := [.ref (a 0), .int x2, .int x4, .int x6, .ref o]) (rest := []) ⟨hx, hb, hml, hown, hts⟩ (c_L_firstTagged l hlt D dA E a o (fun _ => 0) x2 x4 x6 H.size ) (vx_cwSW 5 hts (ga_S q660 q661 q463 q659) rfl rfl rfl (by decide +kernel) ⟨(Nat.le_of_ble_eq_true rfl), (Nat.le_of_ble_eq_true rfl)⟩) ⟨pb_blind, pb_pre hK hPc hDc hZ hS hFc _⟩ rfl rfl hl.1 rfl (lv_room (Nat.le_of_ble_eq_true rfl)) dL_law_1736 ⟨(Nat.le_of_ble_eq_true rfl), (Nat.le_of_ble_eq_true rfl)⟩) hS (fun q _ h => hFc q h) hFc (fun q _ h => hFc q h) (fun E9 ce q9 k t H1 locs ht hvm hpx hBX hz1 hk1 hS hce hcv hcl => ?_) (fun r u t H1 locs ht hvm hw hB hz1 hk1 hS => ?_)
  · exact hpx.elim
  · refine W.widen (k := 66) (n := 11784) (Nat.le_of_ble_eq_true rfl) (Nat.le_of_ble_eq_true rfl) ?_
    obtain ⟨r7, rfl⟩ : ∃ z, z = r := ⟨_, rfl⟩
    obtain ⟨u8, rfl⟩ : ∃ z, z = u := ⟨_, rfl⟩
    have hw9 := hw
    clear hw
    obtain ⟨hP1, hD1⟩ := hB
    rw [ht] at hP1
    obtain ⟨hP, hD⟩ := va_join (wr := [(b 0, .inr (12, [.int 0, .int 0, .ref (b 2), .ref (b 3), .ref (b 4), .int 0, .int 0, .int 0, .int 0, .ref (b 9), .int 0, .ref (b 11), .ref (b 12), .ref (b 13), .ref (b 14), .ref (b 15), .ref (b 16), .ref (b 17), .ref (b 18), .int 0, .ref (b 20), .int 0, .int 0, .int 0, .ref (b 24), .ref (b 25), .ref (b 26), .int 0, .int 0, .ref (b 29), .ref (b 30), .int 0, .ref (b 32), .ref (b 33), .ref (b 34), .ref (b 35), .ref (b 36), .ref (b 37), .int 0, .int 0, .ref (b 40), .ref (b 41), .ref (b 42), .ref (b 43), .ref (b 44), .int 0, .ref (b 46), .ref (b 47), .ref (b 48)]))]) (w1 := [(o, .inl (dA 3, 1, .inr (.inl u8)))]) hP hD [0, 1, 2] [3] rfl rfl (by decide) (by decide) hk1 hFc hP1 hD1
    generalize H1 = H at hP hS ⊢
    have hP : va_P D vwCl [(b 0, .inr (12, [.int 0, .int 0, .ref (b 2), .ref (b 3), .ref (b 4), .int 0, .int 0, .int 0, .int 0, .ref (b 9), .int 0, .ref (b 11), .ref (b 12), .ref (b 13), .ref (b 14), .ref (b 15), .ref (b 16), .ref (b 17), .ref (b 18), .int 0, .ref (b 20), .int 0, .int 0, .int 0, .ref (b 24), .ref (b 25), .ref (b 26), .int 0, .int 0, .ref (b 29), .ref (b 30), .int 0, .ref (b 32), .ref (b 33), .ref (b 34), .ref (b 35), .ref (b 36), .ref (b 37), .int 0, .int 0, .ref (b 40), .ref (b 41), .ref (b 42), .ref (b 43), .ref (b 44), .int 0, .ref (b 46), .ref (b 47), .ref (b 48)])), (o, .inl (dA 3, 1, .inr (.inl u8)))] H := hP
    have hD : va_D A [(b 0, .inr (12, [.int 0, .int 0, .ref (b 2), .ref (b 3), .ref (b 4), .int 0, .int 0, .int 0, .int 0, .ref (b 9), .int 0, .ref (b 11), .ref (b 12), .ref (b 13), .ref (b 14), .ref (b 15), .ref (b 16), .ref (b 17), .ref (b 18), .int 0, .ref (b 20), .int 0, .int 0, .int 0, .ref (b 24), .ref (b 25), .ref (b 26), .int 0, .int 0, .ref (b 29), .ref (b 30), .int 0, .ref (b 32), .ref (b 33), .ref (b 34), .ref (b 35), .ref (b 36), .ref (b 37), .int 0, .int 0, .ref (b 40), .ref (b 41), .ref (b 42), .ref (b 43), .ref (b 44), .int 0, .ref (b 46), .ref (b 47), .ref (b 48)])), (o, .inl (dA 3, 1, .inr (.inl u8)))] := hD
    have hP := hP.sub (ws' := [(o, .inl (dA 3, 1, .inr (.inl u8))), (b 0, .inr (12, [.int 0, .int 0, .ref (b 2), .ref (b 3), .ref (b 4), .int 0, .int 0, .int 0, .int 0, .ref (b 9), .int 0, .ref (b 11), .ref (b 12), .ref (b 13), .ref (b 14), .ref (b 15), .ref (b 16), .ref (b 17), .ref (b 18), .int 0, .ref (b 20), .int 0, .int 0, .int 0, .ref (b 24), .ref (b 25), .ref (b 26), .int 0, .int 0, .ref (b 29), .ref (b 30), .int 0, .ref (b 32), .ref (b 33), .ref (b 34), .ref (b 35), .ref (b 36), .ref (b 37), .int 0, .int 0, .ref (b 40), .ref (b 41), .ref (b 42), .ref (b 43), .ref (b 44), .int 0, .ref (b 46), .ref (b 47), .ref (b 48)]))]) [1, 0] rfl
    have hD := hD.sub (ws' := [(o, .inl (dA 3, 1, .inr (.inl u8))), (b 0, .inr (12, [.int 0, .int 0, .ref (b 2), .ref (b 3), .ref (b 4), .int 0, .int 0, .int 0, .int 0, .ref (b 9), .int 0, .ref (b 11), .ref (b 12), .ref (b 13), .ref (b 14), .ref (b 15), .ref (b 16), .ref (b 17), .ref (b 18), .int 0, .ref (b 20), .int 0, .int 0, .int 0, .ref (b 24), .ref (b 25), .ref (b 26), .int 0, .int 0, .ref (b 29), .ref (b 30), .int 0, .ref (b 32), .ref (b 33), .ref (b 34), .ref (b 35), .ref (b 36), .ref (b 37), .int 0, .int 0, .ref (b 40), .ref (b 41), .ref (b 42), .ref (b 43), .ref (b 44), .int 0, .ref (b 46), .ref (b 47), .ref (b 48)]))]) [1, 0] (by decide) rfl
    have hk := hw9
    obtain rfl : r7 = 1 := hk
    refine lv_istore (lv' := [(6, .int 1), (5, .int 0), (4, .ref od), (3, .ref o), (2, .ref (b 0)), (1, .ref (a 0)), (0, .ref bs)]) hx hb dL_law_1739 hl (by decide) rfl (fun ls hl => ?_)
    refine lv_aload_n hx hb dL_law_1741 rfl (lv_at hl 4 rfl) ?_
    refine lv_aload_n hx hb dL_law_1742 rfl (lv_at hl 6 rfl) ?_
    refine lv_iload hx hb dL_law_1743 (lv_at hl 1 rfl) ?_
    refine lv_iconst (v := 1) hx hb dL_law_1745 (by decide) ?_
    refine lv_iadd hx hb dL_law_1746 ?_
    refine lv_topi (fun x10 ex10 => ?_)
    replace ex10 : x10 = 1 := ex10.trans (by decide)
    subst ex10
    refine va_sld hx hb hX hbl hbA hS (vi_c (by decide)) dL_law_1747 ?_
    refine lv_topi (fun x11 ex11 => ?_)
    obtain rfl : x2 = x11 := ex2.trans ex11.symm
    refine lv_aload_n hx hb dL_law_1748 rfl (lv_at hl 6 rfl) ?_
    refine lv_iload hx hb dL_law_1749 (lv_at hl 1 rfl) ?_
    refine lv_iconst (v := 2) hx hb dL_law_1751 (by decide) ?_
    refine lv_iadd hx hb dL_law_1752 ?_
    refine lv_topi (fun x12 ex12 => ?_)
    replace ex12 : x12 = 2 := ex12.trans (by decide)
    subst ex12
    refine va_sld hx hb hX hbl hbA hS (vi_c (by decide)) dL_law_1753 ?_
    refine lv_topi (fun x13 ex13 => ?_)
    obtain rfl : x4 = x13 := ex4.trans ex13.symm
    refine lv_aload_n hx hb dL_law_1754 rfl (lv_at hl 6 rfl) ?_
    refine lv_iload hx hb dL_law_1755 (lv_at hl 1 rfl) ?_
    refine lv_iconst (v := 3) hx hb dL_law_1757 (by decide) ?_
    refine lv_iadd hx hb dL_law_1758 ?_
    refine lv_topi (fun x14 ex14 => ?_)
    replace ex14 : x14 = 3 := ex14.trans (by decide)
    subst ex14
    refine va_sld hx hb hX hbl hbA hS (vi_c (by decide)) dL_law_1759 ?_
    refine lv_topi (fun x15 ex15 => ?_)
    obtain rfl : x6 = x15 := ex6.trans ex15.symm
    have hPc := hP.sub (ws' := [(b 0, .inr (12, [.int 0, .int 0, .ref (b 2), .ref (b 3), .ref (b 4), .int 0, .int 0, .int 0, .int 0, .ref (b 9), .int 0, .ref (b 11), .ref (b 12), .ref (b 13), .ref (b 14), .ref (b 15), .ref (b 16), .ref (b 17), .ref (b 18), .int 0, .ref (b 20), .int 0, .int 0, .int 0, .ref (b 24), .ref (b 25), .ref (b 26), .int 0, .int 0, .ref (b 29), .ref (b 30), .int 0, .ref (b 32), .ref (b 33), .ref (b 34), .ref (b 35), .ref (b 36), .ref (b 37), .int 0, .int 0, .ref (b 40), .ref (b 41), .ref (b 42), .ref (b 43), .ref (b 44), .int 0, .ref (b 46), .ref (b 47), .ref (b 48)]))]) [1] rfl
    have hDc := hD.sub (ws' := [(b 0, .inr (12, [.int 0, .int 0, .ref (b 2), .ref (b 3), .ref (b 4), .int 0, .int 0, .int 0, .int 0, .ref (b 9), .int 0, .ref (b 11), .ref (b 12), .ref (b 13), .ref (b 14), .ref (b 15), .ref (b 16), .ref (b 17), .ref (b 18), .int 0, .ref (b 20), .int 0, .int 0, .int 0, .ref (b 24), .ref (b 25), .ref (b 26), .int 0, .int 0, .ref (b 29), .ref (b 30), .int 0, .ref (b 32), .ref (b 33), .ref (b 34), .ref (b 35), .ref (b 36), .ref (b 37), .int 0, .int 0, .ref (b 40), .ref (b 41), .ref (b 42), .ref (b 43), .ref (b 44), .int 0, .ref (b 46), .ref (b 47), .ref (b 48)]))]) [1] (by decide) rfl
    have hFc := va_free (wc := [(b 0, .inr (12, [.int 0, .int 0, .ref (b 2), .ref (b 3), .ref (b 4), .int 0, .int 0, .int 0, .int 0, .ref (b 9), .int 0, .ref (b 11), .ref (b 12), .ref (b 13), .ref (b 14), .ref (b 15), .ref (b 16), .ref (b 17), .ref (b 18), .int 0, .ref (b 20), .int 0, .int 0, .int 0, .ref (b 24), .ref (b 25), .ref (b 26), .int 0, .int 0, .ref (b 29), .ref (b 30), .int 0, .ref (b 32), .ref (b 33), .ref (b 34), .ref (b 35), .ref (b 36), .ref (b 37), .int 0, .int 0, .ref (b 40), .ref (b 41), .ref (b 42), .ref (b 43), .ref (b 44), .int 0, .ref (b 46), .ref (b 47), .ref (b 48)]))]) hD hS hA [1] rfl
    refine va_calli (va_runV (As := [.int x2, .int x4, .int x6]) (rest := []) ⟨hx, hb, hml, hown, hts⟩ (c_M_firstTagged l D dA E b x2 x4 x6 H.size ) (cwV 3 hts (ga_V q664 q665 q662 q278 q663) rfl rfl rfl (by decide +kernel) ⟨(Nat.le_of_ble_eq_true rfl), (Nat.le_of_ble_eq_true rfl)⟩) ⟨pb_blind, va_recv hK hPc (ci := 12) (q0 := 0) rfl rfl, pb_pre hK hPc hDc hZ hS hFc _⟩ rfl rfl hl.1 rfl (lv_room (Nat.le_of_ble_eq_true rfl)) dL_law_1760 ⟨(Nat.le_of_ble_eq_true rfl), (Nat.le_of_ble_eq_true rfl)⟩) hS (fun q _ h => hFc q h) hFc (fun r u t H1 locs ht hvm hw hB hz1 hk1 hS => ?_)
    refine W.widen (k := 66) (n := 11784) (Nat.le_of_ble_eq_true rfl) (Nat.le_of_ble_eq_true rfl) ?_
    obtain ⟨r16, rfl⟩ : ∃ z, z = r := ⟨_, rfl⟩
    obtain ⟨u17, rfl⟩ : ∃ z, z = u := ⟨_, rfl⟩
    have hw18 := hw
    clear hw
    obtain ⟨hP1, hD1⟩ := hB
    rw [ht] at hP1
    obtain ⟨hP, hD⟩ := va_join (wr := [(o, .inl (dA 3, 1, .inr (.inl u8)))]) (w1 := [(b 0, .inr (12, .int u17.1 :: u17.2))]) hP hD [1] [0] rfl rfl (by decide) (by decide) hk1 hFc hP1 hD1
    generalize H1 = H at hP hS ⊢
    have hP : va_P D vwCl [(o, .inl (dA 3, 1, .inr (.inl u8))), (b 0, .inr (12, .int u17.1 :: u17.2))] H := hP
    have hD : va_D A [(o, .inl (dA 3, 1, .inr (.inl u8))), (b 0, .inr (12, .int u17.1 :: u17.2))] := hD
    have hP := hP.sub (ws' := [(b 0, .inr (12, .int u17.1 :: u17.2)), (o, .inl (dA 3, 1, .inr (.inl u8)))]) [1, 0] rfl
    have hD := hD.sub (ws' := [(b 0, .inr (12, .int u17.1 :: u17.2)), (o, .inl (dA 3, 1, .inr (.inl u8)))]) [1, 0] (by decide) rfl
    have hm : u17.1 = 1 := hw18
    rw [hm] at hP hD
    have hP : va_P D vwCl [(b 0, .inr (12, .int 1 :: u17.2)), (o, .inl (dA 3, 1, .inr (.inl u8)))] H := hP
    have hD : va_D A [(b 0, .inr (12, .int 1 :: u17.2)), (o, .inl (dA 3, 1, .inr (.inl u8)))] := hD
    refine lv_istore (lv' := [(7, .int r16), (6, .int 1), (5, .int 0), (4, .ref od), (3, .ref o), (2, .ref (b 0)), (1, .ref (a 0)), (0, .ref bs)]) hx hb dL_law_1763 hl (by decide) rfl (fun ls hl => ?_)
    refine lv_aload_n hx hb dL_law_1765 rfl (lv_at hl 5 rfl) ?_
    have hPc := hP.sub (ws' := [(b 0, .inr (12, .int 1 :: u17.2))]) [0] rfl
    have hDc := hD.sub (ws' := [(b 0, .inr (12, .int 1 :: u17.2))]) [0] (by decide) rfl
    have hFc := va_free (wc := [(b 0, .inr (12, .int 1 :: u17.2))]) hD hS hA [0] rfl
    refine va_calli (va_runV (As := []) (rest := []) ⟨hx, hb, hml, hown, hts⟩ (c_M_thrown l D dA E (b 0) 1 u17.2 H.size ) (cwV 0 hts (ga_V q470 q471 q468 q278 q469) rfl rfl rfl (by decide +kernel) ⟨(Nat.le_of_ble_eq_true rfl), (Nat.le_of_ble_eq_true rfl)⟩) ⟨pb_blind, va_recv hK hPc (ci := 12) (q0 := 0) rfl rfl, pb_pre hK hPc hDc hZ hS hFc _⟩ rfl rfl hl.1 rfl (lv_room (Nat.le_of_ble_eq_true rfl)) dL_law_1766 ⟨(Nat.le_of_ble_eq_true rfl), (Nat.le_of_ble_eq_true rfl)⟩) hS (fun q _ h => hFc q h) hFc (fun r u t H1 locs ht hvm hw hB hz1 hk1 hS => ?_)
    refine W.widen (k := 66) (n := 11784) (Nat.le_of_ble_eq_true rfl) (Nat.le_of_ble_eq_true rfl) ?_
    obtain ⟨r19, rfl⟩ : ∃ z, z = r := ⟨_, rfl⟩
    obtain ⟨u20, rfl⟩ : ∃ z, z = u := ⟨_, rfl⟩
    have hw21 := hw
    clear hw
    obtain ⟨hP, hD⟩ := jn_drop (wr := [(o, .inl (dA 3, 1, .inr (.inl u8)))]) hP hD [0] [1] rfl rfl (by decide) (by decide) hk1 hFc
    generalize H1 = H at hP hS ⊢
    have hP : va_P D vwCl [(o, .inl (dA 3, 1, .inr (.inl u8)))] H := hP
    have hD : va_D A [(o, .inl (dA 3, 1, .inr (.inl u8)))] := hD
    obtain rfl : r19 = 1 := hw21
    refine lv_iload hx hb dL_law_1769 (lv_at hl 1 rfl) ?_
    refine lv_icmp_eq (tgt := 1776) hx hb dL_law_1771 (by decide) (fun _ => ?_) (fun c22 => absurd (by decide) c22)
    refine lv_iload hx hb dL_law_1776 (lv_at hl 1 rfl) ?_
    refine lv_if_ne (tgt := 1793) hx hb dL_law_1778 (by decide) (fun _ => ?_) (fun c23 => absurd c23 (by decide))
    refine lv_goto (tgt := 2346) hx hb dL_law_1793 (by decide) ?_
    exact law_tail l C0 rfl (by rw [hAe]; exact hS) (Nat.le_of_ble_eq_true rfl) (Nat.le_of_ble_eq_true rfl) ls (lv_sub hl [7, 2] rfl)

set_option maxHeartbeats 4000000 in
set_option maxRecDepth 100000 in
/-- the law at wholes -/
theorem law_28 {p : Program} {e : Env} {s : State} {m : MethodId} {below : List Frame} {meth : Method} {c : Code} (l : Launch) (hlt : l.stackTraces = false) {bs L : Nat} {xs : Nat → Int32} (C0 : lw_At p s m meth c bs L xs) (hL6 : L = 6) (D : va_G) (dA : Nat → ClassId) (E : Nat) (A : Nat → Prop) (hAe : (fun q : Nat => s.heap.size ≤ q) = A) (a b : Nat → Nat) (o od : Nat) (hK : va_K D vwCl (TY dA) s) (hZ : ZZ dA E A s s.heap) (H : Heap) (locs : List Loc) (hP : va_P D vwCl [(a 0, .inr (11, [.ref (a 1), .ref (a 2), .ref (a 3), .ref (a 4), .ref (a 5), .ref (a 10), .ref (a 15), .ref (a 17), .null, .int 0, .int 0, .int 0])), (a 3, .inr (2, [.int 0, .ref E, .int 0])), (o, .inl (dA 3, 1, .inr (.inl (fun _ => 0)))), (b 0, .inr (12, [.int 0, .int 0, .ref (b 2), .ref (b 3), .ref (b 4), .int 0, .int 0, .int 0, .int 0, .ref (b 9), .int 0, .ref (b 11), .ref (b 12), .ref (b 13), .ref (b 14), .ref (b 15), .ref (b 16), .ref (b 17), .ref (b 18), .int 0, .ref (b 20), .int 0, .int 0, .int 0, .ref (b 24), .ref (b 25), .ref (b 26), .int 0, .int 0, .ref (b 29), .ref (b 30), .int 0, .ref (b 32), .ref (b 33), .ref (b 34), .ref (b 35), .ref (b 36), .ref (b 37), .int 0, .int 0, .ref (b 40), .ref (b 41), .ref (b 42), .ref (b 43), .ref (b 44), .int 0, .ref (b 46), .ref (b 47), .ref (b 48)]))] H) (hD : va_D A [(a 0, .inr (11, [.ref (a 1), .ref (a 2), .ref (a 3), .ref (a 4), .ref (a 5), .ref (a 10), .ref (a 15), .ref (a 17), .null, .int 0, .int 0, .int 0])), (a 3, .inr (2, [.int 0, .ref E, .int 0])), (o, .inl (dA 3, 1, .inr (.inl (fun _ => 0)))), (b 0, .inr (12, [.int 0, .int 0, .ref (b 2), .ref (b 3), .ref (b 4), .int 0, .int 0, .int 0, .int 0, .ref (b 9), .int 0, .ref (b 11), .ref (b 12), .ref (b 13), .ref (b 14), .ref (b 15), .ref (b 16), .ref (b 17), .ref (b 18), .int 0, .ref (b 20), .int 0, .int 0, .int 0, .ref (b 24), .ref (b 25), .ref (b 26), .int 0, .int 0, .ref (b 29), .ref (b 30), .int 0, .ref (b 32), .ref (b 33), .ref (b 34), .ref (b 35), .ref (b 36), .ref (b 37), .int 0, .int 0, .ref (b 40), .ref (b 41), .ref (b 42), .ref (b 43), .ref (b 44), .int 0, .ref (b 46), .ref (b 47), .ref (b 48)]))]) (hS : va_S A s.heap H locs) (ls : Array Slot) (hl : lv_has ls 9 [(5, .int 0), (4, .ref od), (3, .ref o), (2, .ref (b 0)), (1, .ref (a 0)), (0, .ref bs)]) : W p l e room_1 s m #[Value.ref bs] below meth c H locs 65 11778 (lw_Z below #[Value.ref bs] s) (F0 m 1796 ls []) := by
  subst hL6
  obtain ⟨hx, hb, hr, hml, hown, hts0, hX, hbl, hlocks, hgv⟩ := id C0
  have hts : ∀ w ∈ WA, w.before #[Value.ref bs] s = true := fun w h => hts0 w (WA_tbl h)
  have hA : ∀ q : Nat, s.heap.size ≤ q → A q := fun q h => by rw [← hAe]; exact h
  have hbA : ¬ A bs := by rw [← hAe]; exact Nat.not_le.mpr hbl
  refine lv_aload_n hx hb dL_law_1796 rfl (lv_at hl 4 rfl) ?_
  refine lv_aload_n hx hb dL_law_1797 rfl (lv_at hl 5 rfl) ?_
  refine lv_iload hx hb dL_law_1798 (lv_at hl 0 rfl) ?_
  refine lv_iconst (v := 1) hx hb dL_law_1800 (by decide) ?_
  refine lv_iadd hx hb dL_law_1801 ?_
  refine lv_topi (fun x1 ex1 => ?_)
  replace ex1 : x1 = 1 := ex1.trans (by decide)
  subst ex1
  refine va_sld hx hb hX hbl hbA hS (vi_c (by decide)) dL_law_1802 ?_
  refine lv_topi (fun x2 ex2 => ?_)
  refine lv_aload_n hx hb dL_law_1803 rfl (lv_at hl 5 rfl) ?_
  refine lv_iload hx hb dL_law_1804 (lv_at hl 0 rfl) ?_
  refine lv_iconst (v := 2) hx hb dL_law_1806 (by decide) ?_
  refine lv_iadd hx hb dL_law_1807 ?_
  refine lv_topi (fun x3 ex3 => ?_)
  replace ex3 : x3 = 2 := ex3.trans (by decide)
  subst ex3
  refine va_sld hx hb hX hbl hbA hS (vi_c (by decide)) dL_law_1808 ?_
  refine lv_topi (fun x4 ex4 => ?_)
  refine lv_aload_n hx hb dL_law_1809 rfl (lv_at hl 2 rfl) ?_
  have hPc := hP.sub (ws' := [(a 0, .inr (11, [.ref (a 1), .ref (a 2), .ref (a 3), .ref (a 4), .ref (a 5), .ref (a 10), .ref (a 15), .ref (a 17), .null, .int 0, .int 0, .int 0])), (a 3, .inr (2, [.int 0, .ref E, .int 0])), (o, .inl (dA 3, 1, .inr (.inl (fun _ => 0))))]) [0, 1, 2] rfl
  have hDc := hD.sub (ws' := [(a 0, .inr (11, [.ref (a 1), .ref (a 2), .ref (a 3), .ref (a 4), .ref (a 5), .ref (a 10), .ref (a 15), .ref (a 17), .null, .int 0, .int 0, .int 0])), (a 3, .inr (2, [.int 0, .ref E, .int 0])), (o, .inl (dA 3, 1, .inr (.inl (fun _ => 0))))]) [0, 1, 2] (by decide) rfl
  have hFc := va_free (wc := [(a 0, .inr (11, [.ref (a 1), .ref (a 2), .ref (a 3), .ref (a 4), .ref (a 5), .ref (a 10), .ref (a 15), .ref (a 17), .null, .int 0, .int 0, .int 0])), (a 3, .inr (2, [.int 0, .ref E, .int 0])), (o, .inl (dA 3, 1, .inr (.inl (fun _ => 0))))]) hD hS hA [0, 1, 2] rfl
  refine vx_calli (vx_runSX (As := [.ref (a 0), .int x2, .int x4, .ref o]) (rest := []) ⟨hx, hb, hml, hown, hts⟩ (c_L_wholes l hlt D dA E a o (fun _ => 0) x2 x4 H.size ) (vx_cwSW 4 hts (ga_S q667 q668 q463 q666) rfl rfl rfl (by decide +kernel) ⟨(Nat.le_of_ble_eq_true rfl), (Nat.le_of_ble_eq_true rfl)⟩) ⟨pb_blind, pb_pre hK hPc hDc hZ hS hFc _⟩ rfl rfl hl.1 rfl (lv_room (Nat.le_of_ble_eq_true rfl)) dL_law_1810 ⟨(Nat.le_of_ble_eq_true rfl), (Nat.le_of_ble_eq_true rfl)⟩) hS (fun q _ h => hFc q h) hFc (fun q _ h => hFc q h) (fun E9 ce q9 k t H1 locs ht hvm hpx hBX hz1 hk1 hS hce hcv hcl => ?_) (fun r u t H1 locs ht hvm hw hB hz1 hk1 hS => ?_)
  · exact hpx.elim
  · refine W.widen (k := 66) (n := 11784) (Nat.le_of_ble_eq_true rfl) (Nat.le_of_ble_eq_true rfl) ?_
    obtain ⟨r5, rfl⟩ : ∃ z, z = r := ⟨_, rfl⟩
    obtain ⟨u6, rfl⟩ : ∃ z, z = u := ⟨_, rfl⟩
    have hw7 := hw
    clear hw
    obtain ⟨hP1, hD1⟩ := hB
    rw [ht] at hP1
    obtain ⟨hP, hD⟩ := va_join (wr := [(b 0, .inr (12, [.int 0, .int 0, .ref (b 2), .ref (b 3), .ref (b 4), .int 0, .int 0, .int 0, .int 0, .ref (b 9), .int 0, .ref (b 11), .ref (b 12), .ref (b 13), .ref (b 14), .ref (b 15), .ref (b 16), .ref (b 17), .ref (b 18), .int 0, .ref (b 20), .int 0, .int 0, .int 0, .ref (b 24), .ref (b 25), .ref (b 26), .int 0, .int 0, .ref (b 29), .ref (b 30), .int 0, .ref (b 32), .ref (b 33), .ref (b 34), .ref (b 35), .ref (b 36), .ref (b 37), .int 0, .int 0, .ref (b 40), .ref (b 41), .ref (b 42), .ref (b 43), .ref (b 44), .int 0, .ref (b 46), .ref (b 47), .ref (b 48)]))]) (w1 := [(o, .inl (dA 3, 1, .inr (.inl u6)))]) hP hD [0, 1, 2] [3] rfl rfl (by decide) (by decide) hk1 hFc hP1 hD1
    generalize H1 = H at hP hS ⊢
    have hP : va_P D vwCl [(b 0, .inr (12, [.int 0, .int 0, .ref (b 2), .ref (b 3), .ref (b 4), .int 0, .int 0, .int 0, .int 0, .ref (b 9), .int 0, .ref (b 11), .ref (b 12), .ref (b 13), .ref (b 14), .ref (b 15), .ref (b 16), .ref (b 17), .ref (b 18), .int 0, .ref (b 20), .int 0, .int 0, .int 0, .ref (b 24), .ref (b 25), .ref (b 26), .int 0, .int 0, .ref (b 29), .ref (b 30), .int 0, .ref (b 32), .ref (b 33), .ref (b 34), .ref (b 35), .ref (b 36), .ref (b 37), .int 0, .int 0, .ref (b 40), .ref (b 41), .ref (b 42), .ref (b 43), .ref (b 44), .int 0, .ref (b 46), .ref (b 47), .ref (b 48)])), (o, .inl (dA 3, 1, .inr (.inl u6)))] H := hP
    have hD : va_D A [(b 0, .inr (12, [.int 0, .int 0, .ref (b 2), .ref (b 3), .ref (b 4), .int 0, .int 0, .int 0, .int 0, .ref (b 9), .int 0, .ref (b 11), .ref (b 12), .ref (b 13), .ref (b 14), .ref (b 15), .ref (b 16), .ref (b 17), .ref (b 18), .int 0, .ref (b 20), .int 0, .int 0, .int 0, .ref (b 24), .ref (b 25), .ref (b 26), .int 0, .int 0, .ref (b 29), .ref (b 30), .int 0, .ref (b 32), .ref (b 33), .ref (b 34), .ref (b 35), .ref (b 36), .ref (b 37), .int 0, .int 0, .ref (b 40), .ref (b 41), .ref (b 42), .ref (b 43), .ref (b 44), .int 0, .ref (b 46), .ref (b 47), .ref (b 48)])), (o, .inl (dA 3, 1, .inr (.inl u6)))] := hD
    have hP := hP.sub (ws' := [(o, .inl (dA 3, 1, .inr (.inl u6))), (b 0, .inr (12, [.int 0, .int 0, .ref (b 2), .ref (b 3), .ref (b 4), .int 0, .int 0, .int 0, .int 0, .ref (b 9), .int 0, .ref (b 11), .ref (b 12), .ref (b 13), .ref (b 14), .ref (b 15), .ref (b 16), .ref (b 17), .ref (b 18), .int 0, .ref (b 20), .int 0, .int 0, .int 0, .ref (b 24), .ref (b 25), .ref (b 26), .int 0, .int 0, .ref (b 29), .ref (b 30), .int 0, .ref (b 32), .ref (b 33), .ref (b 34), .ref (b 35), .ref (b 36), .ref (b 37), .int 0, .int 0, .ref (b 40), .ref (b 41), .ref (b 42), .ref (b 43), .ref (b 44), .int 0, .ref (b 46), .ref (b 47), .ref (b 48)]))]) [1, 0] rfl
    have hD := hD.sub (ws' := [(o, .inl (dA 3, 1, .inr (.inl u6))), (b 0, .inr (12, [.int 0, .int 0, .ref (b 2), .ref (b 3), .ref (b 4), .int 0, .int 0, .int 0, .int 0, .ref (b 9), .int 0, .ref (b 11), .ref (b 12), .ref (b 13), .ref (b 14), .ref (b 15), .ref (b 16), .ref (b 17), .ref (b 18), .int 0, .ref (b 20), .int 0, .int 0, .int 0, .ref (b 24), .ref (b 25), .ref (b 26), .int 0, .int 0, .ref (b 29), .ref (b 30), .int 0, .ref (b 32), .ref (b 33), .ref (b 34), .ref (b 35), .ref (b 36), .ref (b 37), .int 0, .int 0, .ref (b 40), .ref (b 41), .ref (b 42), .ref (b 43), .ref (b 44), .int 0, .ref (b 46), .ref (b 47), .ref (b 48)]))]) [1, 0] (by decide) rfl
    have hk := hw7
    obtain rfl : r5 = 1 := hk
    refine lv_istore (lv' := [(6, .int 1), (5, .int 0), (4, .ref od), (3, .ref o), (2, .ref (b 0)), (1, .ref (a 0)), (0, .ref bs)]) hx hb dL_law_1813 hl (by decide) rfl (fun ls hl => ?_)
    refine lv_aload_n hx hb dL_law_1815 rfl (lv_at hl 4 rfl) ?_
    refine lv_aload_n hx hb dL_law_1816 rfl (lv_at hl 6 rfl) ?_
    refine lv_iload hx hb dL_law_1817 (lv_at hl 1 rfl) ?_
    refine lv_iconst (v := 1) hx hb dL_law_1819 (by decide) ?_
    refine lv_iadd hx hb dL_law_1820 ?_
    refine lv_topi (fun x8 ex8 => ?_)
    replace ex8 : x8 = 1 := ex8.trans (by decide)
    subst ex8
    refine va_sld hx hb hX hbl hbA hS (vi_c (by decide)) dL_law_1821 ?_
    refine lv_topi (fun x9 ex9 => ?_)
    obtain rfl : x2 = x9 := ex2.trans ex9.symm
    refine lv_aload_n hx hb dL_law_1822 rfl (lv_at hl 6 rfl) ?_
    refine lv_iload hx hb dL_law_1823 (lv_at hl 1 rfl) ?_
    refine lv_iconst (v := 2) hx hb dL_law_1825 (by decide) ?_
    refine lv_iadd hx hb dL_law_1826 ?_
    refine lv_topi (fun x10 ex10 => ?_)
    replace ex10 : x10 = 2 := ex10.trans (by decide)
    subst ex10
    refine va_sld hx hb hX hbl hbA hS (vi_c (by decide)) dL_law_1827 ?_
    refine lv_topi (fun x11 ex11 => ?_)
    obtain rfl : x4 = x11 := ex4.trans ex11.symm
    have hPc := hP.sub (ws' := [(b 0, .inr (12, [.int 0, .int 0, .ref (b 2), .ref (b 3), .ref (b 4), .int 0, .int 0, .int 0, .int 0, .ref (b 9), .int 0, .ref (b 11), .ref (b 12), .ref (b 13), .ref (b 14), .ref (b 15), .ref (b 16), .ref (b 17), .ref (b 18), .int 0, .ref (b 20), .int 0, .int 0, .int 0, .ref (b 24), .ref (b 25), .ref (b 26), .int 0, .int 0, .ref (b 29), .ref (b 30), .int 0, .ref (b 32), .ref (b 33), .ref (b 34), .ref (b 35), .ref (b 36), .ref (b 37), .int 0, .int 0, .ref (b 40), .ref (b 41), .ref (b 42), .ref (b 43), .ref (b 44), .int 0, .ref (b 46), .ref (b 47), .ref (b 48)]))]) [1] rfl
    have hDc := hD.sub (ws' := [(b 0, .inr (12, [.int 0, .int 0, .ref (b 2), .ref (b 3), .ref (b 4), .int 0, .int 0, .int 0, .int 0, .ref (b 9), .int 0, .ref (b 11), .ref (b 12), .ref (b 13), .ref (b 14), .ref (b 15), .ref (b 16), .ref (b 17), .ref (b 18), .int 0, .ref (b 20), .int 0, .int 0, .int 0, .ref (b 24), .ref (b 25), .ref (b 26), .int 0, .int 0, .ref (b 29), .ref (b 30), .int 0, .ref (b 32), .ref (b 33), .ref (b 34), .ref (b 35), .ref (b 36), .ref (b 37), .int 0, .int 0, .ref (b 40), .ref (b 41), .ref (b 42), .ref (b 43), .ref (b 44), .int 0, .ref (b 46), .ref (b 47), .ref (b 48)]))]) [1] (by decide) rfl
    have hFc := va_free (wc := [(b 0, .inr (12, [.int 0, .int 0, .ref (b 2), .ref (b 3), .ref (b 4), .int 0, .int 0, .int 0, .int 0, .ref (b 9), .int 0, .ref (b 11), .ref (b 12), .ref (b 13), .ref (b 14), .ref (b 15), .ref (b 16), .ref (b 17), .ref (b 18), .int 0, .ref (b 20), .int 0, .int 0, .int 0, .ref (b 24), .ref (b 25), .ref (b 26), .int 0, .int 0, .ref (b 29), .ref (b 30), .int 0, .ref (b 32), .ref (b 33), .ref (b 34), .ref (b 35), .ref (b 36), .ref (b 37), .int 0, .int 0, .ref (b 40), .ref (b 41), .ref (b 42), .ref (b 43), .ref (b 44), .int 0, .ref (b 46), .ref (b 47), .ref (b 48)]))]) hD hS hA [1] rfl
    refine va_calli (va_runV (As := [.int x2, .int x4]) (rest := []) ⟨hx, hb, hml, hown, hts⟩ (c_M_wholes l D dA E b x2 x4 H.size ) (cwV 2 hts (ga_V q671 q672 q669 q278 q670) rfl rfl rfl (by decide +kernel) ⟨(Nat.le_of_ble_eq_true rfl), (Nat.le_of_ble_eq_true rfl)⟩) ⟨pb_blind, va_recv hK hPc (ci := 12) (q0 := 0) rfl rfl, pb_pre hK hPc hDc hZ hS hFc _⟩ rfl rfl hl.1 rfl (lv_room (Nat.le_of_ble_eq_true rfl)) dL_law_1828 ⟨(Nat.le_of_ble_eq_true rfl), (Nat.le_of_ble_eq_true rfl)⟩) hS (fun q _ h => hFc q h) hFc (fun r u t H1 locs ht hvm hw hB hz1 hk1 hS => ?_)
    refine W.widen (k := 66) (n := 11784) (Nat.le_of_ble_eq_true rfl) (Nat.le_of_ble_eq_true rfl) ?_
    obtain ⟨r12, rfl⟩ : ∃ z, z = r := ⟨_, rfl⟩
    obtain ⟨u13, rfl⟩ : ∃ z, z = u := ⟨_, rfl⟩
    have hw14 := hw
    clear hw
    obtain ⟨hP1, hD1⟩ := hB
    rw [ht] at hP1
    obtain ⟨hP, hD⟩ := va_join (wr := [(o, .inl (dA 3, 1, .inr (.inl u6)))]) (w1 := [(b 0, .inr (12, .int u13.1 :: u13.2))]) hP hD [1] [0] rfl rfl (by decide) (by decide) hk1 hFc hP1 hD1
    generalize H1 = H at hP hS ⊢
    have hP : va_P D vwCl [(o, .inl (dA 3, 1, .inr (.inl u6))), (b 0, .inr (12, .int u13.1 :: u13.2))] H := hP
    have hD : va_D A [(o, .inl (dA 3, 1, .inr (.inl u6))), (b 0, .inr (12, .int u13.1 :: u13.2))] := hD
    have hP := hP.sub (ws' := [(b 0, .inr (12, .int u13.1 :: u13.2)), (o, .inl (dA 3, 1, .inr (.inl u6)))]) [1, 0] rfl
    have hD := hD.sub (ws' := [(b 0, .inr (12, .int u13.1 :: u13.2)), (o, .inl (dA 3, 1, .inr (.inl u6)))]) [1, 0] (by decide) rfl
    have hm : u13.1 = 1 := hw14
    rw [hm] at hP hD
    have hP : va_P D vwCl [(b 0, .inr (12, .int 1 :: u13.2)), (o, .inl (dA 3, 1, .inr (.inl u6)))] H := hP
    have hD : va_D A [(b 0, .inr (12, .int 1 :: u13.2)), (o, .inl (dA 3, 1, .inr (.inl u6)))] := hD
    refine lv_istore (lv' := [(7, .int r12), (6, .int 1), (5, .int 0), (4, .ref od), (3, .ref o), (2, .ref (b 0)), (1, .ref (a 0)), (0, .ref bs)]) hx hb dL_law_1831 hl (by decide) rfl (fun ls hl => ?_)
    refine lv_aload_n hx hb dL_law_1833 rfl (lv_at hl 5 rfl) ?_
    have hPc := hP.sub (ws' := [(b 0, .inr (12, .int 1 :: u13.2))]) [0] rfl
    have hDc := hD.sub (ws' := [(b 0, .inr (12, .int 1 :: u13.2))]) [0] (by decide) rfl
    have hFc := va_free (wc := [(b 0, .inr (12, .int 1 :: u13.2))]) hD hS hA [0] rfl
    refine va_calli (va_runV (As := []) (rest := []) ⟨hx, hb, hml, hown, hts⟩ (c_M_thrown l D dA E (b 0) 1 u13.2 H.size ) (cwV 0 hts (ga_V q470 q471 q468 q278 q469) rfl rfl rfl (by decide +kernel) ⟨(Nat.le_of_ble_eq_true rfl), (Nat.le_of_ble_eq_true rfl)⟩) ⟨pb_blind, va_recv hK hPc (ci := 12) (q0 := 0) rfl rfl, pb_pre hK hPc hDc hZ hS hFc _⟩ rfl rfl hl.1 rfl (lv_room (Nat.le_of_ble_eq_true rfl)) dL_law_1834 ⟨(Nat.le_of_ble_eq_true rfl), (Nat.le_of_ble_eq_true rfl)⟩) hS (fun q _ h => hFc q h) hFc (fun r u t H1 locs ht hvm hw hB hz1 hk1 hS => ?_)
    refine W.widen (k := 66) (n := 11784) (Nat.le_of_ble_eq_true rfl) (Nat.le_of_ble_eq_true rfl) ?_
    obtain ⟨r15, rfl⟩ : ∃ z, z = r := ⟨_, rfl⟩
    obtain ⟨u16, rfl⟩ : ∃ z, z = u := ⟨_, rfl⟩
    have hw17 := hw
    clear hw
    obtain ⟨hP, hD⟩ := jn_drop (wr := [(o, .inl (dA 3, 1, .inr (.inl u6)))]) hP hD [0] [1] rfl rfl (by decide) (by decide) hk1 hFc
    generalize H1 = H at hP hS ⊢
    have hP : va_P D vwCl [(o, .inl (dA 3, 1, .inr (.inl u6)))] H := hP
    have hD : va_D A [(o, .inl (dA 3, 1, .inr (.inl u6)))] := hD
    obtain rfl : r15 = 1 := hw17
    refine lv_iload hx hb dL_law_1837 (lv_at hl 1 rfl) ?_
    refine lv_icmp_eq (tgt := 1844) hx hb dL_law_1839 (by decide) (fun _ => ?_) (fun c18 => absurd (by decide) c18)
    refine lv_iload hx hb dL_law_1844 (lv_at hl 1 rfl) ?_
    refine lv_if_ne (tgt := 1861) hx hb dL_law_1846 (by decide) (fun _ => ?_) (fun c19 => absurd c19 (by decide))
    refine lv_goto (tgt := 2346) hx hb dL_law_1861 (by decide) ?_
    exact law_tail l C0 rfl (by rw [hAe]; exact hS) (Nat.le_of_ble_eq_true rfl) (Nat.le_of_ble_eq_true rfl) ls (lv_sub hl [7, 2] rfl)
