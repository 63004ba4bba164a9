/-! CONTRACTS, general -/
set_option maxHeartbeats 4000000 in
set_option maxRecDepth 100000 in
theorem i_Search (l : Launch) (D : va_G) (dA : Nat → ClassId) (E : Nat) (h : Nat) (sz : Nat)   : Met l yX3_init (wq (.code yX3_init cX3_init 1 none)) { frames := 2, cells := 12, slots := 1348, locals := 33 } (va_Pc [.ref h] (PcB D dA E [(h, .inr (6, [.null, .null, .null, .null, .null, .null, .int 0, .int 0]))] sz)) (va_Qv (fun (u : Nat → Nat) => u 0 = h) (fun u t => va_P D vwCl [(u 0, .inr (6, [.ref (u 1), .ref (u 3), .ref (u 5), .ref (u 7), .ref (u 9), .ref (u 11), .int 0, .int 0])), (u 1, .inr (5, [.ref (u 2)])), (u 2, .inl (dA 0, 40, .inl (fun _ => 0))), (u 3, .inr (5, [.ref (u 4)])), (u 4, .inl (dA 0, 30, .inl (fun _ => 0))), (u 5, .inr (5, [.ref (u 6)])), (u 6, .inl (dA 0, 1200, .inl (fun _ => 0))), (u 7, .inr (5, [.ref (u 8)])), (u 8, .inl (dA 0, 30, .inl (fun _ => 0))), (u 9, .inr (5, [.ref (u 10)])), (u 10, .inl (dA 0, 30, .inl (fun _ => 0))), (u 11, .inr (5, [.ref (u 12)])), (u 12, .inl (dA 0, 12, .inl (fun _ => 0)))] t.heap ∧ va_D (va_A [(h, .inr (6, [.null, .null, .null, .null, .null, .null, .int 0, .int 0]))] sz) [(u 0, .inr (6, [.ref (u 1), .ref (u 3), .ref (u 5), .ref (u 7), .ref (u 9), .ref (u 11), .int 0, .int 0])), (u 1, .inr (5, [.ref (u 2)])), (u 2, .inl (dA 0, 40, .inl (fun _ => 0))), (u 3, .inr (5, [.ref (u 4)])), (u 4, .inl (dA 0, 30, .inl (fun _ => 0))), (u 5, .inr (5, [.ref (u 6)])), (u 6, .inl (dA 0, 1200, .inl (fun _ => 0))), (u 7, .inr (5, [.ref (u 8)])), (u 8, .inl (dA 0, 30, .inl (fun _ => 0))), (u 9, .inr (5, [.ref (u 10)])), (u 10, .inl (dA 0, 30, .inl (fun _ => 0))), (u 11, .inr (5, [.ref (u 12)])), (u 12, .inl (dA 0, 12, .inl (fun _ => 0)))]) (va_A [(h, .inr (6, [.null, .null, .null, .null, .null, .null, .int 0, .int 0]))] sz)) 12 1348 (va_A [(h, .inr (6, [.null, .null, .null, .null, .null, .null, .int 0, .int 0]))] sz) := by
  refine mb_of (Qc := fun A => va_Qv (fun (u : Nat → Nat) => u 0 = h) (fun u t => va_P D vwCl [(u 0, .inr (6, [.ref (u 1), .ref (u 3), .ref (u 5), .ref (u 7), .ref (u 9), .ref (u 11), .int 0, .int 0])), (u 1, .inr (5, [.ref (u 2)])), (u 2, .inl (dA 0, 40, .inl (fun _ => 0))), (u 3, .inr (5, [.ref (u 4)])), (u 4, .inl (dA 0, 30, .inl (fun _ => 0))), (u 5, .inr (5, [.ref (u 6)])), (u 6, .inl (dA 0, 1200, .inl (fun _ => 0))), (u 7, .inr (5, [.ref (u 8)])), (u 8, .inl (dA 0, 30, .inl (fun _ => 0))), (u 9, .inr (5, [.ref (u 10)])), (u 10, .inl (dA 0, 30, .inl (fun _ => 0))), (u 11, .inr (5, [.ref (u 12)])), (u 12, .inl (dA 0, 12, .inl (fun _ => 0)))] t.heap ∧ va_D A [(u 0, .inr (6, [.ref (u 1), .ref (u 3), .ref (u 5), .ref (u 7), .ref (u 9), .ref (u 11), .int 0, .int 0])), (u 1, .inr (5, [.ref (u 2)])), (u 2, .inl (dA 0, 40, .inl (fun _ => 0))), (u 3, .inr (5, [.ref (u 4)])), (u 4, .inl (dA 0, 30, .inl (fun _ => 0))), (u 5, .inr (5, [.ref (u 6)])), (u 6, .inl (dA 0, 1200, .inl (fun _ => 0))), (u 7, .inr (5, [.ref (u 8)])), (u 8, .inl (dA 0, 30, .inl (fun _ => 0))), (u 9, .inr (5, [.ref (u 10)])), (u 10, .inl (dA 0, 30, .inl (fun _ => 0))), (u 11, .inr (5, [.ref (u 12)])), (u 12, .inl (dA 0, 12, .inl (fun _ => 0)))]) A) RX3 rfl (by decide) (Nat.le_of_ble_eq_true rfl) ?_
  intro p e s m args below meth c hae hx hb hr hts hown hlocks hml hnm hP hK A hAe hD hZ hS hA ls hl
  replace hl : lv_has ls 1 [(0, .ref h)] := hl
  refine lv_aload_n hx hb dX3_init_0 rfl (lv_at hl 0 rfl) ?_
  refine W.objInit hx hb hown (hts _ q310) (hts _ q263) (hts _ q264) rfl (by rw [hml]; exact hl.1) rfl dX3_init_1 (Nat.le_of_ble_eq_true rfl) (Nat.le_of_ble_eq_true rfl) ?_
  refine W.eq (g2 := F0 m 4 ls []) rfl ?_
  refine lv_aload_n hx hb dX3_init_4 rfl (lv_at hl 0 rfl) ?_
  refine va_new (ci := 5) (fs := [.null]) (C := RX2) (T := TX2) (N := 1) hx hb hts inAX2 tyX2 tyX2_ok hown (hts _ q311) (hts _ q280) (hts _ q204) hK hP hD hS hA rfl fsNX2 (Nat.le_of_ble_eq_true rfl) (Nat.le_of_ble_eq_true rfl) dX3_init_5 (fun q1 H hP hD hS => ?_)
  replace hP : va_P D vwCl [(h, .inr (6, [.null, .null, .null, .null, .null, .null, .int 0, .int 0])), (q1, .inr (5, [.null]))] H := hP
  replace hD : va_D A [(h, .inr (6, [.null, .null, .null, .null, .null, .null, .int 0, .int 0])), (q1, .inr (5, [.null]))] := hD
  refine W.widen (k := 1) (n := 1) (Nat.le_of_ble_eq_true rfl) (Nat.le_of_ble_eq_true rfl) ?_
  refine lv_dup hx hb dX3_init_8 rfl ?_
  refine lv_bipush (v := 40) hx hb dX3_init_9 (by decide) ?_
  replace hPc := hP.sub (ws' := [(q1, .inr (5, [.null]))]) [1] rfl
  replace hDc := hD.sub (ws' := [(q1, .inr (5, [.null]))]) [1] (by decide) rfl
  replace hFc := va_free (wc := [(q1, .inr (5, [.null]))]) hD hS hA [1] rfl
  refine va_callv (va_runI (As := [.int 40]) (rest := [.ref q1, .ref h]) ⟨hx, hb, hml, hown, hts⟩ (i_Row_40 l D dA E q1 H.size ) (cwI 1 hts (ga_I q281) rfl rfl rfl (hts _ q204) (hts _ q312) (hts _ q283) rfl (by decide +kernel) ⟨(Nat.le_of_ble_eq_true rfl), (Nat.le_of_ble_eq_true rfl)⟩) ⟨pb_blind, pb_pre hK hPc hDc hZ hS hFc _⟩ rfl rfl hl.1 rfl (lv_room (Nat.le_of_ble_eq_true rfl)) dX3_init_11 ⟨(Nat.le_of_ble_eq_true rfl), (Nat.le_of_ble_eq_true rfl)⟩) hS (fun q _ h => hFc q h) hFc (fun u t H1 locs ht hvm hw hB hz1 hk1 hS => ?_)
  refine W.widen (k := 2) (n := 41) (Nat.le_of_ble_eq_true rfl) (Nat.le_of_ble_eq_true rfl) ?_
  obtain ⟨u2, rfl⟩ : ∃ z, z = u := ⟨_, rfl⟩
  have hw3 := hw
  clear hw
  obtain ⟨hP1, hD1⟩ := hB
  rw [ht] at hP1
  obtain ⟨hP, hD⟩ := va_join (wr := [(h, .inr (6, [.null, .null, .null, .null, .null, .null, .int 0, .int 0]))]) (w1 := [(q1, .inr (5, [.ref u2])), (u2, .inl (dA 0, 40, .inl (fun _ => 0)))]) hP hD [1] [0] rfl rfl (by decide) (by decide) hk1 hFc hP1 hD1
  generalize H1 = H at hP hS ⊢
  replace hP : va_P D vwCl [(h, .inr (6, [.null, .null, .null, .null, .null, .null, .int 0, .int 0])), (q1, .inr (5, [.ref u2])), (u2, .inl (dA 0, 40, .inl (fun _ => 0)))] H := hP
  replace hD : va_D A [(h, .inr (6, [.null, .null, .null, .null, .null, .null, .int 0, .int 0])), (q1, .inr (5, [.ref u2])), (u2, .inl (dA 0, 40, .inl (fun _ => 0)))] := hD
  refine va_putF (D := D) (ci := 6) (v := .ref q1) (ty := .object "TallowIndex$Row") (C := RX3) (T := TX3) (N := 8) hx hb hts inAX3 tyX3 tyX3_ok nmX3 hown hK hP hD hS 0 rfl rfl 0 (by decide) (hts _ q313) (fun _ h9 => h9) rfl hnm rfl (tyX3_ok 0 (by decide)) rfl rfl (Nat.le_of_ble_eq_true rfl) dX3_init_14 (fun H locs hP hD hS => ?_)
  replace hP : va_P D vwCl [(h, .inr (6, [.ref q1, .null, .null, .null, .null, .null, .int 0, .int 0])), (q1, .inr (5, [.ref u2])), (u2, .inl (dA 0, 40, .inl (fun _ => 0)))] H := hP
  replace hD : va_D A [(h, .inr (6, [.ref q1, .null, .null, .null, .null, .null, .int 0, .int 0])), (q1, .inr (5, [.ref u2])), (u2, .inl (dA 0, 40, .inl (fun _ => 0)))] := hD
  refine lv_aload_n hx hb dX3_init_17 rfl (lv_at hl 0 rfl) ?_
  refine va_new (ci := 5) (fs := [.null]) (C := RX2) (T := TX2) (N := 1) hx hb hts inAX2 tyX2 tyX2_ok hown (hts _ q311) (hts _ q280) (hts _ q204) hK hP hD hS hA rfl fsNX2 (Nat.le_of_ble_eq_true rfl) (Nat.le_of_ble_eq_true rfl) dX3_init_18 (fun q4 H hP hD hS => ?_)
  replace hP : va_P D vwCl [(h, .inr (6, [.ref q1, .null, .null, .null, .null, .null, .int 0, .int 0])), (q1, .inr (5, [.ref u2])), (u2, .inl (dA 0, 40, .inl (fun _ => 0))), (q4, .inr (5, [.null]))] H := hP
  replace hD : va_D A [(h, .inr (6, [.ref q1, .null, .null, .null, .null, .null, .int 0, .int 0])), (q1, .inr (5, [.ref u2])), (u2, .inl (dA 0, 40, .inl (fun _ => 0))), (q4, .inr (5, [.null]))] := hD
  refine W.widen (k := 3) (n := 42) (Nat.le_of_ble_eq_true rfl) (Nat.le_of_ble_eq_true rfl) ?_
  refine lv_dup hx hb dX3_init_21 rfl ?_
  refine lv_bipush (v := 30) hx hb dX3_init_22 (by decide) ?_
  replace hPc := hP.sub (ws' := [(q4, .inr (5, [.null]))]) [3] rfl
  replace hDc := hD.sub (ws' := [(q4, .inr (5, [.null]))]) [3] (by decide) rfl
  replace hFc := va_free (wc := [(q4, .inr (5, [.null]))]) hD hS hA [3] rfl
  refine va_callv (va_runI (As := [.int 30]) (rest := [.ref q4, .ref h]) ⟨hx, hb, hml, hown, hts⟩ (i_Row_30 l D dA E q4 H.size ) (cwI 1 hts (ga_I q281) rfl rfl rfl (hts _ q204) (hts _ q312) (hts _ q283) rfl (by decide +kernel) ⟨(Nat.le_of_ble_eq_true rfl), (Nat.le_of_ble_eq_true rfl)⟩) ⟨pb_blind, pb_pre hK hPc hDc hZ hS hFc _⟩ rfl rfl hl.1 rfl (lv_room (Nat.le_of_ble_eq_true rfl)) dX3_init_24 ⟨(Nat.le_of_ble_eq_true rfl), (Nat.le_of_ble_eq_true rfl)⟩) hS (fun q _ h => hFc q h) hFc (fun u t H1 locs ht hvm hw hB hz1 hk1 hS => ?_)
  refine W.widen (k := 4) (n := 72) (Nat.le_of_ble_eq_true rfl) (Nat.le_of_ble_eq_true rfl) ?_
  obtain ⟨u5, rfl⟩ : ∃ z, z = u := ⟨_, rfl⟩
  have hw6 := hw
  clear hw
  obtain ⟨hP1, hD1⟩ := hB
  rw [ht] at hP1
  obtain ⟨hP, hD⟩ := va_join (wr := [(h, .inr (6, [.ref q1, .null, .null, .null, .null, .null, .int 0, .int 0])), (q1, .inr (5, [.ref u2])), (u2, .inl (dA 0, 40, .inl (fun _ => 0)))]) (w1 := [(q4, .inr (5, [.ref u5])), (u5, .inl (dA 0, 30, .inl (fun _ => 0)))]) hP hD [3] [0, 1, 2] rfl rfl (by decide) (by decide) hk1 hFc hP1 hD1
  generalize H1 = H at hP hS ⊢
  replace hP : va_P D vwCl [(h, .inr (6, [.ref q1, .null, .null, .null, .null, .null, .int 0, .int 0])), (q1, .inr (5, [.ref u2])), (u2, .inl (dA 0, 40, .inl (fun _ => 0))), (q4, .inr (5, [.ref u5])), (u5, .inl (dA 0, 30, .inl (fun _ => 0)))] H := hP
  replace hD : va_D A [(h, .inr (6, [.ref q1, .null, .null, .null, .null, .null, .int 0, .int 0])), (q1, .inr (5, [.ref u2])), (u2, .inl (dA 0, 40, .inl (fun _ => 0))), (q4, .inr (5, [.ref u5])), (u5, .inl (dA 0, 30, .inl (fun _ => 0)))] := hD
  refine va_putF (D := D) (ci := 6) (v := .ref q4) (ty := .object "TallowIndex$Row") (C := RX3) (T := TX3) (N := 8) hx hb hts inAX3 tyX3 tyX3_ok nmX3 hown hK hP hD hS 0 rfl rfl 1 (by decide) (hts _ q314) (fun _ h9 => h9) rfl hnm rfl (tyX3_ok 1 (by decide)) rfl rfl (Nat.le_of_ble_eq_true rfl) dX3_init_27 (fun H locs hP hD hS => ?_)
  replace hP : va_P D vwCl [(h, .inr (6, [.ref q1, .ref q4, .null, .null, .null, .null, .int 0, .int 0])), (q1, .inr (5, [.ref u2])), (u2, .inl (dA 0, 40, .inl (fun _ => 0))), (q4, .inr (5, [.ref u5])), (u5, .inl (dA 0, 30, .inl (fun _ => 0)))] H := hP
  replace hD : va_D A [(h, .inr (6, [.ref q1, .ref q4, .null, .null, .null, .null, .int 0, .int 0])), (q1, .inr (5, [.ref u2])), (u2, .inl (dA 0, 40, .inl (fun _ => 0))), (q4, .inr (5, [.ref u5])), (u5, .inl (dA 0, 30, .inl (fun _ => 0)))] := hD
  refine lv_aload_n hx hb dX3_init_30 rfl (lv_at hl 0 rfl) ?_
  refine va_new (ci := 5) (fs := [.null]) (C := RX2) (T := TX2) (N := 1) hx hb hts inAX2 tyX2 tyX2_ok hown (hts _ q311) (hts _ q280) (hts _ q204) hK hP hD hS hA rfl fsNX2 (Nat.le_of_ble_eq_true rfl) (Nat.le_of_ble_eq_true rfl) dX3_init_31 (fun q7 H hP hD hS => ?_)
  replace hP : va_P D vwCl [(h, .inr (6, [.ref q1, .ref q4, .null, .null, .null, .null, .int 0, .int 0])), (q1, .inr (5, [.ref u2])), (u2, .inl (dA 0, 40, .inl (fun _ => 0))), (q4, .inr (5, [.ref u5])), (u5, .inl (dA 0, 30, .inl (fun _ => 0))), (q7, .inr (5, [.null]))] H := hP
  replace hD : va_D A [(h, .inr (6, [.ref q1, .ref q4, .null, .null, .null, .null, .int 0, .int 0])), (q1, .inr (5, [.ref u2])), (u2, .inl (dA 0, 40, .inl (fun _ => 0))), (q4, .inr (5, [.ref u5])), (u5, .inl (dA 0, 30, .inl (fun _ => 0))), (q7, .inr (5, [.null]))] := hD
  refine W.widen (k := 5) (n := 73) (Nat.le_of_ble_eq_true rfl) (Nat.le_of_ble_eq_true rfl) ?_
  refine lv_dup hx hb dX3_init_34 rfl ?_
  refine lv_sipush (v := 1200) hx hb dX3_init_35 (by decide) ?_
  replace hPc := hP.sub (ws' := [(q7, .inr (5, [.null]))]) [5] rfl
  replace hDc := hD.sub (ws' := [(q7, .inr (5, [.null]))]) [5] (by decide) rfl
  replace hFc := va_free (wc := [(q7, .inr (5, [.null]))]) hD hS hA [5] rfl
  refine va_callv (va_runI (As := [.int 1200]) (rest := [.ref q7, .ref h]) ⟨hx, hb, hml, hown, hts⟩ (i_Row_1200 l D dA E q7 H.size ) (cwI 1 hts (ga_I q281) rfl rfl rfl (hts _ q204) (hts _ q312) (hts _ q283) rfl (by decide +kernel) ⟨(Nat.le_of_ble_eq_true rfl), (Nat.le_of_ble_eq_true rfl)⟩) ⟨pb_blind, pb_pre hK hPc hDc hZ hS hFc _⟩ rfl rfl hl.1 rfl (lv_room (Nat.le_of_ble_eq_true rfl)) dX3_init_38 ⟨(Nat.le_of_ble_eq_true rfl), (Nat.le_of_ble_eq_true rfl)⟩) hS (fun q _ h => hFc q h) hFc (fun u t H1 locs ht hvm hw hB hz1 hk1 hS => ?_)
  refine W.widen (k := 6) (n := 1273) (Nat.le_of_ble_eq_true rfl) (Nat.le_of_ble_eq_true rfl) ?_
  obtain ⟨u8, rfl⟩ : ∃ z, z = u := ⟨_, rfl⟩
  have hw9 := hw
  clear hw
  obtain ⟨hP1, hD1⟩ := hB
  rw [ht] at hP1
  obtain ⟨hP, hD⟩ := va_join (wr := [(h, .inr (6, [.ref q1, .ref q4, .null, .null, .null, .null, .int 0, .int 0])), (q1, .inr (5, [.ref u2])), (u2, .inl (dA 0, 40, .inl (fun _ => 0))), (q4, .inr (5, [.ref u5])), (u5, .inl (dA 0, 30, .inl (fun _ => 0)))]) (w1 := [(q7, .inr (5, [.ref u8])), (u8, .inl (dA 0, 1200, .inl (fun _ => 0)))]) hP hD [5] [0, 1, 2, 3, 4] rfl rfl (by decide) (by decide) hk1 hFc hP1 hD1
  generalize H1 = H at hP hS ⊢
  replace hP : va_P D vwCl [(h, .inr (6, [.ref q1, .ref q4, .null, .null, .null, .null, .int 0, .int 0])), (q1, .inr (5, [.ref u2])), (u2, .inl (dA 0, 40, .inl (fun _ => 0))), (q4, .inr (5, [.ref u5])), (u5, .inl (dA 0, 30, .inl (fun _ => 0))), (q7, .inr (5, [.ref u8])), (u8, .inl (dA 0, 1200, .inl (fun _ => 0)))] H := hP
  replace hD : va_D A [(h, .inr (6, [.ref q1, .ref q4, .null, .null, .null, .null, .int 0, .int 0])), (q1, .inr (5, [.ref u2])), (u2, .inl (dA 0, 40, .inl (fun _ => 0))), (q4, .inr (5, [.ref u5])), (u5, .inl (dA 0, 30, .inl (fun _ => 0))), (q7, .inr (5, [.ref u8])), (u8, .inl (dA 0, 1200, .inl (fun _ => 0)))] := hD
  refine va_putF (D := D) (ci := 6) (v := .ref q7) (ty := .object "TallowIndex$Row") (C := RX3) (T := TX3) (N := 8) hx hb hts inAX3 tyX3 tyX3_ok nmX3 hown hK hP hD hS 0 rfl rfl 2 (by decide) (hts _ q315) (fun _ h9 => h9) rfl hnm rfl (tyX3_ok 2 (by decide)) rfl rfl (Nat.le_of_ble_eq_true rfl) dX3_init_41 (fun H locs hP hD hS => ?_)
  replace hP : va_P D vwCl [(h, .inr (6, [.ref q1, .ref q4, .ref q7, .null, .null, .null, .int 0, .int 0])), (q1, .inr (5, [.ref u2])), (u2, .inl (dA 0, 40, .inl (fun _ => 0))), (q4, .inr (5, [.ref u5])), (u5, .inl (dA 0, 30, .inl (fun _ => 0))), (q7, .inr (5, [.ref u8])), (u8, .inl (dA 0, 1200, .inl (fun _ => 0)))] H := hP
  replace hD : va_D A [(h, .inr (6, [.ref q1, .ref q4, .ref q7, .null, .null, .null, .int 0, .int 0])), (q1, .inr (5, [.ref u2])), (u2, .inl (dA 0, 40, .inl (fun _ => 0))), (q4, .inr (5, [.ref u5])), (u5, .inl (dA 0, 30, .inl (fun _ => 0))), (q7, .inr (5, [.ref u8])), (u8, .inl (dA 0, 1200, .inl (fun _ => 0)))] := hD
  refine lv_aload_n hx hb dX3_init_44 rfl (lv_at hl 0 rfl) ?_
  refine va_new (ci := 5) (fs := [.null]) (C := RX2) (T := TX2) (N := 1) hx hb hts inAX2 tyX2 tyX2_ok hown (hts _ q311) (hts _ q280) (hts _ q204) hK hP hD hS hA rfl fsNX2 (Nat.le_of_ble_eq_true rfl) (Nat.le_of_ble_eq_true rfl) dX3_init_45 (fun q10 H hP hD hS => ?_)
  replace hP : va_P D vwCl [(h, .inr (6, [.ref q1, .ref q4, .ref q7, .null, .null, .null, .int 0, .int 0])), (q1, .inr (5, [.ref u2])), (u2, .inl (dA 0, 40, .inl (fun _ => 0))), (q4, .inr (5, [.ref u5])), (u5, .inl (dA 0, 30, .inl (fun _ => 0))), (q7, .inr (5, [.ref u8])), (u8, .inl (dA 0, 1200, .inl (fun _ => 0))), (q10, .inr (5, [.null]))] H := hP
  replace hD : va_D A [(h, .inr (6, [.ref q1, .ref q4, .ref q7, .null, .null, .null, .int 0, .int 0])), (q1, .inr (5, [.ref u2])), (u2, .inl (dA 0, 40, .inl (fun _ => 0))), (q4, .inr (5, [.ref u5])), (u5, .inl (dA 0, 30, .inl (fun _ => 0))), (q7, .inr (5, [.ref u8])), (u8, .inl (dA 0, 1200, .inl (fun _ => 0))), (q10, .inr (5, [.null]))] := hD
  refine W.widen (k := 7) (n := 1274) (Nat.le_of_ble_eq_true rfl) (Nat.le_of_ble_eq_true rfl) ?_
  refine lv_dup hx hb dX3_init_48 rfl ?_
  refine lv_bipush (v := 30) hx hb dX3_init_49 (by decide) ?_
  replace hPc := hP.sub (ws' := [(q10, .inr (5, [.null]))]) [7] rfl
  replace hDc := hD.sub (ws' := [(q10, .inr (5, [.null]))]) [7] (by decide) rfl
  replace hFc := va_free (wc := [(q10, .inr (5, [.null]))]) hD hS hA [7] rfl
  refine va_callv (va_runI (As := [.int 30]) (rest := [.ref q10, .ref h]) ⟨hx, hb, hml, hown, hts⟩ (i_Row_30 l D dA E q10 H.size ) (cwI 1 hts (ga_I q281) rfl rfl rfl (hts _ q204) (hts _ q312) (hts _ q283) rfl (by decide +kernel) ⟨(Nat.le_of_ble_eq_true rfl), (Nat.le_of_ble_eq_true rfl)⟩) ⟨pb_blind, pb_pre hK hPc hDc hZ hS hFc _⟩ rfl rfl hl.1 rfl (lv_room (Nat.le_of_ble_eq_true rfl)) dX3_init_51 ⟨(Nat.le_of_ble_eq_true rfl), (Nat.le_of_ble_eq_true rfl)⟩) hS (fun q _ h => hFc q h) hFc (fun u t H1 locs ht hvm hw hB hz1 hk1 hS => ?_)
  refine W.widen (k := 8) (n := 1304) (Nat.le_of_ble_eq_true rfl) (Nat.le_of_ble_eq_true rfl) ?_
  obtain ⟨u11, rfl⟩ : ∃ z, z = u := ⟨_, rfl⟩
  have hw12 := hw
  clear hw
  obtain ⟨hP1, hD1⟩ := hB
  rw [ht] at hP1
  obtain ⟨hP, hD⟩ := va_join (wr := [(h, .inr (6, [.ref q1, .ref q4, .ref q7, .null, .null, .null, .int 0, .int 0])), (q1, .inr (5, [.ref u2])), (u2, .inl (dA 0, 40, .inl (fun _ => 0))), (q4, .inr (5, [.ref u5])), (u5, .inl (dA 0, 30, .inl (fun _ => 0))), (q7, .inr (5, [.ref u8])), (u8, .inl (dA 0, 1200, .inl (fun _ => 0)))]) (w1 := [(q10, .inr (5, [.ref u11])), (u11, .inl (dA 0, 30, .inl (fun _ => 0)))]) hP hD [7] [0, 1, 2, 3, 4, 5, 6] rfl rfl (by decide) (by decide) hk1 hFc hP1 hD1
  generalize H1 = H at hP hS ⊢
  replace hP : va_P D vwCl [(h, .inr (6, [.ref q1, .ref q4, .ref q7, .null, .null, .null, .int 0, .int 0])), (q1, .inr (5, [.ref u2])), (u2, .inl (dA 0, 40, .inl (fun _ => 0))), (q4, .inr (5, [.ref u5])), (u5, .inl (dA 0, 30, .inl (fun _ => 0))), (q7, .inr (5, [.ref u8])), (u8, .inl (dA 0, 1200, .inl (fun _ => 0))), (q10, .inr (5, [.ref u11])), (u11, .inl (dA 0, 30, .inl (fun _ => 0)))] H := hP
  replace hD : va_D A [(h, .inr (6, [.ref q1, .ref q4, .ref q7, .null, .null, .null, .int 0, .int 0])), (q1, .inr (5, [.ref u2])), (u2, .inl (dA 0, 40, .inl (fun _ => 0))), (q4, .inr (5, [.ref u5])), (u5, .inl (dA 0, 30, .inl (fun _ => 0))), (q7, .inr (5, [.ref u8])), (u8, .inl (dA 0, 1200, .inl (fun _ => 0))), (q10, .inr (5, [.ref u11])), (u11, .inl (dA 0, 30, .inl (fun _ => 0)))] := hD
  refine va_putF (D := D) (ci := 6) (v := .ref q10) (ty := .object "TallowIndex$Row") (C := RX3) (T := TX3) (N := 8) hx hb hts inAX3 tyX3 tyX3_ok nmX3 hown hK hP hD hS 0 rfl rfl 3 (by decide) (hts _ q316) (fun _ h9 => h9) rfl hnm rfl (tyX3_ok 3 (by decide)) rfl rfl (Nat.le_of_ble_eq_true rfl) dX3_init_54 (fun H locs hP hD hS => ?_)
  replace hP : va_P D vwCl [(h, .inr (6, [.ref q1, .ref q4, .ref q7, .ref q10, .null, .null, .int 0, .int 0])), (q1, .inr (5, [.ref u2])), (u2, .inl (dA 0, 40, .inl (fun _ => 0))), (q4, .inr (5, [.ref u5])), (u5, .inl (dA 0, 30, .inl (fun _ => 0))), (q7, .inr (5, [.ref u8])), (u8, .inl (dA 0, 1200, .inl (fun _ => 0))), (q10, .inr (5, [.ref u11])), (u11, .inl (dA 0, 30, .inl (fun _ => 0)))] H := hP
  replace hD : va_D A [(h, .inr (6, [.ref q1, .ref q4, .ref q7, .ref q10, .null, .null, .int 0, .int 0])), (q1, .inr (5, [.ref u2])), (u2, .inl (dA 0, 40, .inl (fun _ => 0))), (q4, .inr (5, [.ref u5])), (u5, .inl (dA 0, 30, .inl (fun _ => 0))), (q7, .inr (5, [.ref u8])), (u8, .inl (dA 0, 1200, .inl (fun _ => 0))), (q10, .inr (5, [.ref u11])), (u11, .inl (dA 0, 30, .inl (fun _ => 0)))] := hD
  refine lv_aload_n hx hb dX3_init_57 rfl (lv_at hl 0 rfl) ?_
  refine va_new (ci := 5) (fs := [.null]) (C := RX2) (T := TX2) (N := 1) hx hb hts inAX2 tyX2 tyX2_ok hown (hts _ q311) (hts _ q280) (hts _ q204) hK hP hD hS hA rfl fsNX2 (Nat.le_of_ble_eq_true rfl) (Nat.le_of_ble_eq_true rfl) dX3_init_58 (fun q13 H hP hD hS => ?_)
  replace hP : va_P D vwCl [(h, .inr (6, [.ref q1, .ref q4, .ref q7, .ref q10, .null, .null, .int 0, .int 0])), (q1, .inr (5, [.ref u2])), (u2, .inl (dA 0, 40, .inl (fun _ => 0))), (q4, .inr (5, [.ref u5])), (u5, .inl (dA 0, 30, .inl (fun _ => 0))), (q7, .inr (5, [.ref u8])), (u8, .inl (dA 0, 1200, .inl (fun _ => 0))), (q10, .inr (5, [.ref u11])), (u11, .inl (dA 0, 30, .inl (fun _ => 0))), (q13, .inr (5, [.null]))] H := hP
  replace hD : va_D A [(h, .inr (6, [.ref q1, .ref q4, .ref q7, .ref q10, .null, .null, .int 0, .int 0])), (q1, .inr (5, [.ref u2])), (u2, .inl (dA 0, 40, .inl (fun _ => 0))), (q4, .inr (5, [.ref u5])), (u5, .inl (dA 0, 30, .inl (fun _ => 0))), (q7, .inr (5, [.ref u8])), (u8, .inl (dA 0, 1200, .inl (fun _ => 0))), (q10, .inr (5, [.ref u11])), (u11, .inl (dA 0, 30, .inl (fun _ => 0))), (q13, .inr (5, [.null]))] := hD
  refine W.widen (k := 9) (n := 1305) (Nat.le_of_ble_eq_true rfl) (Nat.le_of_ble_eq_true rfl) ?_
  refine lv_dup hx hb dX3_init_61 rfl ?_
  refine lv_bipush (v := 30) hx hb dX3_init_62 (by decide) ?_
  replace hPc := hP.sub (ws' := [(q13, .inr (5, [.null]))]) [9] rfl
  replace hDc := hD.sub (ws' := [(q13, .inr (5, [.null]))]) [9] (by decide) rfl
  replace hFc := va_free (wc := [(q13, .inr (5, [.null]))]) hD hS hA [9] rfl
  refine va_callv (va_runI (As := [.int 30]) (rest := [.ref q13, .ref h]) ⟨hx, hb, hml, hown, hts⟩ (i_Row_30 l D dA E q13 H.size ) (cwI 1 hts (ga_I q281) rfl rfl rfl (hts _ q204) (hts _ q312) (hts _ q283) rfl (by decide +kernel) ⟨(Nat.le_of_ble_eq_true rfl), (Nat.le_of_ble_eq_true rfl)⟩) ⟨pb_blind, pb_pre hK hPc hDc hZ hS hFc _⟩ rfl rfl hl.1 rfl (lv_room (Nat.le_of_ble_eq_true rfl)) dX3_init_64 ⟨(Nat.le_of_ble_eq_true rfl), (Nat.le_of_ble_eq_true rfl)⟩) hS (fun q _ h => hFc q h) hFc (fun u t H1 locs ht hvm hw hB hz1 hk1 hS => ?_)
  refine W.widen (k := 10) (n := 1335) (Nat.le_of_ble_eq_true rfl) (Nat.le_of_ble_eq_true rfl) ?_
  obtain ⟨u14, rfl⟩ : ∃ z, z = u := ⟨_, rfl⟩
  have hw15 := hw
  clear hw
  obtain ⟨hP1, hD1⟩ := hB
  rw [ht] at hP1
  obtain ⟨hP, hD⟩ := va_join (wr := [(h, .inr (6, [.ref q1, .ref q4, .ref q7, .ref q10, .null, .null, .int 0, .int 0])), (q1, .inr (5, [.ref u2])), (u2, .inl (dA 0, 40, .inl (fun _ => 0))), (q4, .inr (5, [.ref u5])), (u5, .inl (dA 0, 30, .inl (fun _ => 0))), (q7, .inr (5, [.ref u8])), (u8, .inl (dA 0, 1200, .inl (fun _ => 0))), (q10, .inr (5, [.ref u11])), (u11, .inl (dA 0, 30, .inl (fun _ => 0)))]) (w1 := [(q13, .inr (5, [.ref u14])), (u14, .inl (dA 0, 30, .inl (fun _ => 0)))]) hP hD [9] [0, 1, 2, 3, 4, 5, 6, 7, 8] rfl rfl (by decide) (by decide) hk1 hFc hP1 hD1
  generalize H1 = H at hP hS ⊢
  replace hP : va_P D vwCl [(h, .inr (6, [.ref q1, .ref q4, .ref q7, .ref q10, .null, .null, .int 0, .int 0])), (q1, .inr (5, [.ref u2])), (u2, .inl (dA 0, 40, .inl (fun _ => 0))), (q4, .inr (5, [.ref u5])), (u5, .inl (dA 0, 30, .inl (fun _ => 0))), (q7, .inr (5, [.ref u8])), (u8, .inl (dA 0, 1200, .inl (fun _ => 0))), (q10, .inr (5, [.ref u11])), (u11, .inl (dA 0, 30, .inl (fun _ => 0))), (q13, .inr (5, [.ref u14])), (u14, .inl (dA 0, 30, .inl (fun _ => 0)))] H := hP
  replace hD : va_D A [(h, .inr (6, [.ref q1, .ref q4, .ref q7, .ref q10, .null, .null, .int 0, .int 0])), (q1, .inr (5, [.ref u2])), (u2, .inl (dA 0, 40, .inl (fun _ => 0))), (q4, .inr (5, [.ref u5])), (u5, .inl (dA 0, 30, .inl (fun _ => 0))), (q7, .inr (5, [.ref u8])), (u8, .inl (dA 0, 1200, .inl (fun _ => 0))), (q10, .inr (5, [.ref u11])), (u11, .inl (dA 0, 30, .inl (fun _ => 0))), (q13, .inr (5, [.ref u14])), (u14, .inl (dA 0, 30, .inl (fun _ => 0)))] := hD
  refine va_putF (D := D) (ci := 6) (v := .ref q13) (ty := .object "TallowIndex$Row") (C := RX3) (T := TX3) (N := 8) hx hb hts inAX3 tyX3 tyX3_ok nmX3 hown hK hP hD hS 0 rfl rfl 4 (by decide) (hts _ q317) (fun _ h9 => h9) rfl hnm rfl (tyX3_ok 4 (by decide)) rfl rfl (Nat.le_of_ble_eq_true rfl) dX3_init_67 (fun H locs hP hD hS => ?_)
  replace hP : va_P D vwCl [(h, .inr (6, [.ref q1, .ref q4, .ref q7, .ref q10, .ref q13, .null, .int 0, .int 0])), (q1, .inr (5, [.ref u2])), (u2, .inl (dA 0, 40, .inl (fun _ => 0))), (q4, .inr (5, [.ref u5])), (u5, .inl (dA 0, 30, .inl (fun _ => 0))), (q7, .inr (5, [.ref u8])), (u8, .inl (dA 0, 1200, .inl (fun _ => 0))), (q10, .inr (5, [.ref u11])), (u11, .inl (dA 0, 30, .inl (fun _ => 0))), (q13, .inr (5, [.ref u14])), (u14, .inl (dA 0, 30, .inl (fun _ => 0)))] H := hP
  replace hD : va_D A [(h, .inr (6, [.ref q1, .ref q4, .ref q7, .ref q10, .ref q13, .null, .int 0, .int 0])), (q1, .inr (5, [.ref u2])), (u2, .inl (dA 0, 40, .inl (fun _ => 0))), (q4, .inr (5, [.ref u5])), (u5, .inl (dA 0, 30, .inl (fun _ => 0))), (q7, .inr (5, [.ref u8])), (u8, .inl (dA 0, 1200, .inl (fun _ => 0))), (q10, .inr (5, [.ref u11])), (u11, .inl (dA 0, 30, .inl (fun _ => 0))), (q13, .inr (5, [.ref u14])), (u14, .inl (dA 0, 30, .inl (fun _ => 0)))] := hD
  refine lv_aload_n hx hb dX3_init_70 rfl (lv_at hl 0 rfl) ?_
  refine va_new (ci := 5) (fs := [.null]) (C := RX2) (T := TX2) (N := 1) hx hb hts inAX2 tyX2 tyX2_ok hown (hts _ q311) (hts _ q280) (hts _ q204) hK hP hD hS hA rfl fsNX2 (Nat.le_of_ble_eq_true rfl) (Nat.le_of_ble_eq_true rfl) dX3_init_71 (fun q16 H hP hD hS => ?_)
  replace hP : va_P D vwCl [(h, .inr (6, [.ref q1, .ref q4, .ref q7, .ref q10, .ref q13, .null, .int 0, .int 0])), (q1, .inr (5, [.ref u2])), (u2, .inl (dA 0, 40, .inl (fun _ => 0))), (q4, .inr (5, [.ref u5])), (u5, .inl (dA 0, 30, .inl (fun _ => 0))), (q7, .inr (5, [.ref u8])), (u8, .inl (dA 0, 1200, .inl (fun _ => 0))), (q10, .inr (5, [.ref u11])), (u11, .inl (dA 0, 30, .inl (fun _ => 0))), (q13, .inr (5, [.ref u14])), (u14, .inl (dA 0, 30, .inl (fun _ => 0))), (q16, .inr (5, [.null]))] H := hP
  replace hD : va_D A [(h, .inr (6, [.ref q1, .ref q4, .ref q7, .ref q10, .ref q13, .null, .int 0, .int 0])), (q1, .inr (5, [.ref u2])), (u2, .inl (dA 0, 40, .inl (fun _ => 0))), (q4, .inr (5, [.ref u5])), (u5, .inl (dA 0, 30, .inl (fun _ => 0))), (q7, .inr (5, [.ref u8])), (u8, .inl (dA 0, 1200, .inl (fun _ => 0))), (q10, .inr (5, [.ref u11])), (u11, .inl (dA 0, 30, .inl (fun _ => 0))), (q13, .inr (5, [.ref u14])), (u14, .inl (dA 0, 30, .inl (fun _ => 0))), (q16, .inr (5, [.null]))] := hD
  refine W.widen (k := 11) (n := 1336) (Nat.le_of_ble_eq_true rfl) (Nat.le_of_ble_eq_true rfl) ?_
  refine lv_dup hx hb dX3_init_74 rfl ?_
  refine lv_bipush (v := 12) hx hb dX3_init_75 (by decide) ?_
  replace hPc := hP.sub (ws' := [(q16, .inr (5, [.null]))]) [11] rfl
  replace hDc := hD.sub (ws' := [(q16, .inr (5, [.null]))]) [11] (by decide) rfl
  replace hFc := va_free (wc := [(q16, .inr (5, [.null]))]) hD hS hA [11] rfl
  refine va_callv (va_runI (As := [.int 12]) (rest := [.ref q16, .ref h]) ⟨hx, hb, hml, hown, hts⟩ (i_Row_12 l D dA E q16 H.size ) (cwI 1 hts (ga_I q281) rfl rfl rfl (hts _ q204) (hts _ q312) (hts _ q283) rfl (by decide +kernel) ⟨(Nat.le_of_ble_eq_true rfl), (Nat.le_of_ble_eq_true rfl)⟩) ⟨pb_blind, pb_pre hK hPc hDc hZ hS hFc _⟩ rfl rfl hl.1 rfl (lv_room (Nat.le_of_ble_eq_true rfl)) dX3_init_77 ⟨(Nat.le_of_ble_eq_true rfl), (Nat.le_of_ble_eq_true rfl)⟩) hS (fun q _ h => hFc q h) hFc (fun u t H1 locs ht hvm hw hB hz1 hk1 hS => ?_)
  refine W.widen (k := 12) (n := 1348) (Nat.le_of_ble_eq_true rfl) (Nat.le_of_ble_eq_true rfl) ?_
  obtain ⟨u17, rfl⟩ : ∃ z, z = u := ⟨_, rfl⟩
  have hw18 := hw
  clear hw
  obtain ⟨hP1, hD1⟩ := hB
  rw [ht] at hP1
  obtain ⟨hP, hD⟩ := va_join (wr := [(h, .inr (6, [.ref q1, .ref q4, .ref q7, .ref q10, .ref q13, .null, .int 0, .int 0])), (q1, .inr (5, [.ref u2])), (u2, .inl (dA 0, 40, .inl (fun _ => 0))), (q4, .inr (5, [.ref u5])), (u5, .inl (dA 0, 30, .inl (fun _ => 0))), (q7, .inr (5, [.ref u8])), (u8, .inl (dA 0, 1200, .inl (fun _ => 0))), (q10, .inr (5, [.ref u11])), (u11, .inl (dA 0, 30, .inl (fun _ => 0))), (q13, .inr (5, [.ref u14])), (u14, .inl (dA 0, 30, .inl (fun _ => 0)))]) (w1 := [(q16, .inr (5, [.ref u17])), (u17, .inl (dA 0, 12, .inl (fun _ => 0)))]) hP hD [11] [0, 1, 2, 3, 4, 5, 6, 7, 8, 9, 10] rfl rfl (by decide) (by decide) hk1 hFc hP1 hD1
  generalize H1 = H at hP hS ⊢
  replace hP : va_P D vwCl [(h, .inr (6, [.ref q1, .ref q4, .ref q7, .ref q10, .ref q13, .null, .int 0, .int 0])), (q1, .inr (5, [.ref u2])), (u2, .inl (dA 0, 40, .inl (fun _ => 0))), (q4, .inr (5, [.ref u5])), (u5, .inl (dA 0, 30, .inl (fun _ => 0))), (q7, .inr (5, [.ref u8])), (u8, .inl (dA 0, 1200, .inl (fun _ => 0))), (q10, .inr (5, [.ref u11])), (u11, .inl (dA 0, 30, .inl (fun _ => 0))), (q13, .inr (5, [.ref u14])), (u14, .inl (dA 0, 30, .inl (fun _ => 0))), (q16, .inr (5, [.ref u17])), (u17, .inl (dA 0, 12, .inl (fun _ => 0)))] H := hP
  replace hD : va_D A [(h, .inr (6, [.ref q1, .ref q4, .ref q7, .ref q10, .ref q13, .null, .int 0, .int 0])), (q1, .inr (5, [.ref u2])), (u2, .inl (dA 0, 40, .inl (fun _ => 0))), (q4, .inr (5, [.ref u5])), (u5, .inl (dA 0, 30, .inl (fun _ => 0))), (q7, .inr (5, [.ref u8])), (u8, .inl (dA 0, 1200, .inl (fun _ => 0))), (q10, .inr (5, [.ref u11])), (u11, .inl (dA 0, 30, .inl (fun _ => 0))), (q13, .inr (5, [.ref u14])), (u14, .inl (dA 0, 30, .inl (fun _ => 0))), (q16, .inr (5, [.ref u17])), (u17, .inl (dA 0, 12, .inl (fun _ => 0)))] := hD
  refine va_putF (D := D) (ci := 6) (v := .ref q16) (ty := .object "TallowIndex$Row") (C := RX3) (T := TX3) (N := 8) hx hb hts inAX3 tyX3 tyX3_ok nmX3 hown hK hP hD hS 0 rfl rfl 5 (by decide) (hts _ q318) (fun _ h9 => h9) rfl hnm rfl (tyX3_ok 5 (by decide)) rfl rfl (Nat.le_of_ble_eq_true rfl) dX3_init_80 (fun H locs hP hD hS => ?_)
  replace hP : va_P D vwCl [(h, .inr (6, [.ref q1, .ref q4, .ref q7, .ref q10, .ref q13, .ref q16, .int 0, .int 0])), (q1, .inr (5, [.ref u2])), (u2, .inl (dA 0, 40, .inl (fun _ => 0))), (q4, .inr (5, [.ref u5])), (u5, .inl (dA 0, 30, .inl (fun _ => 0))), (q7, .inr (5, [.ref u8])), (u8, .inl (dA 0, 1200, .inl (fun _ => 0))), (q10, .inr (5, [.ref u11])), (u11, .inl (dA 0, 30, .inl (fun _ => 0))), (q13, .inr (5, [.ref u14])), (u14, .inl (dA 0, 30, .inl (fun _ => 0))), (q16, .inr (5, [.ref u17])), (u17, .inl (dA 0, 12, .inl (fun _ => 0)))] H := hP
  replace hD : va_D A [(h, .inr (6, [.ref q1, .ref q4, .ref q7, .ref q10, .ref q13, .ref q16, .int 0, .int 0])), (q1, .inr (5, [.ref u2])), (u2, .inl (dA 0, 40, .inl (fun _ => 0))), (q4, .inr (5, [.ref u5])), (u5, .inl (dA 0, 30, .inl (fun _ => 0))), (q7, .inr (5, [.ref u8])), (u8, .inl (dA 0, 1200, .inl (fun _ => 0))), (q10, .inr (5, [.ref u11])), (u11, .inl (dA 0, 30, .inl (fun _ => 0))), (q13, .inr (5, [.ref u14])), (u14, .inl (dA 0, 30, .inl (fun _ => 0))), (q16, .inr (5, [.ref u17])), (u17, .inl (dA 0, 12, .inl (fun _ => 0)))] := hD
  refine W.widen (k := 12) (n := 1348) (Nat.le_of_ble_eq_true rfl) (Nat.le_of_ble_eq_true rfl) ?_
  have hP9 := hP.sub (ws' := [(h, .inr (6, [.ref q1, .ref q4, .ref q7, .ref q10, .ref q13, .ref q16, .int 0, .int 0])), (q1, .inr (5, [.ref u2])), (u2, .inl (dA 0, 40, .inl (fun _ => 0))), (q4, .inr (5, [.ref u5])), (u5, .inl (dA 0, 30, .inl (fun _ => 0))), (q7, .inr (5, [.ref u8])), (u8, .inl (dA 0, 1200, .inl (fun _ => 0))), (q10, .inr (5, [.ref u11])), (u11, .inl (dA 0, 30, .inl (fun _ => 0))), (q13, .inr (5, [.ref u14])), (u14, .inl (dA 0, 30, .inl (fun _ => 0))), (q16, .inr (5, [.ref u17])), (u17, .inl (dA 0, 12, .inl (fun _ => 0)))]) [0, 1, 2, 3, 4, 5, 6, 7, 8, 9, 10, 11, 12] rfl
  have hD9 := hD.sub (ws' := [(h, .inr (6, [.ref q1, .ref q4, .ref q7, .ref q10, .ref q13, .ref q16, .int 0, .int 0])), (q1, .inr (5, [.ref u2])), (u2, .inl (dA 0, 40, .inl (fun _ => 0))), (q4, .inr (5, [.ref u5])), (u5, .inl (dA 0, 30, .inl (fun _ => 0))), (q7, .inr (5, [.ref u8])), (u8, .inl (dA 0, 1200, .inl (fun _ => 0))), (q10, .inr (5, [.ref u11])), (u11, .inl (dA 0, 30, .inl (fun _ => 0))), (q13, .inr (5, [.ref u14])), (u14, .inl (dA 0, 30, .inl (fun _ => 0))), (q16, .inr (5, [.ref u17])), (u17, .inl (dA 0, 12, .inl (fun _ => 0)))]) [0, 1, 2, 3, 4, 5, 6, 7, 8, 9, 10, 11, 12] (by decide) rfl
  exact W.vret hx hb hr (fun t ht hW => ⟨⟨(fun k => ([h, q1, u2, q4, u5, q7, u8, q10, u11, q13, u14, q16, u17] : List Nat).getD k 0), rfl, rfl, ⟨by rw [ht]; exact hP9, hD9⟩⟩, hS.F ht⟩) hS.2.2 dX3_init_83
