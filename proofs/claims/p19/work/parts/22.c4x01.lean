/-! CONTRACTS, general -/
set_option maxHeartbeats 4000000 in
set_option maxRecDepth 100000 in
theorem i_Text (l : Launch) (D : va_G) (dA : Nat → ClassId) (E : Nat) (h : Nat) (sz : Nat)   : Met l yX6_init (wq (.code yX6_init cX6_init 1 none)) { frames := 2, cells := 6, slots := 255, locals := 33 } (va_Pc [.ref h] (PcB D dA E [(h, .inr (9, [.null, .null, .null, .int 0]))] sz)) (va_Qv (fun (u : Nat → Nat) => u 0 = h) (fun u t => va_P D vwCl [(u 0, .inr (9, [.ref (u 1), .ref (u 3), .ref (u 5), .int 0])), (u 1, .inr (5, [.ref (u 2)])), (u 2, .inl (dA 0, 84, .inl (fun _ => 0))), (u 3, .inr (5, [.ref (u 4)])), (u 4, .inl (dA 0, 84, .inl (fun _ => 0))), (u 5, .inr (5, [.ref (u 6)])), (u 6, .inl (dA 0, 84, .inl (fun _ => 0)))] t.heap ∧ va_D (va_A [(h, .inr (9, [.null, .null, .null, .int 0]))] sz) [(u 0, .inr (9, [.ref (u 1), .ref (u 3), .ref (u 5), .int 0])), (u 1, .inr (5, [.ref (u 2)])), (u 2, .inl (dA 0, 84, .inl (fun _ => 0))), (u 3, .inr (5, [.ref (u 4)])), (u 4, .inl (dA 0, 84, .inl (fun _ => 0))), (u 5, .inr (5, [.ref (u 6)])), (u 6, .inl (dA 0, 84, .inl (fun _ => 0)))]) (va_A [(h, .inr (9, [.null, .null, .null, .int 0]))] sz)) 6 255 (va_A [(h, .inr (9, [.null, .null, .null, .int 0]))] sz) := by
  refine mb_of (Qc := fun A => va_Qv (fun (u : Nat → Nat) => u 0 = h) (fun u t => va_P D vwCl [(u 0, .inr (9, [.ref (u 1), .ref (u 3), .ref (u 5), .int 0])), (u 1, .inr (5, [.ref (u 2)])), (u 2, .inl (dA 0, 84, .inl (fun _ => 0))), (u 3, .inr (5, [.ref (u 4)])), (u 4, .inl (dA 0, 84, .inl (fun _ => 0))), (u 5, .inr (5, [.ref (u 6)])), (u 6, .inl (dA 0, 84, .inl (fun _ => 0)))] t.heap ∧ va_D A [(u 0, .inr (9, [.ref (u 1), .ref (u 3), .ref (u 5), .int 0])), (u 1, .inr (5, [.ref (u 2)])), (u 2, .inl (dA 0, 84, .inl (fun _ => 0))), (u 3, .inr (5, [.ref (u 4)])), (u 4, .inl (dA 0, 84, .inl (fun _ => 0))), (u 5, .inr (5, [.ref (u 6)])), (u 6, .inl (dA 0, 84, .inl (fun _ => 0)))]) A) RX6 rfl (by decide) (Nat.le_of_ble_eq_true rfl) ?_
  intro p e s m args below meth c hae hx hb hr hts hown hlocks hml hnm hP hK A hAe hD hZ hS hA ls hl
  replace hl : lv_has ls 1 [(0, .ref h)] := hl
  refine lv_aload_n hx hb dX6_init_0 rfl (lv_at hl 0 rfl) ?_
  refine W.objInit hx hb hown (hts _ q278) (hts _ q263) (hts _ q264) rfl (by rw [hml]; exact hl.1) rfl dX6_init_1 (Nat.le_of_ble_eq_true rfl) (Nat.le_of_ble_eq_true rfl) ?_
  refine W.eq (g2 := F0 m 4 ls []) rfl ?_
  refine lv_aload_n hx hb dX6_init_4 rfl (lv_at hl 0 rfl) ?_
  refine va_new (ci := 5) (fs := [.null]) (C := RX2) (T := TX2) (N := 1) hx hb hts inAX2 tyX2 tyX2_ok hown (hts _ q279) (hts _ q280) (hts _ q204) hK hP hD hS hA rfl fsNX2 (Nat.le_of_ble_eq_true rfl) (Nat.le_of_ble_eq_true rfl) dX6_init_5 (fun q1 H hP hD hS => ?_)
  replace hP : va_P D vwCl [(h, .inr (9, [.null, .null, .null, .int 0])), (q1, .inr (5, [.null]))] H := hP
  replace hD : va_D A [(h, .inr (9, [.null, .null, .null, .int 0])), (q1, .inr (5, [.null]))] := hD
  refine W.widen (k := 1) (n := 1) (Nat.le_of_ble_eq_true rfl) (Nat.le_of_ble_eq_true rfl) ?_
  refine lv_dup hx hb dX6_init_8 rfl ?_
  refine lv_bipush (v := 84) hx hb dX6_init_9 (by decide) ?_
  replace hPc := hP.sub (ws' := [(q1, .inr (5, [.null]))]) [1] rfl
  replace hDc := hD.sub (ws' := [(q1, .inr (5, [.null]))]) [1] (by decide) rfl
  replace hFc := va_free (wc := [(q1, .inr (5, [.null]))]) hD hS hA [1] rfl
  refine va_callv (va_runI (As := [.int 84]) (rest := [.ref q1, .ref h]) ⟨hx, hb, hml, hown, hts⟩ (i_Row_84 l D dA E q1 H.size ) (cwI 1 hts (ga_I q281) rfl rfl rfl (hts _ q204) (hts _ q282) (hts _ q283) rfl (by decide +kernel) ⟨(Nat.le_of_ble_eq_true rfl), (Nat.le_of_ble_eq_true rfl)⟩) ⟨pb_blind, pb_pre hK hPc hDc hZ hS hFc _⟩ rfl rfl hl.1 rfl (lv_room (Nat.le_of_ble_eq_true rfl)) dX6_init_11 ⟨(Nat.le_of_ble_eq_true rfl), (Nat.le_of_ble_eq_true rfl)⟩) hS (fun q _ h => hFc q h) hFc (fun u t H1 locs ht hvm hw hB hz1 hk1 hS => ?_)
  refine W.widen (k := 2) (n := 85) (Nat.le_of_ble_eq_true rfl) (Nat.le_of_ble_eq_true rfl) ?_
  obtain ⟨u2, rfl⟩ : ∃ z, z = u := ⟨_, rfl⟩
  have hw3 := hw
  clear hw
  obtain ⟨hP1, hD1⟩ := hB
  rw [ht] at hP1
  obtain ⟨hP, hD⟩ := va_join (wr := [(h, .inr (9, [.null, .null, .null, .int 0]))]) (w1 := [(q1, .inr (5, [.ref u2])), (u2, .inl (dA 0, 84, .inl (fun _ => 0)))]) hP hD [1] [0] rfl rfl (by decide) (by decide) hk1 hFc hP1 hD1
  generalize H1 = H at hP hS ⊢
  replace hP : va_P D vwCl [(h, .inr (9, [.null, .null, .null, .int 0])), (q1, .inr (5, [.ref u2])), (u2, .inl (dA 0, 84, .inl (fun _ => 0)))] H := hP
  replace hD : va_D A [(h, .inr (9, [.null, .null, .null, .int 0])), (q1, .inr (5, [.ref u2])), (u2, .inl (dA 0, 84, .inl (fun _ => 0)))] := hD
  refine va_putF (D := D) (ci := 9) (v := .ref q1) (ty := .object "TallowIndex$Row") (C := RX6) (T := TX6) (N := 4) hx hb hts inAX6 tyX6 tyX6_ok nmX6 hown hK hP hD hS 0 rfl rfl 0 (by decide) (hts _ q206) (fun _ h9 => h9) rfl hnm rfl (tyX6_ok 0 (by decide)) rfl rfl (Nat.le_of_ble_eq_true rfl) dX6_init_14 (fun H locs hP hD hS => ?_)
  replace hP : va_P D vwCl [(h, .inr (9, [.ref q1, .null, .null, .int 0])), (q1, .inr (5, [.ref u2])), (u2, .inl (dA 0, 84, .inl (fun _ => 0)))] H := hP
  replace hD : va_D A [(h, .inr (9, [.ref q1, .null, .null, .int 0])), (q1, .inr (5, [.ref u2])), (u2, .inl (dA 0, 84, .inl (fun _ => 0)))] := hD
  refine lv_aload_n hx hb dX6_init_17 rfl (lv_at hl 0 rfl) ?_
  refine va_new (ci := 5) (fs := [.null]) (C := RX2) (T := TX2) (N := 1) hx hb hts inAX2 tyX2 tyX2_ok hown (hts _ q279) (hts _ q280) (hts _ q204) hK hP hD hS hA rfl fsNX2 (Nat.le_of_ble_eq_true rfl) (Nat.le_of_ble_eq_true rfl) dX6_init_18 (fun q4 H hP hD hS => ?_)
  replace hP : va_P D vwCl [(h, .inr (9, [.ref q1, .null, .null, .int 0])), (q1, .inr (5, [.ref u2])), (u2, .inl (dA 0, 84, .inl (fun _ => 0))), (q4, .inr (5, [.null]))] H := hP
  replace hD : va_D A [(h, .inr (9, [.ref q1, .null, .null, .int 0])), (q1, .inr (5, [.ref u2])), (u2, .inl (dA 0, 84, .inl (fun _ => 0))), (q4, .inr (5, [.null]))] := hD
  refine W.widen (k := 3) (n := 86) (Nat.le_of_ble_eq_true rfl) (Nat.le_of_ble_eq_true rfl) ?_
  refine lv_dup hx hb dX6_init_21 rfl ?_
  refine lv_bipush (v := 84) hx hb dX6_init_22 (by decide) ?_
  replace hPc := hP.sub (ws' := [(q4, .inr (5, [.null]))]) [3] rfl
  replace hDc := hD.sub (ws' := [(q4, .inr (5, [.null]))]) [3] (by decide) rfl
  replace hFc := va_free (wc := [(q4, .inr (5, [.null]))]) hD hS hA [3] rfl
  refine va_callv (va_runI (As := [.int 84]) (rest := [.ref q4, .ref h]) ⟨hx, hb, hml, hown, hts⟩ (i_Row_84 l D dA E q4 H.size ) (cwI 1 hts (ga_I q281) rfl rfl rfl (hts _ q204) (hts _ q282) (hts _ q283) rfl (by decide +kernel) ⟨(Nat.le_of_ble_eq_true rfl), (Nat.le_of_ble_eq_true rfl)⟩) ⟨pb_blind, pb_pre hK hPc hDc hZ hS hFc _⟩ rfl rfl hl.1 rfl (lv_room (Nat.le_of_ble_eq_true rfl)) dX6_init_24 ⟨(Nat.le_of_ble_eq_true rfl), (Nat.le_of_ble_eq_true rfl)⟩) hS (fun q _ h => hFc q h) hFc (fun u t H1 locs ht hvm hw hB hz1 hk1 hS => ?_)
  refine W.widen (k := 4) (n := 170) (Nat.le_of_ble_eq_true rfl) (Nat.le_of_ble_eq_true rfl) ?_
  obtain ⟨u5, rfl⟩ : ∃ z, z = u := ⟨_, rfl⟩
  have hw6 := hw
  clear hw
  obtain ⟨hP1, hD1⟩ := hB
  rw [ht] at hP1
  obtain ⟨hP, hD⟩ := va_join (wr := [(h, .inr (9, [.ref q1, .null, .null, .int 0])), (q1, .inr (5, [.ref u2])), (u2, .inl (dA 0, 84, .inl (fun _ => 0)))]) (w1 := [(q4, .inr (5, [.ref u5])), (u5, .inl (dA 0, 84, .inl (fun _ => 0)))]) hP hD [3] [0, 1, 2] rfl rfl (by decide) (by decide) hk1 hFc hP1 hD1
  generalize H1 = H at hP hS ⊢
  replace hP : va_P D vwCl [(h, .inr (9, [.ref q1, .null, .null, .int 0])), (q1, .inr (5, [.ref u2])), (u2, .inl (dA 0, 84, .inl (fun _ => 0))), (q4, .inr (5, [.ref u5])), (u5, .inl (dA 0, 84, .inl (fun _ => 0)))] H := hP
  replace hD : va_D A [(h, .inr (9, [.ref q1, .null, .null, .int 0])), (q1, .inr (5, [.ref u2])), (u2, .inl (dA 0, 84, .inl (fun _ => 0))), (q4, .inr (5, [.ref u5])), (u5, .inl (dA 0, 84, .inl (fun _ => 0)))] := hD
  refine va_putF (D := D) (ci := 9) (v := .ref q4) (ty := .object "TallowIndex$Row") (C := RX6) (T := TX6) (N := 4) hx hb hts inAX6 tyX6 tyX6_ok nmX6 hown hK hP hD hS 0 rfl rfl 1 (by decide) (hts _ q211) (fun _ h9 => h9) rfl hnm rfl (tyX6_ok 1 (by decide)) rfl rfl (Nat.le_of_ble_eq_true rfl) dX6_init_27 (fun H locs hP hD hS => ?_)
  replace hP : va_P D vwCl [(h, .inr (9, [.ref q1, .ref q4, .null, .int 0])), (q1, .inr (5, [.ref u2])), (u2, .inl (dA 0, 84, .inl (fun _ => 0))), (q4, .inr (5, [.ref u5])), (u5, .inl (dA 0, 84, .inl (fun _ => 0)))] H := hP
  replace hD : va_D A [(h, .inr (9, [.ref q1, .ref q4, .null, .int 0])), (q1, .inr (5, [.ref u2])), (u2, .inl (dA 0, 84, .inl (fun _ => 0))), (q4, .inr (5, [.ref u5])), (u5, .inl (dA 0, 84, .inl (fun _ => 0)))] := hD
  refine lv_aload_n hx hb dX6_init_30 rfl (lv_at hl 0 rfl) ?_
  refine va_new (ci := 5) (fs := [.null]) (C := RX2) (T := TX2) (N := 1) hx hb hts inAX2 tyX2 tyX2_ok hown (hts _ q279) (hts _ q280) (hts _ q204) hK hP hD hS hA rfl fsNX2 (Nat.le_of_ble_eq_true rfl) (Nat.le_of_ble_eq_true rfl) dX6_init_31 (fun q7 H hP hD hS => ?_)
  replace hP : va_P D vwCl [(h, .inr (9, [.ref q1, .ref q4, .null, .int 0])), (q1, .inr (5, [.ref u2])), (u2, .inl (dA 0, 84, .inl (fun _ => 0))), (q4, .inr (5, [.ref u5])), (u5, .inl (dA 0, 84, .inl (fun _ => 0))), (q7, .inr (5, [.null]))] H := hP
  replace hD : va_D A [(h, .inr (9, [.ref q1, .ref q4, .null, .int 0])), (q1, .inr (5, [.ref u2])), (u2, .inl (dA 0, 84, .inl (fun _ => 0))), (q4, .inr (5, [.ref u5])), (u5, .inl (dA 0, 84, .inl (fun _ => 0))), (q7, .inr (5, [.null]))] := hD
  refine W.widen (k := 5) (n := 171) (Nat.le_of_ble_eq_true rfl) (Nat.le_of_ble_eq_true rfl) ?_
  refine lv_dup hx hb dX6_init_34 rfl ?_
  refine lv_bipush (v := 84) hx hb dX6_init_35 (by decide) ?_
  replace hPc := hP.sub (ws' := [(q7, .inr (5, [.null]))]) [5] rfl
  replace hDc := hD.sub (ws' := [(q7, .inr (5, [.null]))]) [5] (by decide) rfl
  replace hFc := va_free (wc := [(q7, .inr (5, [.null]))]) hD hS hA [5] rfl
  refine va_callv (va_runI (As := [.int 84]) (rest := [.ref q7, .ref h]) ⟨hx, hb, hml, hown, hts⟩ (i_Row_84 l D dA E q7 H.size ) (cwI 1 hts (ga_I q281) rfl rfl rfl (hts _ q204) (hts _ q282) (hts _ q283) rfl (by decide +kernel) ⟨(Nat.le_of_ble_eq_true rfl), (Nat.le_of_ble_eq_true rfl)⟩) ⟨pb_blind, pb_pre hK hPc hDc hZ hS hFc _⟩ rfl rfl hl.1 rfl (lv_room (Nat.le_of_ble_eq_true rfl)) dX6_init_37 ⟨(Nat.le_of_ble_eq_true rfl), (Nat.le_of_ble_eq_true rfl)⟩) hS (fun q _ h => hFc q h) hFc (fun u t H1 locs ht hvm hw hB hz1 hk1 hS => ?_)
  refine W.widen (k := 6) (n := 255) (Nat.le_of_ble_eq_true rfl) (Nat.le_of_ble_eq_true rfl) ?_
  obtain ⟨u8, rfl⟩ : ∃ z, z = u := ⟨_, rfl⟩
  have hw9 := hw
  clear hw
  obtain ⟨hP1, hD1⟩ := hB
  rw [ht] at hP1
  obtain ⟨hP, hD⟩ := va_join (wr := [(h, .inr (9, [.ref q1, .ref q4, .null, .int 0])), (q1, .inr (5, [.ref u2])), (u2, .inl (dA 0, 84, .inl (fun _ => 0))), (q4, .inr (5, [.ref u5])), (u5, .inl (dA 0, 84, .inl (fun _ => 0)))]) (w1 := [(q7, .inr (5, [.ref u8])), (u8, .inl (dA 0, 84, .inl (fun _ => 0)))]) hP hD [5] [0, 1, 2, 3, 4] rfl rfl (by decide) (by decide) hk1 hFc hP1 hD1
  generalize H1 = H at hP hS ⊢
  replace hP : va_P D vwCl [(h, .inr (9, [.ref q1, .ref q4, .null, .int 0])), (q1, .inr (5, [.ref u2])), (u2, .inl (dA 0, 84, .inl (fun _ => 0))), (q4, .inr (5, [.ref u5])), (u5, .inl (dA 0, 84, .inl (fun _ => 0))), (q7, .inr (5, [.ref u8])), (u8, .inl (dA 0, 84, .inl (fun _ => 0)))] H := hP
  replace hD : va_D A [(h, .inr (9, [.ref q1, .ref q4, .null, .int 0])), (q1, .inr (5, [.ref u2])), (u2, .inl (dA 0, 84, .inl (fun _ => 0))), (q4, .inr (5, [.ref u5])), (u5, .inl (dA 0, 84, .inl (fun _ => 0))), (q7, .inr (5, [.ref u8])), (u8, .inl (dA 0, 84, .inl (fun _ => 0)))] := hD
  refine va_putF (D := D) (ci := 9) (v := .ref q7) (ty := .object "TallowIndex$Row") (C := RX6) (T := TX6) (N := 4) hx hb hts inAX6 tyX6 tyX6_ok nmX6 hown hK hP hD hS 0 rfl rfl 2 (by decide) (hts _ q212) (fun _ h9 => h9) rfl hnm rfl (tyX6_ok 2 (by decide)) rfl rfl (Nat.le_of_ble_eq_true rfl) dX6_init_40 (fun H locs hP hD hS => ?_)
  replace hP : va_P D vwCl [(h, .inr (9, [.ref q1, .ref q4, .ref q7, .int 0])), (q1, .inr (5, [.ref u2])), (u2, .inl (dA 0, 84, .inl (fun _ => 0))), (q4, .inr (5, [.ref u5])), (u5, .inl (dA 0, 84, .inl (fun _ => 0))), (q7, .inr (5, [.ref u8])), (u8, .inl (dA 0, 84, .inl (fun _ => 0)))] H := hP
  replace hD : va_D A [(h, .inr (9, [.ref q1, .ref q4, .ref q7, .int 0])), (q1, .inr (5, [.ref u2])), (u2, .inl (dA 0, 84, .inl (fun _ => 0))), (q4, .inr (5, [.ref u5])), (u5, .inl (dA 0, 84, .inl (fun _ => 0))), (q7, .inr (5, [.ref u8])), (u8, .inl (dA 0, 84, .inl (fun _ => 0)))] := hD
  refine W.widen (k := 6) (n := 255) (Nat.le_of_ble_eq_true rfl) (Nat.le_of_ble_eq_true rfl) ?_
  have hP9 := hP.sub (ws' := [(h, .inr (9, [.ref q1, .ref q4, .ref q7, .int 0])), (q1, .inr (5, [.ref u2])), (u2, .inl (dA 0, 84, .inl (fun _ => 0))), (q4, .inr (5, [.ref u5])), (u5, .inl (dA 0, 84, .inl (fun _ => 0))), (q7, .inr (5, [.ref u8])), (u8, .inl (dA 0, 84, .inl (fun _ => 0)))]) [0, 1, 2, 3, 4, 5, 6] rfl
  have hD9 := hD.sub (ws' := [(h, .inr (9, [.ref q1, .ref q4, .ref q7, .int 0])), (q1, .inr (5, [.ref u2])), (u2, .inl (dA 0, 84, .inl (fun _ => 0))), (q4, .inr (5, [.ref u5])), (u5, .inl (dA 0, 84, .inl (fun _ => 0))), (q7, .inr (5, [.ref u8])), (u8, .inl (dA 0, 84, .inl (fun _ => 0)))]) [0, 1, 2, 3, 4, 5, 6] (by decide) rfl
  exact W.vret hx hb hr (fun t ht hW => ⟨⟨(fun k => ([h, q1, u2, q4, u5, q7, u8] : List Nat).getD k 0), rfl, rfl, ⟨by rw [ht]; exact hP9, hD9⟩⟩, hS.F ht⟩) hS.2.2 dX6_init_43

set_option maxHeartbeats 4000000 in
set_option maxRecDepth 100000 in
theorem i_Document (l : Launch) (D : va_G) (dA : Nat → ClassId) (E : Nat) (h : Nat) (p0 p1 : Int32) (sz : Nat)   : Met l yX0_init (wq (.code yX0_init cX0_init 3 none)) { frames := 3, cells := 7, slots := 259, locals := 53 } (va_Pc [.ref h, .int p0, .int p1] (PcB D dA E [(h, .inr (3, [.int 0, .int 0, .null, .int 0]))] sz)) (va_Qv (fun (u : Nat → Nat) => True) (fun u t => va_P D vwCl [(h, .inr (3, [.int p0, .int p1, .ref (u 0), .int 0])), (u 0, .inr (9, [.ref (u 1), .ref (u 3), .ref (u 5), .int 0])), (u 1, .inr (5, [.ref (u 2)])), (u 2, .inl (dA 0, 84, .inl (fun _ => 0))), (u 3, .inr (5, [.ref (u 4)])), (u 4, .inl (dA 0, 84, .inl (fun _ => 0))), (u 5, .inr (5, [.ref (u 6)])), (u 6, .inl (dA 0, 84, .inl (fun _ => 0)))] t.heap ∧ va_D (va_A [(h, .inr (3, [.int 0, .int 0, .null, .int 0]))] sz) [(h, .inr (3, [.int p0, .int p1, .ref (u 0), .int 0])), (u 0, .inr (9, [.ref (u 1), .ref (u 3), .ref (u 5), .int 0])), (u 1, .inr (5, [.ref (u 2)])), (u 2, .inl (dA 0, 84, .inl (fun _ => 0))), (u 3, .inr (5, [.ref (u 4)])), (u 4, .inl (dA 0, 84, .inl (fun _ => 0))), (u 5, .inr (5, [.ref (u 6)])), (u 6, .inl (dA 0, 84, .inl (fun _ => 0)))]) (va_A [(h, .inr (3, [.int 0, .int 0, .null, .int 0]))] sz)) 7 259 (va_A [(h, .inr (3, [.int 0, .int 0, .null, .int 0]))] sz) := by
  refine mb_of (Qc := fun A => va_Qv (fun (u : Nat → Nat) => True) (fun u t => va_P D vwCl [(h, .inr (3, [.int p0, .int p1, .ref (u 0), .int 0])), (u 0, .inr (9, [.ref (u 1), .ref (u 3), .ref (u 5), .int 0])), (u 1, .inr (5, [.ref (u 2)])), (u 2, .inl (dA 0, 84, .inl (fun _ => 0))), (u 3, .inr (5, [.ref (u 4)])), (u 4, .inl (dA 0, 84, .inl (fun _ => 0))), (u 5, .inr (5, [.ref (u 6)])), (u 6, .inl (dA 0, 84, .inl (fun _ => 0)))] t.heap ∧ va_D A [(h, .inr (3, [.int p0, .int p1, .ref (u 0), .int 0])), (u 0, .inr (9, [.ref (u 1), .ref (u 3), .ref (u 5), .int 0])), (u 1, .inr (5, [.ref (u 2)])), (u 2, .inl (dA 0, 84, .inl (fun _ => 0))), (u 3, .inr (5, [.ref (u 4)])), (u 4, .inl (dA 0, 84, .inl (fun _ => 0))), (u 5, .inr (5, [.ref (u 6)])), (u 6, .inl (dA 0, 84, .inl (fun _ => 0)))]) A) RX0 rfl (by decide) (Nat.le_of_ble_eq_true rfl) ?_
  intro p e s m args below meth c hae hx hb hr hts hown hlocks hml hnm hP hK A hAe hD hZ hS hA ls hl
  replace hl : lv_has ls 3 [(0, .ref h), (1, .int p0), (2, .int p1)] := hl
  refine lv_aload_n hx hb dX0_init_0 rfl (lv_at hl 0 rfl) ?_
  refine W.objInit hx hb hown (hts _ q284) (hts _ q263) (hts _ q264) rfl (by rw [hml]; exact hl.1) rfl dX0_init_1 (Nat.le_of_ble_eq_true rfl) (Nat.le_of_ble_eq_true rfl) ?_
  refine W.eq (g2 := F0 m 4 ls []) rfl ?_
  refine lv_aload_n hx hb dX0_init_4 rfl (lv_at hl 0 rfl) ?_
  refine va_new (ci := 9) (fs := [.null, .null, .null, .int 0]) (C := RX6) (T := TX6) (N := 4) hx hb hts inAX6 tyX6 tyX6_ok hown (hts _ q285) (hts _ q286) (hts _ q218) hK hP hD hS hA rfl fsNX6 (Nat.le_of_ble_eq_true rfl) (Nat.le_of_ble_eq_true rfl) dX0_init_5 (fun q1 H hP hD hS => ?_)
  replace hP : va_P D vwCl [(h, .inr (3, [.int 0, .int 0, .null, .int 0])), (q1, .inr (9, [.null, .null, .null, .int 0]))] H := hP
  replace hD : va_D A [(h, .inr (3, [.int 0, .int 0, .null, .int 0])), (q1, .inr (9, [.null, .null, .null, .int 0]))] := hD
  refine W.widen (k := 1) (n := 4) (Nat.le_of_ble_eq_true rfl) (Nat.le_of_ble_eq_true rfl) ?_
  refine lv_dup hx hb dX0_init_8 rfl ?_
  replace hPc := hP.sub (ws' := [(q1, .inr (9, [.null, .null, .null, .int 0]))]) [1] rfl
  replace hDc := hD.sub (ws' := [(q1, .inr (9, [.null, .null, .null, .int 0]))]) [1] (by decide) rfl
  replace hFc := va_free (wc := [(q1, .inr (9, [.null, .null, .null, .int 0]))]) hD hS hA [1] rfl
  refine va_callv (va_runIN (As := []) (rest := [.ref q1, .ref h]) ⟨hx, hb, hml, hown, hts⟩ (i_Text l D dA E q1 H.size ) ⟨(va_cnB (host := "TallowIndex") 0 hts (ga_I q287) rfl rfl rfl (znM_3 hZ.1) (hts _ q218) (by decide +kernel) ⟨(Nat.le_of_ble_eq_true rfl), (Nat.le_of_ble_eq_true rfl)⟩), rfl, hts _ q288⟩ ⟨pb_blind, pb_pre hK hPc hDc hZ hS hFc _⟩ rfl rfl hl.1 rfl (lv_room (Nat.le_of_ble_eq_true rfl)) dX0_init_9 ⟨(Nat.le_of_ble_eq_true rfl), (Nat.le_of_ble_eq_true rfl)⟩) hS (fun q _ h => hFc q h) hFc (fun u t H1 locs ht hvm hw hB hz1 hk1 hS => ?_)
  refine W.widen (k := 7) (n := 259) (Nat.le_of_ble_eq_true rfl) (Nat.le_of_ble_eq_true rfl) ?_
  obtain ⟨u2, rfl⟩ : ∃ z, z = u := ⟨_, rfl⟩
  have hw3 := hw
  clear hw
  obtain ⟨hP1, hD1⟩ := hB
  rw [ht] at hP1
  obtain ⟨hP, hD⟩ := va_join (wr := [(h, .inr (3, [.int 0, .int 0, .null, .int 0]))]) (w1 := [(u2 0, .inr (9, [.ref (u2 1), .ref (u2 3), .ref (u2 5), .int 0])), (u2 1, .inr (5, [.ref (u2 2)])), (u2 2, .inl (dA 0, 84, .inl (fun _ => 0))), (u2 3, .inr (5, [.ref (u2 4)])), (u2 4, .inl (dA 0, 84, .inl (fun _ => 0))), (u2 5, .inr (5, [.ref (u2 6)])), (u2 6, .inl (dA 0, 84, .inl (fun _ => 0)))]) hP hD [1] [0] rfl rfl (by decide) (by decide) hk1 hFc hP1 hD1
  generalize H1 = H at hP hS ⊢
  replace hP : va_P D vwCl [(h, .inr (3, [.int 0, .int 0, .null, .int 0])), (u2 0, .inr (9, [.ref (u2 1), .ref (u2 3), .ref (u2 5), .int 0])), (u2 1, .inr (5, [.ref (u2 2)])), (u2 2, .inl (dA 0, 84, .inl (fun _ => 0))), (u2 3, .inr (5, [.ref (u2 4)])), (u2 4, .inl (dA 0, 84, .inl (fun _ => 0))), (u2 5, .inr (5, [.ref (u2 6)])), (u2 6, .inl (dA 0, 84, .inl (fun _ => 0)))] H := hP
  replace hD : va_D A [(h, .inr (3, [.int 0, .int 0, .null, .int 0])), (u2 0, .inr (9, [.ref (u2 1), .ref (u2 3), .ref (u2 5), .int 0])), (u2 1, .inr (5, [.ref (u2 2)])), (u2 2, .inl (dA 0, 84, .inl (fun _ => 0))), (u2 3, .inr (5, [.ref (u2 4)])), (u2 4, .inl (dA 0, 84, .inl (fun _ => 0))), (u2 5, .inr (5, [.ref (u2 6)])), (u2 6, .inl (dA 0, 84, .inl (fun _ => 0)))] := hD
  rw [hw3] at hP hD
  replace hP : va_P D vwCl [(h, .inr (3, [.int 0, .int 0, .null, .int 0])), (q1, .inr (9, [.ref (u2 1), .ref (u2 3), .ref (u2 5), .int 0])), (u2 1, .inr (5, [.ref (u2 2)])), (u2 2, .inl (dA 0, 84, .inl (fun _ => 0))), (u2 3, .inr (5, [.ref (u2 4)])), (u2 4, .inl (dA 0, 84, .inl (fun _ => 0))), (u2 5, .inr (5, [.ref (u2 6)])), (u2 6, .inl (dA 0, 84, .inl (fun _ => 0)))] H := hP
  replace hD : va_D A [(h, .inr (3, [.int 0, .int 0, .null, .int 0])), (q1, .inr (9, [.ref (u2 1), .ref (u2 3), .ref (u2 5), .int 0])), (u2 1, .inr (5, [.ref (u2 2)])), (u2 2, .inl (dA 0, 84, .inl (fun _ => 0))), (u2 3, .inr (5, [.ref (u2 4)])), (u2 4, .inl (dA 0, 84, .inl (fun _ => 0))), (u2 5, .inr (5, [.ref (u2 6)])), (u2 6, .inl (dA 0, 84, .inl (fun _ => 0)))] := hD
  clear hw3
  refine va_putF (D := D) (ci := 3) (v := .ref q1) (ty := .object "TallowIndex$Text") (C := RX0) (T := TX0) (N := 4) hx hb hts inAX0 tyX0 tyX0_ok nmX0 hown hK hP hD hS 0 rfl rfl 2 (by decide) (hts _ q289) (fun _ h9 => h9) rfl hnm rfl (tyX0_ok 2 (by decide)) rfl rfl (Nat.le_of_ble_eq_true rfl) dX0_init_12 (fun H locs hP hD hS => ?_)
  replace hP : va_P D vwCl [(h, .inr (3, [.int 0, .int 0, .ref q1, .int 0])), (q1, .inr (9, [.ref (u2 1), .ref (u2 3), .ref (u2 5), .int 0])), (u2 1, .inr (5, [.ref (u2 2)])), (u2 2, .inl (dA 0, 84, .inl (fun _ => 0))), (u2 3, .inr (5, [.ref (u2 4)])), (u2 4, .inl (dA 0, 84, .inl (fun _ => 0))), (u2 5, .inr (5, [.ref (u2 6)])), (u2 6, .inl (dA 0, 84, .inl (fun _ => 0)))] H := hP
  replace hD : va_D A [(h, .inr (3, [.int 0, .int 0, .ref q1, .int 0])), (q1, .inr (9, [.ref (u2 1), .ref (u2 3), .ref (u2 5), .int 0])), (u2 1, .inr (5, [.ref (u2 2)])), (u2 2, .inl (dA 0, 84, .inl (fun _ => 0))), (u2 3, .inr (5, [.ref (u2 4)])), (u2 4, .inl (dA 0, 84, .inl (fun _ => 0))), (u2 5, .inr (5, [.ref (u2 6)])), (u2 6, .inl (dA 0, 84, .inl (fun _ => 0)))] := hD
  refine lv_aload_n hx hb dX0_init_15 rfl (lv_at hl 0 rfl) ?_
  refine lv_iload_n hx hb dX0_init_16 rfl (lv_at hl 1 rfl) ?_
  refine va_putF (D := D) (ci := 3) (v := .int p0) (ty := .int) (C := RX0) (T := TX0) (N := 4) hx hb hts inAX0 tyX0 tyX0_ok nmX0 hown hK hP hD hS 0 rfl rfl 0 (by decide) (hts _ q290) (fun _ h9 => h9) rfl hnm rfl (tyX0_ok 0 (by decide)) rfl rfl (Nat.le_of_ble_eq_true rfl) dX0_init_17 (fun H locs hP hD hS => ?_)
  replace hP : va_P D vwCl [(h, .inr (3, [.int p0, .int 0, .ref q1, .int 0])), (q1, .inr (9, [.ref (u2 1), .ref (u2 3), .ref (u2 5), .int 0])), (u2 1, .inr (5, [.ref (u2 2)])), (u2 2, .inl (dA 0, 84, .inl (fun _ => 0))), (u2 3, .inr (5, [.ref (u2 4)])), (u2 4, .inl (dA 0, 84, .inl (fun _ => 0))), (u2 5, .inr (5, [.ref (u2 6)])), (u2 6, .inl (dA 0, 84, .inl (fun _ => 0)))] H := hP
  replace hD : va_D A [(h, .inr (3, [.int p0, .int 0, .ref q1, .int 0])), (q1, .inr (9, [.ref (u2 1), .ref (u2 3), .ref (u2 5), .int 0])), (u2 1, .inr (5, [.ref (u2 2)])), (u2 2, .inl (dA 0, 84, .inl (fun _ => 0))), (u2 3, .inr (5, [.ref (u2 4)])), (u2 4, .inl (dA 0, 84, .inl (fun _ => 0))), (u2 5, .inr (5, [.ref (u2 6)])), (u2 6, .inl (dA 0, 84, .inl (fun _ => 0)))] := hD
  refine lv_aload_n hx hb dX0_init_20 rfl (lv_at hl 0 rfl) ?_
  refine lv_iload_n hx hb dX0_init_21 rfl (lv_at hl 2 rfl) ?_
  refine va_putF (D := D) (ci := 3) (v := .int p1) (ty := .int) (C := RX0) (T := TX0) (N := 4) hx hb hts inAX0 tyX0 tyX0_ok nmX0 hown hK hP hD hS 0 rfl rfl 1 (by decide) (hts _ q291) (fun _ h9 => h9) rfl hnm rfl (tyX0_ok 1 (by decide)) rfl rfl (Nat.le_of_ble_eq_true rfl) dX0_init_22 (fun H locs hP hD hS => ?_)
  replace hP : va_P D vwCl [(h, .inr (3, [.int p0, .int p1, .ref q1, .int 0])), (q1, .inr (9, [.ref (u2 1), .ref (u2 3), .ref (u2 5), .int 0])), (u2 1, .inr (5, [.ref (u2 2)])), (u2 2, .inl (dA 0, 84, .inl (fun _ => 0))), (u2 3, .inr (5, [.ref (u2 4)])), (u2 4, .inl (dA 0, 84, .inl (fun _ => 0))), (u2 5, .inr (5, [.ref (u2 6)])), (u2 6, .inl (dA 0, 84, .inl (fun _ => 0)))] H := hP
  replace hD : va_D A [(h, .inr (3, [.int p0, .int p1, .ref q1, .int 0])), (q1, .inr (9, [.ref (u2 1), .ref (u2 3), .ref (u2 5), .int 0])), (u2 1, .inr (5, [.ref (u2 2)])), (u2 2, .inl (dA 0, 84, .inl (fun _ => 0))), (u2 3, .inr (5, [.ref (u2 4)])), (u2 4, .inl (dA 0, 84, .inl (fun _ => 0))), (u2 5, .inr (5, [.ref (u2 6)])), (u2 6, .inl (dA 0, 84, .inl (fun _ => 0)))] := hD
  refine W.widen (k := 7) (n := 259) (Nat.le_of_ble_eq_true rfl) (Nat.le_of_ble_eq_true rfl) ?_
  have hP9 := hP.sub (ws' := [(h, .inr (3, [.int p0, .int p1, .ref q1, .int 0])), (q1, .inr (9, [.ref (u2 1), .ref (u2 3), .ref (u2 5), .int 0])), (u2 1, .inr (5, [.ref (u2 2)])), (u2 2, .inl (dA 0, 84, .inl (fun _ => 0))), (u2 3, .inr (5, [.ref (u2 4)])), (u2 4, .inl (dA 0, 84, .inl (fun _ => 0))), (u2 5, .inr (5, [.ref (u2 6)])), (u2 6, .inl (dA 0, 84, .inl (fun _ => 0)))]) [0, 1, 2, 3, 4, 5, 6, 7] rfl
  have hD9 := hD.sub (ws' := [(h, .inr (3, [.int p0, .int p1, .ref q1, .int 0])), (q1, .inr (9, [.ref (u2 1), .ref (u2 3), .ref (u2 5), .int 0])), (u2 1, .inr (5, [.ref (u2 2)])), (u2 2, .inl (dA 0, 84, .inl (fun _ => 0))), (u2 3, .inr (5, [.ref (u2 4)])), (u2 4, .inl (dA 0, 84, .inl (fun _ => 0))), (u2 5, .inr (5, [.ref (u2 6)])), (u2 6, .inl (dA 0, 84, .inl (fun _ => 0)))]) [0, 1, 2, 3, 4, 5, 6, 7] (by decide) rfl
  exact W.vret hx hb hr (fun t ht hW => ⟨⟨(fun k => ([q1, u2 1, u2 2, u2 3, u2 4, u2 5, u2 6] : List Nat).getD k 0), rfl, trivial, ⟨by rw [ht]; exact hP9, hD9⟩⟩, hS.F ht⟩) hS.2.2 dX0_init_25
