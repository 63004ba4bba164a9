/-! CONTRACTS, general -/
set_option maxHeartbeats 4000000 in
set_option maxRecDepth 100000 in
theorem l_copy2_4_15 (l : Launch) (D : va_G) (dA : Nat → ClassId) (E : Nat) (ar : Nat) (f : Nat → Option Nat) (TT : va_W) (ea : Nat → Nat) (fs : Nat → List Value) (sz : Nat) (hf : ∀ i, i < 15 → f i = some (ea i)) (hTE : ∀ i, i < 15 → ((ea i, .inr (4, fs i)) : Nat × va_E) ∈ TT)  : Met l yJ7_copyOf_1904c (wq (.code yJ7_copyOf_1904c cJ7_copyOf_1904c 2 (some (.array (.object "java/lang/Object"))))) { frames := 2, cells := 1, slots := 22, locals := 53 } (va_Pc [.ref ar, .int 22] (PcB D dA E (HAppend.hAppend (α := va_W) (β := va_W) (γ := va_W) [(ar, .inl (dA 5, 15, .inr (.inr (.inr (.inr f)))))] TT) sz)) (va_Qr (fun (u : Unit) => True) (fun u ra t => va_P D vwCl (HAppend.hAppend (α := va_W) (β := va_W) (γ := va_W) [(ra, .inl (dA 5, 22, .inr (.inr (.inr (.inr (va_cpy f (fun _ => none) 0 0 15))))))] TT) t.heap ∧ va_D (va_A (HAppend.hAppend (α := va_W) (β := va_W) (γ := va_W) [(ar, .inl (dA 5, 15, .inr (.inr (.inr (.inr f)))))] TT) sz) (HAppend.hAppend (α := va_W) (β := va_W) (γ := va_W) [(ra, .inl (dA 5, 22, .inr (.inr (.inr (.inr (va_cpy f (fun _ => none) 0 0 15))))))] TT)) (va_A (HAppend.hAppend (α := va_W) (β := va_W) (γ := va_W) [(ar, .inl (dA 5, 15, .inr (.inr (.inr (.inr f)))))] TT) sz)) 1 22 (va_A (HAppend.hAppend (α := va_W) (β := va_W) (γ := va_W) [(ar, .inl (dA 5, 15, .inr (.inr (.inr (.inr f)))))] TT) sz) := by
  refine mb_of (y := yJ7_copyOf_1904c) (av := [.ref ar, .int 22]) (maxL := 2) (Qc := fun A => va_Qr (fun (u : Unit) => True) (fun u ra t => va_P D vwCl (HAppend.hAppend (α := va_W) (β := va_W) (γ := va_W) [(ra, .inl (dA 5, 22, .inr (.inr (.inr (.inr (va_cpy f (fun _ => none) 0 0 15))))))] TT) t.heap ∧ va_D A (HAppend.hAppend (α := va_W) (β := va_W) (γ := va_W) [(ra, .inl (dA 5, 22, .inr (.inr (.inr (.inr (va_cpy f (fun _ => none) 0 0 15))))))] TT)) A) RJ7 rfl (by decide) (Nat.le_of_ble_eq_true rfl) ?_
  intro p e s m args below meth c hae hx hb hr hts hown hlocks hml hnm hP hK A hAe hD hZ hS hA ls hl
  replace hl : lv_has ls 2 [(0, .ref ar), (1, .int 22)] := hl
  refine lv_aload_n hx hb dJ7_copyOf_1904c_0 rfl (lv_at hl 0 rfl) ?_
  refine lv_iload_n hx hb dJ7_copyOf_1904c_1 rfl (lv_at hl 1 rfl) ?_
  refine lv_aload_n hx hb dJ7_copyOf_1904c_2 rfl (lv_at hl 0 rfl) ?_
  refine va_getC (C := "[Ljava/lang/Object;") hx hb (hml.trans hl.1.symm) hown (hts _ q383) (va_Nw.use rfl (znD_8 hZ.1)) (hts _ q384) (hts _ q385) (hts _ q386) hZ.2.2.2.2.2 (ar_recv hK hP (q0 := 0) rfl) (Nat.le_of_ble_eq_true rfl) (Nat.le_of_ble_eq_true rfl) dJ7_copyOf_1904c_3 ?_
  replace hPc := va_P.part (X := [(ar, .inl (dA 5, 15, .inr (.inr (.inr (.inr f)))))]) (cx := [(ar, .inl (dA 5, 15, .inr (.inr (.inr (.inr f)))))]) (pl := TT) hP [0] rfl
  replace hDc := va_D.part (X := [(ar, .inl (dA 5, 15, .inr (.inr (.inr (.inr f)))))]) (cx := [(ar, .inl (dA 5, 15, .inr (.inr (.inr (.inr f)))))]) (pl := TT) hD [0] (by decide) rfl
  replace hFc := va_freeP (X := [(ar, .inl (dA 5, 15, .inr (.inr (.inr (.inr f)))))]) (cx := [(ar, .inl (dA 5, 15, .inr (.inr (.inr (.inr f)))))]) (pl := TT) hD hS hA [0] rfl
  refine va_callr (va_runS (As := [.ref ar, .int 22, .ref (dA 6)]) (rest := []) ⟨hx, hb, hml, hown, hts⟩ (l_copy3_4_15 l D dA E ar f TT ea fs s.heap.size  hf hTE) (va_cwS 3 hts (ga_S q388 q389 q390 q387) rfl rfl rfl (by decide +kernel) ⟨(Nat.le_of_ble_eq_true rfl), (Nat.le_of_ble_eq_true rfl)⟩) ⟨pb_blind, pb_pre hK hPc hDc hZ hS hFc _⟩ rfl rfl hl.1 rfl (lv_room (Nat.le_of_ble_eq_true rfl)) dJ7_copyOf_1904c_6 ⟨(Nat.le_of_ble_eq_true rfl), (Nat.le_of_ble_eq_true rfl)⟩) hS (fun q _ h => hFc q h) hFc (fun u ra t H1 locs ht hvm hw hB hz1 hk1 hS => ?_)
  refine W.widen (k := 1) (n := 22) (Nat.le_of_ble_eq_true rfl) (Nat.le_of_ble_eq_true rfl) ?_
  obtain ⟨q1, rfl⟩ : ∃ z, z = ra := ⟨_, rfl⟩
  obtain ⟨u2, rfl⟩ : ∃ z, z = u := ⟨_, rfl⟩
  have hw3 := hw
  clear hw
  obtain ⟨hP1, hD1⟩ := hB
  rw [ht] at hP1
  obtain ⟨hP, hD⟩ := va_joinP (X := [(ar, .inl (dA 5, 15, .inr (.inr (.inr (.inr f)))))]) (cx := [(ar, .inl (dA 5, 15, .inr (.inr (.inr (.inr f)))))]) (wr := []) (rx := [(q1, .inl (dA 5, 22, .inr (.inr (.inr (.inr (va_cpy f (fun _ => none) 0 0 15))))))]) (pl := TT) (pl1 := TT) hP hD [0] [] rfl rfl (by decide) (by decide) hk1 hFc hP1 hD1
  generalize H1 = H at hP hS ⊢
  replace hP : va_P D vwCl (HAppend.hAppend (α := va_W) (β := va_W) (γ := va_W) [(q1, .inl (dA 5, 22, .inr (.inr (.inr (.inr (va_cpy f (fun _ => none) 0 0 15))))))] TT) H := hP
  replace hD : va_D A (HAppend.hAppend (α := va_W) (β := va_W) (γ := va_W) [(q1, .inl (dA 5, 22, .inr (.inr (.inr (.inr (va_cpy f (fun _ => none) 0 0 15))))))] TT) := hD
  refine W.widen (k := 1) (n := 22) (Nat.le_of_ble_eq_true rfl) (Nat.le_of_ble_eq_true rfl) ?_
  have hP9 := va_P.part (X := [(q1, .inl (dA 5, 22, .inr (.inr (.inr (.inr (va_cpy f (fun _ => none) 0 0 15))))))]) (cx := [(q1, .inl (dA 5, 22, .inr (.inr (.inr (.inr (va_cpy f (fun _ => none) 0 0 15))))))]) (pl := TT) hP [0] rfl
  have hD9 := va_D.part (X := [(q1, .inl (dA 5, 22, .inr (.inr (.inr (.inr (va_cpy f (fun _ => none) 0 0 15))))))]) (cx := [(q1, .inl (dA 5, 22, .inr (.inr (.inr (.inr (va_cpy f (fun _ => none) 0 0 15))))))]) (pl := TT) hD [0] (by decide) rfl
  exact W.aret (v := .ref q1) hx hb hr (Or.inr ⟨_, rfl⟩) (Or.inr ⟨_, rfl⟩) (fun t ht hW => ⟨⟨(), q1, rfl, trivial, ⟨by rw [ht]; exact hP9, hD9⟩⟩, hS.F ht⟩) hS.2.2 dJ7_copyOf_1904c_9

set_option maxHeartbeats 4000000 in
set_option maxRecDepth 100000 in
theorem l_grow1_4_15 (l : Launch) (D : va_G) (dA : Nat → ClassId) (E : Nat) (h : Nat) (md : Int32) (ar : Nat) (f : Nat → Option Nat) (TT : va_W) (ea : Nat → Nat) (fs : Nat → List Value) (sz : Nat) (hf : ∀ i, i < 15 → f i = some (ea i)) (hTE : ∀ i, i < 15 → ((ea i, .inr (4, fs i)) : Nat × va_E) ∈ TT)  : Met l yJx4a65c_grow_92f84 (wq (.code yJx4a65c_grow_92f84 cJx4a65c_grow_92f84 4 (some (.array (.object "java/lang/Object"))))) { frames := 3, cells := 1, slots := 22, locals := 74 } (va_Pc [.ref h, .int 16] (PcB D dA E (HAppend.hAppend (α := va_W) (β := va_W) (γ := va_W) [(h, .inr (2, [.int md, .ref ar, .int 15])), (ar, .inl (dA 5, 15, .inr (.inr (.inr (.inr f)))))] TT) sz)) (va_Qr (fun (u : Unit) => True) (fun u ra t => va_P D vwCl (HAppend.hAppend (α := va_W) (β := va_W) (γ := va_W) [(h, .inr (2, [.int md, .ref ra, .int 15])), (ra, .inl (dA 5, 22, .inr (.inr (.inr (.inr (va_cpy f (fun _ => none) 0 0 15))))))] TT) t.heap ∧ va_D (va_A (HAppend.hAppend (α := va_W) (β := va_W) (γ := va_W) [(h, .inr (2, [.int md, .ref ar, .int 15])), (ar, .inl (dA 5, 15, .inr (.inr (.inr (.inr f)))))] TT) sz) (HAppend.hAppend (α := va_W) (β := va_W) (γ := va_W) [(h, .inr (2, [.int md, .ref ra, .int 15])), (ra, .inl (dA 5, 22, .inr (.inr (.inr (.inr (va_cpy f (fun _ => none) 0 0 15))))))] TT)) (va_A (HAppend.hAppend (α := va_W) (β := va_W) (γ := va_W) [(h, .inr (2, [.int md, .ref ar, .int 15])), (ar, .inl (dA 5, 15, .inr (.inr (.inr (.inr f)))))] TT) sz)) 1 22 (va_A (HAppend.hAppend (α := va_W) (β := va_W) (γ := va_W) [(h, .inr (2, [.int md, .ref ar, .int 15])), (ar, .inl (dA 5, 15, .inr (.inr (.inr (.inr f)))))] TT) sz) := by
  refine mb_of (y := yJx4a65c_grow_92f84) (av := [.ref h, .int 16]) (maxL := 4) (Qc := fun A => va_Qr (fun (u : Unit) => True) (fun u ra t => va_P D vwCl (HAppend.hAppend (α := va_W) (β := va_W) (γ := va_W) [(h, .inr (2, [.int md, .ref ra, .int 15])), (ra, .inl (dA 5, 22, .inr (.inr (.inr (.inr (va_cpy f (fun _ => none) 0 0 15))))))] TT) t.heap ∧ va_D A (HAppend.hAppend (α := va_W) (β := va_W) (γ := va_W) [(h, .inr (2, [.int md, .ref ra, .int 15])), (ra, .inl (dA 5, 22, .inr (.inr (.inr (.inr (va_cpy f (fun _ => none) 0 0 15))))))] TT)) A) RJx4a65c rfl (by decide) (Nat.le_of_ble_eq_true rfl) ?_
  intro p e s m args below meth c hae hx hb hr hts hown hlocks hml hnm hP hK A hAe hD hZ hS hA ls hl
  replace hl : lv_has ls 4 [(0, .ref h), (1, .int 16)] := hl
  refine lv_aload_n hx hb dJx4a65c_grow_92f84_0 rfl (lv_at hl 0 rfl) ?_
  refine va_get (D := D) (ci := 2) (v := .ref ar) (C := RJx4a65c) (T := TJx4a65c) (N := 3) hx hb hts inAJx4a65c hown hK hP 0 rfl rfl 1 (by decide) (hts _ q275) (fun _ h9 => h9) rfl dJx4a65c_grow_92f84_1 ?_
  refine va_alen hx hb hK hP 1 5 rfl rfl (v := 15) (show Int32.ofNat 15 = 15 by decide) dJx4a65c_grow_92f84_4 ?_
  refine lv_istore_n (lv' := [(2, .int 15), (0, .ref h), (1, .int 16)]) hx hb dJx4a65c_grow_92f84_5 rfl hl (by decide) rfl (fun ls hl => ?_)
  refine lv_iload_n hx hb dJx4a65c_grow_92f84_6 rfl (lv_at hl 0 rfl) ?_
  refine lv_if_gt (tgt := 20) hx hb dJx4a65c_grow_92f84_7 (by decide) (fun _ => ?_) (fun c1 => absurd (by decide) c1)
  refine lv_iload_n hx hb dJx4a65c_grow_92f84_20 rfl (lv_at hl 0 rfl) ?_
  refine lv_iload_n hx hb dJx4a65c_grow_92f84_21 rfl (lv_at hl 2 rfl) ?_
  refine lv_iload_n hx hb dJx4a65c_grow_92f84_22 rfl (lv_at hl 0 rfl) ?_
  refine lv_isub hx hb dJx4a65c_grow_92f84_23 ?_
  refine lv_topi (fun x2 ex2 => ?_)
  replace ex2 : x2 = 1 := ex2.trans (by decide)
  subst ex2
  refine lv_iload_n hx hb dJx4a65c_grow_92f84_24 rfl (lv_at hl 0 rfl) ?_
  refine lv_iconst (v := 1) hx hb dJx4a65c_grow_92f84_25 (by decide) ?_
  refine lv_ishr hx hb dJx4a65c_grow_92f84_26 ?_
  refine lv_topi (fun x3 ex3 => ?_)
  obtain rfl : x3 = 7 := ex3.trans (by decide)
  replace hPc := hP.sub (ws' := []) [] rfl
  replace hDc := hD.sub (ws' := []) [] (by decide) rfl
  replace hFc := va_free (wc := []) hD hS hA [] rfl
  refine va_calli (va_runS (As := [.int 15, .int 1, .int 7]) (rest := []) ⟨hx, hb, hml, hown, hts⟩ (l_newLength_15 l D dA E  s.heap.size ) (va_cwS 3 hts (ga_S q392 q393 q394 q391) rfl rfl rfl (by decide +kernel) ⟨(Nat.le_of_ble_eq_true rfl), (Nat.le_of_ble_eq_true rfl)⟩) ⟨pb_blind, pb_pre hK hPc hDc hZ hS hFc _⟩ rfl rfl hl.1 rfl (lv_room (Nat.le_of_ble_eq_true rfl)) dJx4a65c_grow_92f84_27 ⟨(Nat.le_of_ble_eq_true rfl), (Nat.le_of_ble_eq_true rfl)⟩) hS (fun q _ h => hFc q h) hFc (fun r u t H1 locs ht hvm hw hB hz1 hk1 hS => ?_)
  refine W.widen (k := 0) (n := 0) (Nat.le_of_ble_eq_true rfl) (Nat.le_of_ble_eq_true rfl) ?_
  obtain ⟨r4, rfl⟩ : ∃ z, z = r := ⟨_, rfl⟩
  obtain ⟨u5, rfl⟩ : ∃ z, z = u := ⟨_, rfl⟩
  have hw6 := hw
  clear hw
  obtain ⟨hP1, hD1⟩ := hB
  rw [ht] at hP1
  obtain ⟨hP, hD⟩ := va_joinQ (X := [(h, .inr (2, [.int md, .ref ar, .int 15])), (ar, .inl (dA 5, 15, .inr (.inr (.inr (.inr f)))))]) (cx := []) (wr := [(h, .inr (2, [.int md, .ref ar, .int 15])), (ar, .inl (dA 5, 15, .inr (.inr (.inr (.inr f)))))]) (w1 := []) (pl := TT) hP hD [] [0, 1] rfl rfl (by decide) (by decide) hk1 hFc hP1 hD1
  generalize H1 = H at hP hS ⊢
  replace hP : va_P D vwCl (HAppend.hAppend (α := va_W) (β := va_W) (γ := va_W) [(h, .inr (2, [.int md, .ref ar, .int 15])), (ar, .inl (dA 5, 15, .inr (.inr (.inr (.inr f)))))] TT) H := hP
  replace hD : va_D A (HAppend.hAppend (α := va_W) (β := va_W) (γ := va_W) [(h, .inr (2, [.int md, .ref ar, .int 15])), (ar, .inl (dA 5, 15, .inr (.inr (.inr (.inr f)))))] TT) := hD
  obtain rfl : r4 = 22 := hw6
  refine lv_istore_n (lv' := [(3, .int 22), (2, .int 15), (0, .ref h), (1, .int 16)]) hx hb dJx4a65c_grow_92f84_30 rfl hl (by decide) rfl (fun ls hl => ?_)
  refine lv_aload_n hx hb dJx4a65c_grow_92f84_31 rfl (lv_at hl 2 rfl) ?_
  refine lv_aload_n hx hb dJx4a65c_grow_92f84_32 rfl (lv_at hl 2 rfl) ?_
  refine va_get (D := D) (ci := 2) (v := .ref ar) (C := RJx4a65c) (T := TJx4a65c) (N := 3) hx hb hts inAJx4a65c hown hK hP 0 rfl rfl 1 (by decide) (hts _ q275) (fun _ h9 => h9) rfl dJx4a65c_grow_92f84_33 ?_
  refine lv_iload_n hx hb dJx4a65c_grow_92f84_36 rfl (lv_at hl 0 rfl) ?_
  replace hPc := va_P.part (X := [(h, .inr (2, [.int md, .ref ar, .int 15])), (ar, .inl (dA 5, 15, .inr (.inr (.inr (.inr f)))))]) (cx := [(ar, .inl (dA 5, 15, .inr (.inr (.inr (.inr f)))))]) (pl := TT) hP [1] rfl
  replace hDc := va_D.part (X := [(h, .inr (2, [.int md, .ref ar, .int 15])), (ar, .inl (dA 5, 15, .inr (.inr (.inr (.inr f)))))]) (cx := [(ar, .inl (dA 5, 15, .inr (.inr (.inr (.inr f)))))]) (pl := TT) hD [1] (by decide) rfl
  replace hFc := va_freeP (X := [(h, .inr (2, [.int md, .ref ar, .int 15])), (ar, .inl (dA 5, 15, .inr (.inr (.inr (.inr f)))))]) (cx := [(ar, .inl (dA 5, 15, .inr (.inr (.inr (.inr f)))))]) (pl := TT) hD hS hA [1] rfl
  refine va_callr (va_runS (As := [.ref ar, .int 22]) (rest := [.ref h]) ⟨hx, hb, hml, hown, hts⟩ (l_copy2_4_15 l D dA E ar f TT ea fs H.size  hf hTE) (va_cwS 2 hts (ga_S q396 q397 q390 q395) rfl rfl rfl (by decide +kernel) ⟨(Nat.le_of_ble_eq_true rfl), (Nat.le_of_ble_eq_true rfl)⟩) ⟨pb_blind, pb_pre hK hPc hDc hZ hS hFc _⟩ rfl rfl hl.1 rfl (lv_room (Nat.le_of_ble_eq_true rfl)) dJx4a65c_grow_92f84_37 ⟨(Nat.le_of_ble_eq_true rfl), (Nat.le_of_ble_eq_true rfl)⟩) hS (fun q _ h => hFc q h) hFc (fun u ra t H1 locs ht hvm hw hB hz1 hk1 hS => ?_)
  refine W.widen (k := 1) (n := 22) (Nat.le_of_ble_eq_true rfl) (Nat.le_of_ble_eq_true rfl) ?_
  obtain ⟨q7, rfl⟩ : ∃ z, z = ra := ⟨_, rfl⟩
  obtain ⟨u8, rfl⟩ : ∃ z, z = u := ⟨_, rfl⟩
  have hw9 := hw
  clear hw
  obtain ⟨hP1, hD1⟩ := hB
  rw [ht] at hP1
  obtain ⟨hP, hD⟩ := va_joinP (X := [(h, .inr (2, [.int md, .ref ar, .int 15])), (ar, .inl (dA 5, 15, .inr (.inr (.inr (.inr f)))))]) (cx := [(ar, .inl (dA 5, 15, .inr (.inr (.inr (.inr f)))))]) (wr := [(h, .inr (2, [.int md, .ref ar, .int 15]))]) (rx := [(q7, .inl (dA 5, 22, .inr (.inr (.inr (.inr (va_cpy f (fun _ => none) 0 0 15))))))]) (pl := TT) (pl1 := TT) hP hD [1] [0] rfl rfl (by decide) (by decide) hk1 hFc hP1 hD1
  generalize H1 = H at hP hS ⊢
  replace hP : va_P D vwCl (HAppend.hAppend (α := va_W) (β := va_W) (γ := va_W) [(h, .inr (2, [.int md, .ref ar, .int 15])), (q7, .inl (dA 5, 22, .inr (.inr (.inr (.inr (va_cpy f (fun _ => none) 0 0 15))))))] TT) H := hP
  replace hD : va_D A (HAppend.hAppend (α := va_W) (β := va_W) (γ := va_W) [(h, .inr (2, [.int md, .ref ar, .int 15])), (q7, .inl (dA 5, 22, .inr (.inr (.inr (.inr (va_cpy f (fun _ => none) 0 0 15))))))] TT) := hD
  refine lv_dup_x1 hx hb dJx4a65c_grow_92f84_40 rfl rfl ?_
  refine va_put (D := D) (ci := 2) (v := .ref q7) (ty := .array (.object "java/lang/Object")) (C := RJx4a65c) (T := TJx4a65c) (N := 3) hx hb hts inAJx4a65c tyJx4a65c tyJx4a65c_ok nmJx4a65c hown hK hP hD hS 0 rfl rfl 1 (by decide) (hts _ q275) (fun _ h9 => h9) rfl (tyJx4a65c_ok 1 (by decide)) rfl rfl (Nat.le_of_ble_eq_true rfl) dJx4a65c_grow_92f84_41 (fun H locs hP hD hS => ?_)
  replace hP : va_P D vwCl (HAppend.hAppend (α := va_W) (β := va_W) (γ := va_W) [(h, .inr (2, [.int md, .ref q7, .int 15])), (q7, .inl (dA 5, 22, .inr (.inr (.inr (.inr (va_cpy f (fun _ => none) 0 0 15))))))] TT) H := hP
  replace hD : va_D A (HAppend.hAppend (α := va_W) (β := va_W) (γ := va_W) [(h, .inr (2, [.int md, .ref q7, .int 15])), (q7, .inl (dA 5, 22, .inr (.inr (.inr (.inr (va_cpy f (fun _ => none) 0 0 15))))))] TT) := hD
  refine W.widen (k := 1) (n := 22) (Nat.le_of_ble_eq_true rfl) (Nat.le_of_ble_eq_true rfl) ?_
  have hP9 := va_P.part (X := [(h, .inr (2, [.int md, .ref q7, .int 15])), (q7, .inl (dA 5, 22, .inr (.inr (.inr (.inr (va_cpy f (fun _ => none) 0 0 15))))))]) (cx := [(h, .inr (2, [.int md, .ref q7, .int 15])), (q7, .inl (dA 5, 22, .inr (.inr (.inr (.inr (va_cpy f (fun _ => none) 0 0 15))))))]) (pl := TT) hP [0, 1] rfl
  have hD9 := va_D.part (X := [(h, .inr (2, [.int md, .ref q7, .int 15])), (q7, .inl (dA 5, 22, .inr (.inr (.inr (.inr (va_cpy f (fun _ => none) 0 0 15))))))]) (cx := [(h, .inr (2, [.int md, .ref q7, .int 15])), (q7, .inl (dA 5, 22, .inr (.inr (.inr (.inr (va_cpy f (fun _ => none) 0 0 15))))))]) (pl := TT) hD [0, 1] (by decide) rfl
  exact W.aret (v := .ref q7) hx hb hr (Or.inr ⟨_, rfl⟩) (Or.inr ⟨_, rfl⟩) (fun t ht hW => ⟨⟨(), q7, rfl, trivial, ⟨by rw [ht]; exact hP9, hD9⟩⟩, hS.F ht⟩) hS.2.2 dJx4a65c_grow_92f84_44

set_option maxHeartbeats 4000000 in
set_option maxRecDepth 100000 in
theorem l_grow0_4_15 (l : Launch) (D : va_G) (dA : Nat → ClassId) (E : Nat) (h : Nat) (md : Int32) (ar : Nat) (f : Nat → Option Nat) (TT : va_W) (ea : Nat → Nat) (fs : Nat → List Value) (sz : Nat) (hf : ∀ i, i < 15 → f i = some (ea i)) (hTE : ∀ i, i < 15 → ((ea i, .inr (4, fs i)) : Nat × va_E) ∈ TT)  : Met l yJx4a65c_grow_d5877 (wq (.code yJx4a65c_grow_d5877 cJx4a65c_grow_d5877 1 (some (.array (.object "java/lang/Object"))))) { frames := 4, cells := 1, slots := 22, locals := 97 } (va_Pc [.ref h] (PcB D dA E (HAppend.hAppend (α := va_W) (β := va_W) (γ := va_W) [(h, .inr (2, [.int md, .ref ar, .int 15])), (ar, .inl (dA 5, 15, .inr (.inr (.inr (.inr f)))))] TT) sz)) (va_Qr (fun (u : Unit) => True) (fun u ra t => va_P D vwCl (HAppend.hAppend (α := va_W) (β := va_W) (γ := va_W) [(h, .inr (2, [.int md, .ref ra, .int 15])), (ra, .inl (dA 5, 22, .inr (.inr (.inr (.inr (va_cpy f (fun _ => none) 0 0 15))))))] TT) t.heap ∧ va_D (va_A (HAppend.hAppend (α := va_W) (β := va_W) (γ := va_W) [(h, .inr (2, [.int md, .ref ar, .int 15])), (ar, .inl (dA 5, 15, .inr (.inr (.inr (.inr f)))))] TT) sz) (HAppend.hAppend (α := va_W) (β := va_W) (γ := va_W) [(h, .inr (2, [.int md, .ref ra, .int 15])), (ra, .inl (dA 5, 22, .inr (.inr (.inr (.inr (va_cpy f (fun _ => none) 0 0 15))))))] TT)) (va_A (HAppend.hAppend (α := va_W) (β := va_W) (γ := va_W) [(h, .inr (2, [.int md, .ref ar, .int 15])), (ar, .inl (dA 5, 15, .inr (.inr (.inr (.inr f)))))] TT) sz)) 1 22 (va_A (HAppend.hAppend (α := va_W) (β := va_W) (γ := va_W) [(h, .inr (2, [.int md, .ref ar, .int 15])), (ar, .inl (dA 5, 15, .inr (.inr (.inr (.inr f)))))] TT) sz) := by
  refine mb_of (y := yJx4a65c_grow_d5877) (av := [.ref h]) (maxL := 1) (Qc := fun A => va_Qr (fun (u : Unit) => True) (fun u ra t => va_P D vwCl (HAppend.hAppend (α := va_W) (β := va_W) (γ := va_W) [(h, .inr (2, [.int md, .ref ra, .int 15])), (ra, .inl (dA 5, 22, .inr (.inr (.inr (.inr (va_cpy f (fun _ => none) 0 0 15))))))] TT) t.heap ∧ va_D A (HAppend.hAppend (α := va_W) (β := va_W) (γ := va_W) [(h, .inr (2, [.int md, .ref ra, .int 15])), (ra, .inl (dA 5, 22, .inr (.inr (.inr (.inr (va_cpy f (fun _ => none) 0 0 15))))))] TT)) A) RJx4a65c rfl (by decide) (Nat.le_of_ble_eq_true rfl) ?_
  intro p e s m args below meth c hae hx hb hr hts hown hlocks hml hnm hP hK A hAe hD hZ hS hA ls hl
  replace hl : lv_has ls 1 [(0, .ref h)] := hl
  refine lv_aload_n hx hb dJx4a65c_grow_d5877_0 rfl (lv_at hl 0 rfl) ?_
  refine lv_aload_n hx hb dJx4a65c_grow_d5877_1 rfl (lv_at hl 0 rfl) ?_
  refine va_get (D := D) (ci := 2) (v := .int 15) (C := RJx4a65c) (T := TJx4a65c) (N := 3) hx hb hts inAJx4a65c hown hK hP 0 rfl rfl 2 (by decide) (hts _ q348) (fun _ h9 => h9) rfl dJx4a65c_grow_d5877_2 ?_
  refine lv_iconst (v := 1) hx hb dJx4a65c_grow_d5877_5 (by decide) ?_
  refine lv_iadd hx hb dJx4a65c_grow_d5877_6 ?_
  refine lv_topi (fun x1 ex1 => ?_)
  replace ex1 : x1 = 16 := ex1.trans (by decide)
  subst ex1
  replace hPc := va_P.part (X := [(h, .inr (2, [.int md, .ref ar, .int 15])), (ar, .inl (dA 5, 15, .inr (.inr (.inr (.inr f)))))]) (cx := [(h, .inr (2, [.int md, .ref ar, .int 15])), (ar, .inl (dA 5, 15, .inr (.inr (.inr (.inr f)))))]) (pl := TT) hP [0, 1] rfl
  replace hDc := va_D.part (X := [(h, .inr (2, [.int md, .ref ar, .int 15])), (ar, .inl (dA 5, 15, .inr (.inr (.inr (.inr f)))))]) (cx := [(h, .inr (2, [.int md, .ref ar, .int 15])), (ar, .inl (dA 5, 15, .inr (.inr (.inr (.inr f)))))]) (pl := TT) hD [0, 1] (by decide) rfl
  replace hFc := va_freeP (X := [(h, .inr (2, [.int md, .ref ar, .int 15])), (ar, .inl (dA 5, 15, .inr (.inr (.inr (.inr f)))))]) (cx := [(h, .inr (2, [.int md, .ref ar, .int 15])), (ar, .inl (dA 5, 15, .inr (.inr (.inr (.inr f)))))]) (pl := TT) hD hS hA [0, 1] rfl
  refine va_callr (va_runV (As := [.int 16]) (rest := []) ⟨hx, hb, hml, hown, hts⟩ (l_grow1_4_15 l D dA E h md ar f TT ea fs s.heap.size  hf hTE) (cwV 1 hts (ga_V q370 q371 q368 q322 q369) rfl rfl rfl (by decide +kernel) ⟨(Nat.le_of_ble_eq_true rfl), (Nat.le_of_ble_eq_true rfl)⟩) ⟨pb_blind, va_recv hK hPc (ci := 2) (q0 := 0) rfl rfl, pb_pre hK hPc hDc hZ hS hFc _⟩ rfl rfl hl.1 rfl (lv_room (Nat.le_of_ble_eq_true rfl)) dJx4a65c_grow_d5877_7 ⟨(Nat.le_of_ble_eq_true rfl), (Nat.le_of_ble_eq_true rfl)⟩) hS (fun q _ h => hFc q h) hFc (fun u ra t H1 locs ht hvm hw hB hz1 hk1 hS => ?_)
  refine W.widen (k := 1) (n := 22) (Nat.le_of_ble_eq_true rfl) (Nat.le_of_ble_eq_true rfl) ?_
  obtain ⟨q2, rfl⟩ : ∃ z, z = ra := ⟨_, rfl⟩
  obtain ⟨u3, rfl⟩ : ∃ z, z = u := ⟨_, rfl⟩
  have hw4 := hw
  clear hw
  obtain ⟨hP1, hD1⟩ := hB
  rw [ht] at hP1
  obtain ⟨hP, hD⟩ := va_joinP (X := [(h, .inr (2, [.int md, .ref ar, .int 15])), (ar, .inl (dA 5, 15, .inr (.inr (.inr (.inr f)))))]) (cx := [(h, .inr (2, [.int md, .ref ar, .int 15])), (ar, .inl (dA 5, 15, .inr (.inr (.inr (.inr f)))))]) (wr := []) (rx := [(h, .inr (2, [.int md, .ref q2, .int 15])), (q2, .inl (dA 5, 22, .inr (.inr (.inr (.inr (va_cpy f (fun _ => none) 0 0 15))))))]) (pl := TT) (pl1 := TT) hP hD [0, 1] [] rfl rfl (by decide) (by decide) hk1 hFc hP1 hD1
  generalize H1 = H at hP hS ⊢
  replace hP : va_P D vwCl (HAppend.hAppend (α := va_W) (β := va_W) (γ := va_W) [(h, .inr (2, [.int md, .ref q2, .int 15])), (q2, .inl (dA 5, 22, .inr (.inr (.inr (.inr (va_cpy f (fun _ => none) 0 0 15))))))] TT) H := hP
  replace hD : va_D A (HAppend.hAppend (α := va_W) (β := va_W) (γ := va_W) [(h, .inr (2, [.int md, .ref q2, .int 15])), (q2, .inl (dA 5, 22, .inr (.inr (.inr (.inr (va_cpy f (fun _ => none) 0 0 15))))))] TT) := hD
  refine W.widen (k := 1) (n := 22) (Nat.le_of_ble_eq_true rfl) (Nat.le_of_ble_eq_true rfl) ?_
  have hP9 := va_P.part (X := [(h, .inr (2, [.int md, .ref q2, .int 15])), (q2, .inl (dA 5, 22, .inr (.inr (.inr (.inr (va_cpy f (fun _ => none) 0 0 15))))))]) (cx := [(h, .inr (2, [.int md, .ref q2, .int 15])), (q2, .inl (dA 5, 22, .inr (.inr (.inr (.inr (va_cpy f (fun _ => none) 0 0 15))))))]) (pl := TT) hP [0, 1] rfl
  have hD9 := va_D.part (X := [(h, .inr (2, [.int md, .ref q2, .int 15])), (q2, .inl (dA 5, 22, .inr (.inr (.inr (.inr (va_cpy f (fun _ => none) 0 0 15))))))]) (cx := [(h, .inr (2, [.int md, .ref q2, .int 15])), (q2, .inl (dA 5, 22, .inr (.inr (.inr (.inr (va_cpy f (fun _ => none) 0 0 15))))))]) (pl := TT) hD [0, 1] (by decide) rfl
  exact W.aret (v := .ref q2) hx hb hr (Or.inr ⟨_, rfl⟩) (Or.inr ⟨_, rfl⟩) (fun t ht hW => ⟨⟨(), q2, rfl, trivial, ⟨by rw [ht]; exact hP9, hD9⟩⟩, hS.F ht⟩) hS.2.2 dJx4a65c_grow_d5877_10
