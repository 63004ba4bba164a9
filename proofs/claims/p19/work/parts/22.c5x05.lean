/-! CONTRACTS, general -/
set_option maxHeartbeats 4000000 in
set_option maxRecDepth 100000 in
theorem l_copy3_3_22 (l : Launch) (D : va_G) (dA : Nat → ClassId) (E : Nat) (ar : Nat) (f : Nat → Option Nat) (TT : va_W) (ea : Nat → Nat) (fs : Nat → List Value) (sz : Nat) (hf : ∀ i, i < 22 → f i = some (ea i)) (hTE : ∀ i, i < 22 → ((ea i, .inr (3, fs i)) : Nat × va_E) ∈ TT)  : Met l yJ7_copyOf_6403c (wq (.code yJ7_copyOf_6403c cJ7_copyOf_6403c 4 (some (.array (.object "java/lang/Object"))))) { frames := 1, cells := 1, slots := 33, locals := 30 } (va_Pc [.ref ar, .int 33, .ref (dA 6)] (PcB D dA E (HAppend.hAppend (α := va_W) (β := va_W) (γ := va_W) [(ar, .inl (dA 5, 22, .inr (.inr (.inr (.inr f)))))] TT) sz)) (va_Qr (fun (u : Unit) => True) (fun u ra t => va_P D vwCl (HAppend.hAppend (α := va_W) (β := va_W) (γ := va_W) [(ra, .inl (dA 5, 33, .inr (.inr (.inr (.inr (va_cpy f (fun _ => none) 0 0 22))))))] TT) t.heap ∧ va_D (va_A (HAppend.hAppend (α := va_W) (β := va_W) (γ := va_W) [(ar, .inl (dA 5, 22, .inr (.inr (.inr (.inr f)))))] TT) sz) (HAppend.hAppend (α := va_W) (β := va_W) (γ := va_W) [(ra, .inl (dA 5, 33, .inr (.inr (.inr (.inr (va_cpy f (fun _ => none) 0 0 22))))))] TT)) (va_A (HAppend.hAppend (α := va_W) (β := va_W) (γ := va_W) [(ar, .inl (dA 5, 22, .inr (.inr (.inr (.inr f)))))] TT) sz)) 1 33 (va_A (HAppend.hAppend (α := va_W) (β := va_W) (γ := va_W) [(ar, .inl (dA 5, 22, .inr (.inr (.inr (.inr f)))))] TT) sz) := by
  refine mb_of (y := yJ7_copyOf_6403c) (av := [.ref ar, .int 33, .ref (dA 6)]) (maxL := 4) (Qc := fun A => va_Qr (fun (u : Unit) => True) (fun u ra t => va_P D vwCl (HAppend.hAppend (α := va_W) (β := va_W) (γ := va_W) [(ra, .inl (dA 5, 33, .inr (.inr (.inr (.inr (va_cpy f (fun _ => none) 0 0 22))))))] TT) t.heap ∧ va_D A (HAppend.hAppend (α := va_W) (β := va_W) (γ := va_W) [(ra, .inl (dA 5, 33, .inr (.inr (.inr (.inr (va_cpy f (fun _ => none) 0 0 22))))))] TT)) A) RJ7 rfl (by decide) (Nat.le_of_ble_eq_true rfl) ?_
  intro p e s m args below meth c hae hx hb hr hts hown hlocks hml hnm hP hK A hAe hD hZ hS hA ls hl
  replace hl : lv_has ls 4 [(0, .ref ar), (1, .int 33), (2, .ref (dA 6))] := hl
  refine lv_aload_n hx hb dJ7_copyOf_6403c_0 rfl (lv_at hl 2 rfl) ?_
  refine va_ldcM hx hb hown (hts _ q374) hZ.2.2.2.2.2 dJ7_copyOf_6403c_1 ?_
  refine lv_acmp_ne (rx := some (dA 6)) (ry := some (dA 6)) (tgt := 13) hx hb dJ7_copyOf_6403c_3 (by decide) (fun h9 => absurd rfl h9) (fun _ => ?_)
  refine lv_iload_n hx hb dJ7_copyOf_6403c_6 rfl (lv_at hl 1 rfl) ?_
  refine va_newq (N' := 33) hx hb hown (hts _ q375) hZ.1.2.2.2.2.2.1 hK hP hD hS hA (by decide) (by decide) (by decide) (Nat.le_of_ble_eq_true rfl) (Nat.le_of_ble_eq_true rfl) dJ7_copyOf_6403c_7 (fun q1 cAq1 H hKn hP hD hS => ?_)
  obtain rfl : cAq1 = dA 5 := ty_eq 5 hKn rfl
  replace hP := va_P.swap (a := [(ar, .inl (dA 5, 22, .inr (.inr (.inr (.inr f)))))]) (b := TT) hP
  replace hD := va_D.swap (a := [(ar, .inl (dA 5, 22, .inr (.inr (.inr (.inr f)))))]) (b := TT) hD
  replace hP : va_P D vwCl (HAppend.hAppend (α := va_W) (β := va_W) (γ := va_W) [(ar, .inl (dA 5, 22, .inr (.inr (.inr (.inr f))))), (q1, .inl (dA 5, 33, .inr (.inr (.inr (.inr (fun _ => none))))))] TT) H := hP
  replace hD : va_D A (HAppend.hAppend (α := va_W) (β := va_W) (γ := va_W) [(ar, .inl (dA 5, 22, .inr (.inr (.inr (.inr f))))), (q1, .inl (dA 5, 33, .inr (.inr (.inr (.inr (fun _ => none))))))] TT) := hD
  refine W.widen (k := 1) (n := 33) (Nat.le_of_ble_eq_true rfl) (Nat.le_of_ble_eq_true rfl) ?_
  refine lv_goto (tgt := 24) hx hb dJ7_copyOf_6403c_10 (by decide) ?_
  refine lv_astore_n (lv' := [(3, .ref q1), (0, .ref ar), (1, .int 33), (2, .ref (dA 6))]) hx hb dJ7_copyOf_6403c_24 rfl hl (by decide) rfl (fun ls hl => ?_)
  refine lv_aload_n hx hb dJ7_copyOf_6403c_25 rfl (lv_at hl 1 rfl) ?_
  refine lv_iconst (v := 0) hx hb dJ7_copyOf_6403c_26 (by decide) ?_
  refine lv_aload_n hx hb dJ7_copyOf_6403c_27 rfl (lv_at hl 0 rfl) ?_
  refine lv_iconst (v := 0) hx hb dJ7_copyOf_6403c_28 (by decide) ?_
  refine lv_aload_n hx hb dJ7_copyOf_6403c_29 rfl (lv_at hl 1 rfl) ?_
  refine va_alen hx hb hK hP 0 5 rfl rfl (v := 22) (show Int32.ofNat 22 = 22 by decide) dJ7_copyOf_6403c_30 ?_
  refine lv_iload_n hx hb dJ7_copyOf_6403c_31 rfl (lv_at hl 2 rfl) ?_
  refine va_mmin hx hb (hml.trans hl.1.symm) hown (hts _ q376) (hts _ q377) (hts _ q365) (hts _ q378) (Nat.le_of_ble_eq_true rfl) (Nat.le_of_ble_eq_true rfl) (Nat.le_of_ble_eq_true rfl) (Nat.le_of_ble_eq_true rfl) dJ7_copyOf_6403c_32 ?_
  refine lv_topi (fun x2 ex2 => ?_)
  obtain rfl : x2 = 22 := ex2.trans (by decide)
  refine va_copyM hx hb (hml.trans hl.1.symm) hown (hts _ q379) (hts _ q380) (hts _ q381) (hts _ q382) hK hP hD hS 0 1 5 5 rfl rfl rfl rfl (by decide) (by decide) (by decide) (by rw [show ((0 : Int32)).toNatClampNeg = 0 from rfl, show ((22 : Int32)).toNatClampNeg = 22 from rfl]; omega) (by rw [show ((0 : Int32)).toNatClampNeg = 0 from rfl, show ((22 : Int32)).toNatClampNeg = 22 from rfl]; omega) (by rw [show ((0 : Int32)).toNatClampNeg = 0 from rfl, show ((22 : Int32)).toNatClampNeg = 22 from rfl]; exact (fun i hi y hy => by rw [Nat.zero_add] at hy; obtain rfl := Option.some.inj ((hf i (by omega)).symm.trans hy); exact tt_any (r := (RX0, TX0, 4)) hK hP (hTE _ (by omega)) rfl (znC_18 hZ.1))) (Nat.le_of_ble_eq_true rfl) (Nat.le_of_ble_eq_true rfl) dJ7_copyOf_6403c_35 (fun H locs hP hD hS => ?_)
  rw [show ((0 : Int32)).toNatClampNeg = 0 from rfl, show ((22 : Int32)).toNatClampNeg = 22 from rfl] at hP hD
  replace hP : va_P D vwCl (HAppend.hAppend (α := va_W) (β := va_W) (γ := va_W) [(ar, .inl (dA 5, 22, .inr (.inr (.inr (.inr f))))), (q1, .inl (dA 5, 33, .inr (.inr (.inr (.inr (va_cpy f (fun _ => none) 0 0 22))))))] TT) H := hP
  replace hD : va_D A (HAppend.hAppend (α := va_W) (β := va_W) (γ := va_W) [(ar, .inl (dA 5, 22, .inr (.inr (.inr (.inr f))))), (q1, .inl (dA 5, 33, .inr (.inr (.inr (.inr (va_cpy f (fun _ => none) 0 0 22))))))] TT) := hD
  refine lv_aload_n hx hb dJ7_copyOf_6403c_38 rfl (lv_at hl 0 rfl) ?_
  refine W.widen (k := 1) (n := 33) (Nat.le_of_ble_eq_true rfl) (Nat.le_of_ble_eq_true rfl) ?_
  have hP9 := va_P.part (X := [(ar, .inl (dA 5, 22, .inr (.inr (.inr (.inr f))))), (q1, .inl (dA 5, 33, .inr (.inr (.inr (.inr (va_cpy f (fun _ => none) 0 0 22))))))]) (cx := [(q1, .inl (dA 5, 33, .inr (.inr (.inr (.inr (va_cpy f (fun _ => none) 0 0 22))))))]) (pl := TT) hP [1] rfl
  have hD9 := va_D.part (X := [(ar, .inl (dA 5, 22, .inr (.inr (.inr (.inr f))))), (q1, .inl (dA 5, 33, .inr (.inr (.inr (.inr (va_cpy f (fun _ => none) 0 0 22))))))]) (cx := [(q1, .inl (dA 5, 33, .inr (.inr (.inr (.inr (va_cpy f (fun _ => none) 0 0 22))))))]) (pl := TT) hD [1] (by decide) rfl
  exact W.aret (v := .ref q1) hx hb hr (Or.inr ⟨_, rfl⟩) (Or.inr ⟨_, rfl⟩) (fun t ht hW => ⟨⟨(), q1, rfl, trivial, ⟨by rw [ht]; exact hP9, hD9⟩⟩, hS.F ht⟩) hS.2.2 dJ7_copyOf_6403c_39

set_option maxHeartbeats 4000000 in
set_option maxRecDepth 100000 in
theorem l_copy2_3_22 (l : Launch) (D : va_G) (dA : Nat → ClassId) (E : Nat) (ar : Nat) (f : Nat → Option Nat) (TT : va_W) (ea : Nat → Nat) (fs : Nat → List Value) (sz : Nat) (hf : ∀ i, i < 22 → f i = some (ea i)) (hTE : ∀ i, i < 22 → ((ea i, .inr (3, fs i)) : Nat × va_E) ∈ TT)  : Met l yJ7_copyOf_1904c (wq (.code yJ7_copyOf_1904c cJ7_copyOf_1904c 2 (some (.array (.object "java/lang/Object"))))) { frames := 2, cells := 1, slots := 33, locals := 53 } (va_Pc [.ref ar, .int 33] (PcB D dA E (HAppend.hAppend (α := va_W) (β := va_W) (γ := va_W) [(ar, .inl (dA 5, 22, .inr (.inr (.inr (.inr f)))))] TT) sz)) (va_Qr (fun (u : Unit) => True) (fun u ra t => va_P D vwCl (HAppend.hAppend (α := va_W) (β := va_W) (γ := va_W) [(ra, .inl (dA 5, 33, .inr (.inr (.inr (.inr (va_cpy f (fun _ => none) 0 0 22))))))] TT) t.heap ∧ va_D (va_A (HAppend.hAppend (α := va_W) (β := va_W) (γ := va_W) [(ar, .inl (dA 5, 22, .inr (.inr (.inr (.inr f)))))] TT) sz) (HAppend.hAppend (α := va_W) (β := va_W) (γ := va_W) [(ra, .inl (dA 5, 33, .inr (.inr (.inr (.inr (va_cpy f (fun _ => none) 0 0 22))))))] TT)) (va_A (HAppend.hAppend (α := va_W) (β := va_W) (γ := va_W) [(ar, .inl (dA 5, 22, .inr (.inr (.inr (.inr f)))))] TT) sz)) 1 33 (va_A (HAppend.hAppend (α := va_W) (β := va_W) (γ := va_W) [(ar, .inl (dA 5, 22, .inr (.inr (.inr (.inr f)))))] TT) sz) := by
  refine mb_of (y := yJ7_copyOf_1904c) (av := [.ref ar, .int 33]) (maxL := 2) (Qc := fun A => va_Qr (fun (u : Unit) => True) (fun u ra t => va_P D vwCl (HAppend.hAppend (α := va_W) (β := va_W) (γ := va_W) [(ra, .inl (dA 5, 33, .inr (.inr (.inr (.inr (va_cpy f (fun _ => none) 0 0 22))))))] TT) t.heap ∧ va_D A (HAppend.hAppend (α := va_W) (β := va_W) (γ := va_W) [(ra, .inl (dA 5, 33, .inr (.inr (.inr (.inr (va_cpy f (fun _ => none) 0 0 22))))))] TT)) A) RJ7 rfl (by decide) (Nat.le_of_ble_eq_true rfl) ?_
  intro p e s m args below meth c hae hx hb hr hts hown hlocks hml hnm hP hK A hAe hD hZ hS hA ls hl
  replace hl : lv_has ls 2 [(0, .ref ar), (1, .int 33)] := hl
  refine lv_aload_n hx hb dJ7_copyOf_1904c_0 rfl (lv_at hl 0 rfl) ?_
  refine lv_iload_n hx hb dJ7_copyOf_1904c_1 rfl (lv_at hl 1 rfl) ?_
  refine lv_aload_n hx hb dJ7_copyOf_1904c_2 rfl (lv_at hl 0 rfl) ?_
  refine va_getC (C := "[Ljava/lang/Object;") hx hb (hml.trans hl.1.symm) hown (hts _ q383) (va_Nw.use rfl (znD_8 hZ.1)) (hts _ q384) (hts _ q385) (hts _ q386) hZ.2.2.2.2.2 (ar_recv hK hP (q0 := 0) rfl) (Nat.le_of_ble_eq_true rfl) (Nat.le_of_ble_eq_true rfl) dJ7_copyOf_1904c_3 ?_
  replace hPc := va_P.part (X := [(ar, .inl (dA 5, 22, .inr (.inr (.inr (.inr f)))))]) (cx := [(ar, .inl (dA 5, 22, .inr (.inr (.inr (.inr f)))))]) (pl := TT) hP [0] rfl
  replace hDc := va_D.part (X := [(ar, .inl (dA 5, 22, .inr (.inr (.inr (.inr f)))))]) (cx := [(ar, .inl (dA 5, 22, .inr (.inr (.inr (.inr f)))))]) (pl := TT) hD [0] (by decide) rfl
  replace hFc := va_freeP (X := [(ar, .inl (dA 5, 22, .inr (.inr (.inr (.inr f)))))]) (cx := [(ar, .inl (dA 5, 22, .inr (.inr (.inr (.inr f)))))]) (pl := TT) hD hS hA [0] rfl
  refine va_callr (va_runS (As := [.ref ar, .int 33, .ref (dA 6)]) (rest := []) ⟨hx, hb, hml, hown, hts⟩ (l_copy3_3_22 l D dA E ar f TT ea fs s.heap.size  hf hTE) (va_cwS 3 hts (ga_S q388 q389 q390 q387) rfl rfl rfl (by decide +kernel) ⟨(Nat.le_of_ble_eq_true rfl), (Nat.le_of_ble_eq_true rfl)⟩) ⟨pb_blind, pb_pre hK hPc hDc hZ hS hFc _⟩ rfl rfl hl.1 rfl (lv_room (Nat.le_of_ble_eq_true rfl)) dJ7_copyOf_1904c_6 ⟨(Nat.le_of_ble_eq_true rfl), (Nat.le_of_ble_eq_true rfl)⟩) hS (fun q _ h => hFc q h) hFc (fun u ra t H1 locs ht hvm hw hB hz1 hk1 hS => ?_)
  refine W.widen (k := 1) (n := 33) (Nat.le_of_ble_eq_true rfl) (Nat.le_of_ble_eq_true rfl) ?_
  obtain ⟨q1, rfl⟩ : ∃ z, z = ra := ⟨_, rfl⟩
  obtain ⟨u2, rfl⟩ : ∃ z, z = u := ⟨_, rfl⟩
  have hw3 := hw
  clear hw
  obtain ⟨hP1, hD1⟩ := hB
  rw [ht] at hP1
  obtain ⟨hP, hD⟩ := va_joinP (X := [(ar, .inl (dA 5, 22, .inr (.inr (.inr (.inr f)))))]) (cx := [(ar, .inl (dA 5, 22, .inr (.inr (.inr (.inr f)))))]) (wr := []) (rx := [(q1, .inl (dA 5, 33, .inr (.inr (.inr (.inr (va_cpy f (fun _ => none) 0 0 22))))))]) (pl := TT) (pl1 := TT) hP hD [0] [] rfl rfl (by decide) (by decide) hk1 hFc hP1 hD1
  generalize H1 = H at hP hS ⊢
  replace hP : va_P D vwCl (HAppend.hAppend (α := va_W) (β := va_W) (γ := va_W) [(q1, .inl (dA 5, 33, .inr (.inr (.inr (.inr (va_cpy f (fun _ => none) 0 0 22))))))] TT) H := hP
  replace hD : va_D A (HAppend.hAppend (α := va_W) (β := va_W) (γ := va_W) [(q1, .inl (dA 5, 33, .inr (.inr (.inr (.inr (va_cpy f (fun _ => none) 0 0 22))))))] TT) := hD
  refine W.widen (k := 1) (n := 33) (Nat.le_of_ble_eq_true rfl) (Nat.le_of_ble_eq_true rfl) ?_
  have hP9 := va_P.part (X := [(q1, .inl (dA 5, 33, .inr (.inr (.inr (.inr (va_cpy f (fun _ => none) 0 0 22))))))]) (cx := [(q1, .inl (dA 5, 33, .inr (.inr (.inr (.inr (va_cpy f (fun _ => none) 0 0 22))))))]) (pl := TT) hP [0] rfl
  have hD9 := va_D.part (X := [(q1, .inl (dA 5, 33, .inr (.inr (.inr (.inr (va_cpy f (fun _ => none) 0 0 22))))))]) (cx := [(q1, .inl (dA 5, 33, .inr (.inr (.inr (.inr (va_cpy f (fun _ => none) 0 0 22))))))]) (pl := TT) hD [0] (by decide) rfl
  exact W.aret (v := .ref q1) hx hb hr (Or.inr ⟨_, rfl⟩) (Or.inr ⟨_, rfl⟩) (fun t ht hW => ⟨⟨(), q1, rfl, trivial, ⟨by rw [ht]; exact hP9, hD9⟩⟩, hS.F ht⟩) hS.2.2 dJ7_copyOf_1904c_9

set_option maxHeartbeats 4000000 in
set_option maxRecDepth 100000 in
theorem l_grow1_3_22 (l : Launch) (D : va_G) (dA : Nat → ClassId) (E : Nat) (h : Nat) (md : Int32) (ar : Nat) (f : Nat → Option Nat) (TT : va_W) (ea : Nat → Nat) (fs : Nat → List Value) (sz : Nat) (hf : ∀ i, i < 22 → f i = some (ea i)) (hTE : ∀ i, i < 22 → ((ea i, .inr (3, fs i)) : Nat × va_E) ∈ TT)  : Met l yJx4a65c_grow_92f84 (wq (.code yJx4a65c_grow_92f84 cJx4a65c_grow_92f84 4 (some (.array (.object "java/lang/Object"))))) { frames := 3, cells := 1, slots := 33, locals := 74 } (va_Pc [.ref h, .int 23] (PcB D dA E (HAppend.hAppend (α := va_W) (β := va_W) (γ := va_W) [(h, .inr (2, [.int md, .ref ar, .int 22])), (ar, .inl (dA 5, 22, .inr (.inr (.inr (.inr f)))))] TT) sz)) (va_Qr (fun (u : Unit) => True) (fun u ra t => va_P D vwCl (HAppend.hAppend (α := va_W) (β := va_W) (γ := va_W) [(h, .inr (2, [.int md, .ref ra, .int 22])), (ra, .inl (dA 5, 33, .inr (.inr (.inr (.inr (va_cpy f (fun _ => none) 0 0 22))))))] TT) t.heap ∧ va_D (va_A (HAppend.hAppend (α := va_W) (β := va_W) (γ := va_W) [(h, .inr (2, [.int md, .ref ar, .int 22])), (ar, .inl (dA 5, 22, .inr (.inr (.inr (.inr f)))))] TT) sz) (HAppend.hAppend (α := va_W) (β := va_W) (γ := va_W) [(h, .inr (2, [.int md, .ref ra, .int 22])), (ra, .inl (dA 5, 33, .inr (.inr (.inr (.inr (va_cpy f (fun _ => none) 0 0 22))))))] TT)) (va_A (HAppend.hAppend (α := va_W) (β := va_W) (γ := va_W) [(h, .inr (2, [.int md, .ref ar, .int 22])), (ar, .inl (dA 5, 22, .inr (.inr (.inr (.inr f)))))] TT) sz)) 1 33 (va_A (HAppend.hAppend (α := va_W) (β := va_W) (γ := va_W) [(h, .inr (2, [.int md, .ref ar, .int 22])), (ar, .inl (dA 5, 22, .inr (.inr (.inr (.inr f)))))] TT) sz) := by
  refine mb_of (y := yJx4a65c_grow_92f84) (av := [.ref h, .int 23]) (maxL := 4) (Qc := fun A => va_Qr (fun (u : Unit) => True) (fun u ra t => va_P D vwCl (HAppend.hAppend (α := va_W) (β := va_W) (γ := va_W) [(h, .inr (2, [.int md, .ref ra, .int 22])), (ra, .inl (dA 5, 33, .inr (.inr (.inr (.inr (va_cpy f (fun _ => none) 0 0 22))))))] TT) t.heap ∧ va_D A (HAppend.hAppend (α := va_W) (β := va_W) (γ := va_W) [(h, .inr (2, [.int md, .ref ra, .int 22])), (ra, .inl (dA 5, 33, .inr (.inr (.inr (.inr (va_cpy f (fun _ => none) 0 0 22))))))] TT)) A) RJx4a65c rfl (by decide) (Nat.le_of_ble_eq_true rfl) ?_
  intro p e s m args below meth c hae hx hb hr hts hown hlocks hml hnm hP hK A hAe hD hZ hS hA ls hl
  replace hl : lv_has ls 4 [(0, .ref h), (1, .int 23)] := hl
  refine lv_aload_n hx hb dJx4a65c_grow_92f84_0 rfl (lv_at hl 0 rfl) ?_
  refine va_get (D := D) (ci := 2) (v := .ref ar) (C := RJx4a65c) (T := TJx4a65c) (N := 3) hx hb hts inAJx4a65c hown hK hP 0 rfl rfl 1 (by decide) (hts _ q275) (fun _ h9 => h9) rfl dJx4a65c_grow_92f84_1 ?_
  refine va_alen hx hb hK hP 1 5 rfl rfl (v := 22) (show Int32.ofNat 22 = 22 by decide) dJx4a65c_grow_92f84_4 ?_
  refine lv_istore_n (lv' := [(2, .int 22), (0, .ref h), (1, .int 23)]) hx hb dJx4a65c_grow_92f84_5 rfl hl (by decide) rfl (fun ls hl => ?_)
  refine lv_iload_n hx hb dJx4a65c_grow_92f84_6 rfl (lv_at hl 0 rfl) ?_
  refine lv_if_gt (tgt := 20) hx hb dJx4a65c_grow_92f84_7 (by decide) (fun _ => ?_) (fun c1 => absurd (by decide) c1)
  refine lv_iload_n hx hb dJx4a65c_grow_92f84_20 rfl (lv_at hl 0 rfl) ?_
  refine lv_iload_n hx hb dJx4a65c_grow_92f84_21 rfl (lv_at hl 2 rfl) ?_
  refine lv_iload_n hx hb dJx4a65c_grow_92f84_22 rfl (lv_at hl 0 rfl) ?_
  refine lv_isub hx hb dJx4a65c_grow_92f84_23 ?_
  refine lv_topi (fun x2 ex2 => ?_)
  replace ex2 : x2 = 1 := ex2.trans (by decide)
  subst ex2
  refine lv_iload_n hx hb dJx4a65c_grow_92f84_24 rfl (lv_at hl 0 rfl) ?_
  refine lv_iconst (v := 1) hx hb dJx4a65c_grow_92f84_25 (by decide) ?_
  refine lv_ishr hx hb dJx4a65c_grow_92f84_26 ?_
  refine lv_topi (fun x3 ex3 => ?_)
  obtain rfl : x3 = 11 := ex3.trans (by decide)
  replace hPc := hP.sub (ws' := []) [] rfl
  replace hDc := hD.sub (ws' := []) [] (by decide) rfl
  replace hFc := va_free (wc := []) hD hS hA [] rfl
  refine va_calli (va_runS (As := [.int 22, .int 1, .int 11]) (rest := []) ⟨hx, hb, hml, hown, hts⟩ (l_newLength_22 l D dA E  s.heap.size ) (va_cwS 3 hts (ga_S q392 q393 q394 q391) rfl rfl rfl (by decide +kernel) ⟨(Nat.le_of_ble_eq_true rfl), (Nat.le_of_ble_eq_true rfl)⟩) ⟨pb_blind, pb_pre hK hPc hDc hZ hS hFc _⟩ rfl rfl hl.1 rfl (lv_room (Nat.le_of_ble_eq_true rfl)) dJx4a65c_grow_92f84_27 ⟨(Nat.le_of_ble_eq_true rfl), (Nat.le_of_ble_eq_true rfl)⟩) hS (fun q _ h => hFc q h) hFc (fun r u t H1 locs ht hvm hw hB hz1 hk1 hS => ?_)
  refine W.widen (k := 0) (n := 0) (Nat.le_of_ble_eq_true rfl) (Nat.le_of_ble_eq_true rfl) ?_
  obtain ⟨r4, rfl⟩ : ∃ z, z = r := ⟨_, rfl⟩
  obtain ⟨u5, rfl⟩ : ∃ z, z = u := ⟨_, rfl⟩
  have hw6 := hw
  clear hw
  obtain ⟨hP1, hD1⟩ := hB
  rw [ht] at hP1
  obtain ⟨hP, hD⟩ := va_joinQ (X := [(h, .inr (2, [.int md, .ref ar, .int 22])), (ar, .inl (dA 5, 22, .inr (.inr (.inr (.inr f)))))]) (cx := []) (wr := [(h, .inr (2, [.int md, .ref ar, .int 22])), (ar, .inl (dA 5, 22, .inr (.inr (.inr (.inr f)))))]) (w1 := []) (pl := TT) hP hD [] [0, 1] rfl rfl (by decide) (by decide) hk1 hFc hP1 hD1
  generalize H1 = H at hP hS ⊢
  replace hP : va_P D vwCl (HAppend.hAppend (α := va_W) (β := va_W) (γ := va_W) [(h, .inr (2, [.int md, .ref ar, .int 22])), (ar, .inl (dA 5, 22, .inr (.inr (.inr (.inr f)))))] TT) H := hP
  replace hD : va_D A (HAppend.hAppend (α := va_W) (β := va_W) (γ := va_W) [(h, .inr (2, [.int md, .ref ar, .int 22])), (ar, .inl (dA 5, 22, .inr (.inr (.inr (.inr f)))))] TT) := hD
  obtain rfl : r4 = 33 := hw6
  refine lv_istore_n (lv' := [(3, .int 33), (2, .int 22), (0, .ref h), (1, .int 23)]) hx hb dJx4a65c_grow_92f84_30 rfl hl (by decide) rfl (fun ls hl => ?_)
  refine lv_aload_n hx hb dJx4a65c_grow_92f84_31 rfl (lv_at hl 2 rfl) ?_
  refine lv_aload_n hx hb dJx4a65c_grow_92f84_32 rfl (lv_at hl 2 rfl) ?_
  refine va_get (D := D) (ci := 2) (v := .ref ar) (C := RJx4a65c) (T := TJx4a65c) (N := 3) hx hb hts inAJx4a65c hown hK hP 0 rfl rfl 1 (by decide) (hts _ q275) (fun _ h9 => h9) rfl dJx4a65c_grow_92f84_33 ?_
  refine lv_iload_n hx hb dJx4a65c_grow_92f84_36 rfl (lv_at hl 0 rfl) ?_
  replace hPc := va_P.part (X := [(h, .inr (2, [.int md, .ref ar, .int 22])), (ar, .inl (dA 5, 22, .inr (.inr (.inr (.inr f)))))]) (cx := [(ar, .inl (dA 5, 22, .inr (.inr (.inr (.inr f)))))]) (pl := TT) hP [1] rfl
  replace hDc := va_D.part (X := [(h, .inr (2, [.int md, .ref ar, .int 22])), (ar, .inl (dA 5, 22, .inr (.inr (.inr (.inr f)))))]) (cx := [(ar, .inl (dA 5, 22, .inr (.inr (.inr (.inr f)))))]) (pl := TT) hD [1] (by decide) rfl
  replace hFc := va_freeP (X := [(h, .inr (2, [.int md, .ref ar, .int 22])), (ar, .inl (dA 5, 22, .inr (.inr (.inr (.inr f)))))]) (cx := [(ar, .inl (dA 5, 22, .inr (.inr (.inr (.inr f)))))]) (pl := TT) hD hS hA [1] rfl
  refine va_callr (va_runS (As := [.ref ar, .int 33]) (rest := [.ref h]) ⟨hx, hb, hml, hown, hts⟩ (l_copy2_3_22 l D dA E ar f TT ea fs H.size  hf hTE) (va_cwS 2 hts (ga_S q396 q397 q390 q395) rfl rfl rfl (by decide +kernel) ⟨(Nat.le_of_ble_eq_true rfl), (Nat.le_of_ble_eq_true rfl)⟩) ⟨pb_blind, pb_pre hK hPc hDc hZ hS hFc _⟩ rfl rfl hl.1 rfl (lv_room (Nat.le_of_ble_eq_true rfl)) dJx4a65c_grow_92f84_37 ⟨(Nat.le_of_ble_eq_true rfl), (Nat.le_of_ble_eq_true rfl)⟩) hS (fun q _ h => hFc q h) hFc (fun u ra t H1 locs ht hvm hw hB hz1 hk1 hS => ?_)
  refine W.widen (k := 1) (n := 33) (Nat.le_of_ble_eq_true rfl) (Nat.le_of_ble_eq_true rfl) ?_
  obtain ⟨q7, rfl⟩ : ∃ z, z = ra := ⟨_, rfl⟩
  obtain ⟨u8, rfl⟩ : ∃ z, z = u := ⟨_, rfl⟩
  have hw9 := hw
  clear hw
  obtain ⟨hP1, hD1⟩ := hB
  rw [ht] at hP1
  obtain ⟨hP, hD⟩ := va_joinP (X := [(h, .inr (2, [.int md, .ref ar, .int 22])), (ar, .inl (dA 5, 22, .inr (.inr (.inr (.inr f)))))]) (cx := [(ar, .inl (dA 5, 22, .inr (.inr (.inr (.inr f)))))]) (wr := [(h, .inr (2, [.int md, .ref ar, .int 22]))]) (rx := [(q7, .inl (dA 5, 33, .inr (.inr (.inr (.inr (va_cpy f (fun _ => none) 0 0 22))))))]) (pl := TT) (pl1 := TT) hP hD [1] [0] rfl rfl (by decide) (by decide) hk1 hFc hP1 hD1
  generalize H1 = H at hP hS ⊢
  replace hP : va_P D vwCl (HAppend.hAppend (α := va_W) (β := va_W) (γ := va_W) [(h, .inr (2, [.int md, .ref ar, .int 22])), (q7, .inl (dA 5, 33, .inr (.inr (.inr (.inr (va_cpy f (fun _ => none) 0 0 22))))))] TT) H := hP
  replace hD : va_D A (HAppend.hAppend (α := va_W) (β := va_W) (γ := va_W) [(h, .inr (2, [.int md, .ref ar, .int 22])), (q7, .inl (dA 5, 33, .inr (.inr (.inr (.inr (va_cpy f (fun _ => none) 0 0 22))))))] TT) := hD
  refine lv_dup_x1 hx hb dJx4a65c_grow_92f84_40 rfl rfl ?_
  refine va_put (D := D) (ci := 2) (v := .ref q7) (ty := .array (.object "java/lang/Object")) (C := RJx4a65c) (T := TJx4a65c) (N := 3) hx hb hts inAJx4a65c tyJx4a65c tyJx4a65c_ok nmJx4a65c hown hK hP hD hS 0 rfl rfl 1 (by decide) (hts _ q275) (fun _ h9 => h9) rfl (tyJx4a65c_ok 1 (by decide)) rfl rfl (Nat.le_of_ble_eq_true rfl) dJx4a65c_grow_92f84_41 (fun H locs hP hD hS => ?_)
  replace hP : va_P D vwCl (HAppend.hAppend (α := va_W) (β := va_W) (γ := va_W) [(h, .inr (2, [.int md, .ref q7, .int 22])), (q7, .inl (dA 5, 33, .inr (.inr (.inr (.inr (va_cpy f (fun _ => none) 0 0 22))))))] TT) H := hP
  replace hD : va_D A (HAppend.hAppend (α := va_W) (β := va_W) (γ := va_W) [(h, .inr (2, [.int md, .ref q7, .int 22])), (q7, .inl (dA 5, 33, .inr (.inr (.inr (.inr (va_cpy f (fun _ => none) 0 0 22))))))] TT) := hD
  refine W.widen (k := 1) (n := 33) (Nat.le_of_ble_eq_true rfl) (Nat.le_of_ble_eq_true rfl) ?_
  have hP9 := va_P.part (X := [(h, .inr (2, [.int md, .ref q7, .int 22])), (q7, .inl (dA 5, 33, .inr (.inr (.inr (.inr (va_cpy f (fun _ => none) 0 0 22))))))]) (cx := [(h, .inr (2, [.int md, .ref q7, .int 22])), (q7, .inl (dA 5, 33, .inr (.inr (.inr (.inr (va_cpy f (fun _ => none) 0 0 22))))))]) (pl := TT) hP [0, 1] rfl
  have hD9 := va_D.part (X := [(h, .inr (2, [.int md, .ref q7, .int 22])), (q7, .inl (dA 5, 33, .inr (.inr (.inr (.inr (va_cpy f (fun _ => none) 0 0 22))))))]) (cx := [(h, .inr (2, [.int md, .ref q7, .int 22])), (q7, .inl (dA 5, 33, .inr (.inr (.inr (.inr (va_cpy f (fun _ => none) 0 0 22))))))]) (pl := TT) hD [0, 1] (by decide) rfl
  exact W.aret (v := .ref q7) hx hb hr (Or.inr ⟨_, rfl⟩) (Or.inr ⟨_, rfl⟩) (fun t ht hW => ⟨⟨(), q7, rfl, trivial, ⟨by rw [ht]; exact hP9, hD9⟩⟩, hS.F ht⟩) hS.2.2 dJx4a65c_grow_92f84_44
