/-! CONTRACTS, general -/
set_option maxHeartbeats 4000000 in
set_option maxRecDepth 100000 in
theorem l_fastRemove (l : Launch) (D : va_G) (dA : Nat → ClassId) (E : Nat) (h ar n1 cap k : Nat) (md : Int32) (f : Nat → Option Nat) (TT : va_W) (ea : Nat → Nat) (fs : Nat → List Value) (sz : Nat) (hn : n1 < cap) (hcap : cap ≤ 60) (hk : k < n1 + 1) (hf : ∀ i, i < n1 + 1 → f i = some (ea i)) (hTE : ∀ i, i < n1 + 1 → ((ea i, .inr (10, fs i)) : Nat × va_E) ∈ TT)  : Met l yJx4a65c_fastRemove_b59b0 (wq (.code yJx4a65c_fastRemove_b59b0 cJx4a65c_fastRemove_b59b0 4 none)) { frames := 1, cells := 0, slots := 0, locals := 30 } (va_Pc [.ref h, .ref ar, .int (nI k)] (PcB D dA E (HAppend.hAppend (α := va_W) (β := va_W) (γ := va_W) [(h, .inr (2, [.int md, .ref ar, .int (nI (n1 + 1))])), (ar, .inl (dA 5, cap, .inr (.inr (.inr (.inr f)))))] TT) sz)) (va_Qv (fun (u : Nat → Option Nat) => ∀ i, i < n1 → u i = some (rmA ea k i)) (fun u t => va_P D vwCl (HAppend.hAppend (α := va_W) (β := va_W) (γ := va_W) [(h, .inr (2, [.int (md + 1), .ref ar, .int (nI n1)])), (ar, .inl (dA 5, cap, .inr (.inr (.inr (.inr u)))))] TT) t.heap ∧ va_D (va_A (HAppend.hAppend (α := va_W) (β := va_W) (γ := va_W) [(h, .inr (2, [.int md, .ref ar, .int (nI (n1 + 1))])), (ar, .inl (dA 5, cap, .inr (.inr (.inr (.inr f)))))] TT) sz) (HAppend.hAppend (α := va_W) (β := va_W) (γ := va_W) [(h, .inr (2, [.int (md + 1), .ref ar, .int (nI n1)])), (ar, .inl (dA 5, cap, .inr (.inr (.inr (.inr u)))))] TT)) (va_A (HAppend.hAppend (α := va_W) (β := va_W) (γ := va_W) [(h, .inr (2, [.int md, .ref ar, .int (nI (n1 + 1))])), (ar, .inl (dA 5, cap, .inr (.inr (.inr (.inr f)))))] TT) sz)) 0 0 (va_A (HAppend.hAppend (α := va_W) (β := va_W) (γ := va_W) [(h, .inr (2, [.int md, .ref ar, .int (nI (n1 + 1))])), (ar, .inl (dA 5, cap, .inr (.inr (.inr (.inr f)))))] TT) sz) := by
  refine mb_of (y := yJx4a65c_fastRemove_b59b0) (av := [.ref h, .ref ar, .int (nI k)]) (maxL := 4) (Qc := fun A => va_Qv (fun (u : Nat → Option Nat) => ∀ i, i < n1 → u i = some (rmA ea k i)) (fun u t => va_P D vwCl (HAppend.hAppend (α := va_W) (β := va_W) (γ := va_W) [(h, .inr (2, [.int (md + 1), .ref ar, .int (nI n1)])), (ar, .inl (dA 5, cap, .inr (.inr (.inr (.inr u)))))] TT) t.heap ∧ va_D A (HAppend.hAppend (α := va_W) (β := va_W) (γ := va_W) [(h, .inr (2, [.int (md + 1), .ref ar, .int (nI n1)])), (ar, .inl (dA 5, cap, .inr (.inr (.inr (.inr u)))))] TT)) A) RJx4a65c rfl (by decide) (Nat.le_of_ble_eq_true rfl) ?_
  intro p e s m args below meth c hae hx hb hr hts hown hlocks hml hnm hP hK A hAe hD hZ hS hA ls hl
  replace hl : lv_has ls 4 [(0, .ref h), (1, .ref ar), (2, .int (nI k))] := hl
  refine lv_aload_n hx hb dJx4a65c_fastRemove_b59b0_0 rfl (lv_at hl 0 rfl) ?_
  refine lv_dup hx hb dJx4a65c_fastRemove_b59b0_1 rfl ?_
  refine va_get (D := D) (ci := 2) (v := .int md) (C := RJx4a65c) (T := TJx4a65c) (N := 3) hx hb hts inAJx4a65c hown hK hP 0 rfl rfl 0 (by decide) (hts _ q361) (u_same (hts _ q362)) rfl dJx4a65c_fastRemove_b59b0_2 ?_
  refine lv_iconst (v := 1) hx hb dJx4a65c_fastRemove_b59b0_5 (by decide) ?_
  refine lv_iadd hx hb dJx4a65c_fastRemove_b59b0_6 ?_
  refine va_put (D := D) (ci := 2) (v := .int (md + 1)) (ty := .int) (C := RJx4a65c) (T := TJx4a65c) (N := 3) hx hb hts inAJx4a65c tyJx4a65c tyJx4a65c_ok nmJx4a65c hown hK hP hD hS 0 rfl rfl 0 (by decide) (hts _ q361) (u_same (hts _ q362)) rfl (tyJx4a65c_ok 0 (by decide)) rfl rfl (Nat.le_of_ble_eq_true rfl) dJx4a65c_fastRemove_b59b0_7 (fun H locs hP hD hS => ?_)
  replace hP : va_P D vwCl (HAppend.hAppend (α := va_W) (β := va_W) (γ := va_W) [(h, .inr (2, [.int (md + 1), .ref ar, .int (nI (n1 + 1))])), (ar, .inl (dA 5, cap, .inr (.inr (.inr (.inr f)))))] TT) H := hP
  replace hD : va_D A (HAppend.hAppend (α := va_W) (β := va_W) (γ := va_W) [(h, .inr (2, [.int (md + 1), .ref ar, .int (nI (n1 + 1))])), (ar, .inl (dA 5, cap, .inr (.inr (.inr (.inr f)))))] TT) := hD
  refine lv_aload_n hx hb dJx4a65c_fastRemove_b59b0_10 rfl (lv_at hl 0 rfl) ?_
  refine va_get (D := D) (ci := 2) (v := .int (nI (n1 + 1))) (C := RJx4a65c) (T := TJx4a65c) (N := 3) hx hb hts inAJx4a65c hown hK hP 0 rfl rfl 2 (by decide) (hts _ q348) (fun _ h9 => h9) rfl dJx4a65c_fastRemove_b59b0_11 ?_
  refine lv_iconst (v := 1) hx hb dJx4a65c_fastRemove_b59b0_14 (by decide) ?_
  refine lv_isub hx hb dJx4a65c_fastRemove_b59b0_15 ?_
  refine lv_topi (fun x1 ex1 => ?_)
  obtain rfl : x1 = nI n1 := ex1.trans (nI_pred n1)
  refine lv_dup hx hb dJx4a65c_fastRemove_b59b0_16 rfl ?_
  refine lv_istore_n (lv' := [(3, .int (nI n1)), (0, .ref h), (1, .ref ar), (2, .int (nI k))]) hx hb dJx4a65c_fastRemove_b59b0_17 rfl hl (by decide) rfl (fun ls hl => ?_)
  refine lv_iload_n hx hb dJx4a65c_fastRemove_b59b0_18 rfl (lv_at hl 3 rfl) ?_
  refine lv_icmp_le (tgt := 34) hx hb dJx4a65c_fastRemove_b59b0_19 (by decide) (fun c2 => ?_) (fun c2 => ?_)
  · replace c2 := (nI_leI (a := n1) (b := k) (by omega) (by omega)).mp c2
    refine lv_aload_n hx hb dJx4a65c_fastRemove_b59b0_34 rfl (lv_at hl 2 rfl) ?_
    refine lv_aload_n hx hb dJx4a65c_fastRemove_b59b0_35 rfl (lv_at hl 1 rfl) ?_
    refine lv_iload_n hx hb dJx4a65c_fastRemove_b59b0_36 rfl (lv_at hl 0 rfl) ?_
    refine lv_dup_x1 hx hb dJx4a65c_fastRemove_b59b0_37 rfl rfl ?_
    refine va_put (D := D) (ci := 2) (v := .int (nI n1)) (ty := .int) (C := RJx4a65c) (T := TJx4a65c) (N := 3) hx hb hts inAJx4a65c tyJx4a65c tyJx4a65c_ok nmJx4a65c hown hK hP hD hS 0 rfl rfl 2 (by decide) (hts _ q348) (fun _ h9 => h9) rfl (tyJx4a65c_ok 2 (by decide)) rfl rfl (Nat.le_of_ble_eq_true rfl) dJx4a65c_fastRemove_b59b0_38 (fun H locs hP hD hS => ?_)
    replace hP : va_P D vwCl (HAppend.hAppend (α := va_W) (β := va_W) (γ := va_W) [(h, .inr (2, [.int (md + 1), .ref ar, .int (nI n1)])), (ar, .inl (dA 5, cap, .inr (.inr (.inr (.inr f)))))] TT) H := hP
    replace hD : va_D A (HAppend.hAppend (α := va_W) (β := va_W) (γ := va_W) [(h, .inr (2, [.int (md + 1), .ref ar, .int (nI n1)])), (ar, .inl (dA 5, cap, .inr (.inr (.inr (.inr f)))))] TT) := hD
    refine lv_null hx hb dJx4a65c_fastRemove_b59b0_41 ?_
    refine va_astqN hx hb hK hP hD hS 1 5 rfl rfl (vp_in_nI (n := n1) (by omega) (by omega)) dJx4a65c_fastRemove_b59b0_42 (fun H locs hP hD hS => ?_)
    rw [nI_clamp (n := n1) (by omega)] at hP hD
    replace hP : va_P D vwCl (HAppend.hAppend (α := va_W) (β := va_W) (γ := va_W) [(h, .inr (2, [.int (md + 1), .ref ar, .int (nI n1)])), (ar, .inl (dA 5, cap, .inr (.inr (.inr (.inr (va_up f n1 none))))))] TT) H := hP
    replace hD : va_D A (HAppend.hAppend (α := va_W) (β := va_W) (γ := va_W) [(h, .inr (2, [.int (md + 1), .ref ar, .int (nI n1)])), (ar, .inl (dA 5, cap, .inr (.inr (.inr (.inr (va_up f n1 none))))))] TT) := hD
    refine W.widen (k := 0) (n := 0) (Nat.le_of_ble_eq_true rfl) (Nat.le_of_ble_eq_true rfl) ?_
    have hP9 := va_P.part (X := [(h, .inr (2, [.int (md + 1), .ref ar, .int (nI n1)])), (ar, .inl (dA 5, cap, .inr (.inr (.inr (.inr (va_up f n1 none))))))]) (cx := [(h, .inr (2, [.int (md + 1), .ref ar, .int (nI n1)])), (ar, .inl (dA 5, cap, .inr (.inr (.inr (.inr (va_up f n1 none))))))]) (pl := TT) hP [0, 1] rfl
    have hD9 := va_D.part (X := [(h, .inr (2, [.int (md + 1), .ref ar, .int (nI n1)])), (ar, .inl (dA 5, cap, .inr (.inr (.inr (.inr (va_up f n1 none))))))]) (cx := [(h, .inr (2, [.int (md + 1), .ref ar, .int (nI n1)])), (ar, .inl (dA 5, cap, .inr (.inr (.inr (.inr (va_up f n1 none))))))]) (pl := TT) hD [0, 1] (by decide) rfl
    exact W.vret hx hb hr (fun t ht hW => ⟨⟨va_up f n1 none, rfl, (rm_1 hf (by omega)), ⟨by rw [ht]; exact hP9, hD9⟩⟩, hS.F ht⟩) hS.2.2 dJx4a65c_fastRemove_b59b0_43
  · replace c2 := mt (nI_leI (a := n1) (b := k) (by omega) (by omega)).mpr c2
    refine lv_aload_n hx hb dJx4a65c_fastRemove_b59b0_22 rfl (lv_at hl 2 rfl) ?_
    refine lv_iload_n hx hb dJx4a65c_fastRemove_b59b0_23 rfl (lv_at hl 3 rfl) ?_
    refine lv_iconst (v := 1) hx hb dJx4a65c_fastRemove_b59b0_24 (by decide) ?_
    refine lv_iadd hx hb dJx4a65c_fastRemove_b59b0_25 ?_
    refine lv_topi (fun x3 ex3 => ?_)
    obtain rfl : x3 = nI (k + 1) := ex3.trans (nI_add k 1)
    refine lv_aload_n hx hb dJx4a65c_fastRemove_b59b0_26 rfl (lv_at hl 2 rfl) ?_
    refine lv_iload_n hx hb dJx4a65c_fastRemove_b59b0_27 rfl (lv_at hl 3 rfl) ?_
    refine lv_iload_n hx hb dJx4a65c_fastRemove_b59b0_28 rfl (lv_at hl 0 rfl) ?_
    refine lv_iload_n hx hb dJx4a65c_fastRemove_b59b0_29 rfl (lv_at hl 3 rfl) ?_
    refine lv_isub hx hb dJx4a65c_fastRemove_b59b0_30 ?_
    refine lv_topi (fun x4 ex4 => ?_)
    obtain rfl : x4 = nI (n1 - k) := ex4.trans (pk_sub (a := n1) (b := k) (by omega))
    refine va_copyM hx hb (hml.trans hl.1.symm) hown (hts _ q406) (hts _ q380) (hts _ q381) (hts _ q382) hK hP hD hS 1 1 5 5 rfl rfl rfl rfl (nI_pos (n := (k + 1)) (by omega)) (nI_pos (n := k) (by omega)) (nI_pos (n := (n1 - k)) (by omega)) (by rw [nI_clamp (n := (k + 1)) (by omega), nI_clamp (n := (n1 - k)) (by omega)]; omega) (by rw [nI_clamp (n := k) (by omega), nI_clamp (n := (n1 - k)) (by omega)]; omega) (by rw [nI_clamp (n := (k + 1)) (by omega), nI_clamp (n := (n1 - k)) (by omega)]; exact (fun i hi y hy => by obtain rfl := Option.some.inj ((hf _ (by omega)).symm.trans hy); exact tt_any (r := (RX7, TX7, 3)) hK hP (hTE _ (by omega)) rfl (znC_20 hZ.1))) (Nat.le_of_ble_eq_true rfl) (Nat.le_of_ble_eq_true rfl) dJx4a65c_fastRemove_b59b0_31 (fun H locs hP hD hS => ?_)
    rw [nI_clamp (n := (k + 1)) (by omega), nI_clamp (n := k) (by omega), nI_clamp (n := (n1 - k)) (by omega)] at hP hD
    replace hP : va_P D vwCl (HAppend.hAppend (α := va_W) (β := va_W) (γ := va_W) [(h, .inr (2, [.int (md + 1), .ref ar, .int (nI (n1 + 1))])), (ar, .inl (dA 5, cap, .inr (.inr (.inr (.inr (va_cpy f f (k + 1) k (n1 - k)))))))] TT) H := hP
    replace hD : va_D A (HAppend.hAppend (α := va_W) (β := va_W) (γ := va_W) [(h, .inr (2, [.int (md + 1), .ref ar, .int (nI (n1 + 1))])), (ar, .inl (dA 5, cap, .inr (.inr (.inr (.inr (va_cpy f f (k + 1) k (n1 - k)))))))] TT) := hD
    refine lv_aload_n hx hb dJx4a65c_fastRemove_b59b0_34 rfl (lv_at hl 2 rfl) ?_
    refine lv_aload_n hx hb dJx4a65c_fastRemove_b59b0_35 rfl (lv_at hl 1 rfl) ?_
    refine lv_iload_n hx hb dJx4a65c_fastRemove_b59b0_36 rfl (lv_at hl 0 rfl) ?_
    refine lv_dup_x1 hx hb dJx4a65c_fastRemove_b59b0_37 rfl rfl ?_
    refine va_put (D := D) (ci := 2) (v := .int (nI n1)) (ty := .int) (C := RJx4a65c) (T := TJx4a65c) (N := 3) hx hb hts inAJx4a65c tyJx4a65c tyJx4a65c_ok nmJx4a65c hown hK hP hD hS 0 rfl rfl 2 (by decide) (hts _ q348) (fun _ h9 => h9) rfl (tyJx4a65c_ok 2 (by decide)) rfl rfl (Nat.le_of_ble_eq_true rfl) dJx4a65c_fastRemove_b59b0_38 (fun H locs hP hD hS => ?_)
    replace hP : va_P D vwCl (HAppend.hAppend (α := va_W) (β := va_W) (γ := va_W) [(h, .inr (2, [.int (md + 1), .ref ar, .int (nI n1)])), (ar, .inl (dA 5, cap, .inr (.inr (.inr (.inr (va_cpy f f (k + 1) k (n1 - k)))))))] TT) H := hP
    replace hD : va_D A (HAppend.hAppend (α := va_W) (β := va_W) (γ := va_W) [(h, .inr (2, [.int (md + 1), .ref ar, .int (nI n1)])), (ar, .inl (dA 5, cap, .inr (.inr (.inr (.inr (va_cpy f f (k + 1) k (n1 - k)))))))] TT) := hD
    refine lv_null hx hb dJx4a65c_fastRemove_b59b0_41 ?_
    refine va_astqN hx hb hK hP hD hS 1 5 rfl rfl (vp_in_nI (n := n1) (by omega) (by omega)) dJx4a65c_fastRemove_b59b0_42 (fun H locs hP hD hS => ?_)
    rw [nI_clamp (n := n1) (by omega)] at hP hD
    replace hP : va_P D vwCl (HAppend.hAppend (α := va_W) (β := va_W) (γ := va_W) [(h, .inr (2, [.int (md + 1), .ref ar, .int (nI n1)])), (ar, .inl (dA 5, cap, .inr (.inr (.inr (.inr (va_up (va_cpy f f (k + 1) k (n1 - k)) n1 none))))))] TT) H := hP
    replace hD : va_D A (HAppend.hAppend (α := va_W) (β := va_W) (γ := va_W) [(h, .inr (2, [.int (md + 1), .ref ar, .int (nI n1)])), (ar, .inl (dA 5, cap, .inr (.inr (.inr (.inr (va_up (va_cpy f f (k + 1) k (n1 - k)) n1 none))))))] TT) := hD
    refine W.widen (k := 0) (n := 0) (Nat.le_of_ble_eq_true rfl) (Nat.le_of_ble_eq_true rfl) ?_
    have hP9 := va_P.part (X := [(h, .inr (2, [.int (md + 1), .ref ar, .int (nI n1)])), (ar, .inl (dA 5, cap, .inr (.inr (.inr (.inr (va_up (va_cpy f f (k + 1) k (n1 - k)) n1 none))))))]) (cx := [(h, .inr (2, [.int (md + 1), .ref ar, .int (nI n1)])), (ar, .inl (dA 5, cap, .inr (.inr (.inr (.inr (va_up (va_cpy f f (k + 1) k (n1 - k)) n1 none))))))]) (pl := TT) hP [0, 1] rfl
    have hD9 := va_D.part (X := [(h, .inr (2, [.int (md + 1), .ref ar, .int (nI n1)])), (ar, .inl (dA 5, cap, .inr (.inr (.inr (.inr (va_up (va_cpy f f (k + 1) k (n1 - k)) n1 none))))))]) (cx := [(h, .inr (2, [.int (md + 1), .ref ar, .int (nI n1)])), (ar, .inl (dA 5, cap, .inr (.inr (.inr (.inr (va_up (va_cpy f f (k + 1) k (n1 - k)) n1 none))))))]) (pl := TT) hD [0, 1] (by decide) rfl
    exact W.vret hx hb hr (fun t ht hW => ⟨⟨va_up (va_cpy f f (k + 1) k (n1 - k)) n1 none, rfl, (rm_2 hf (by omega)), ⟨by rw [ht]; exact hP9, hD9⟩⟩, hS.F ht⟩) hS.2.2 dJx4a65c_fastRemove_b59b0_43

set_option maxHeartbeats 4000000 in
set_option maxRecDepth 100000 in
theorem l_remove (l : Launch) (D : va_G) (dA : Nat → ClassId) (E : Nat) (h ar n1 cap k : Nat) (md : Int32) (f : Nat → Option Nat) (TT : va_W) (ea : Nat → Nat) (fs : Nat → List Value) (sz : Nat) (hn : n1 < cap) (hcap : cap ≤ 60) (hk : k < n1 + 1) (hf : ∀ i, i < n1 + 1 → f i = some (ea i)) (hTE : ∀ i, i < n1 + 1 → ((ea i, .inr (10, fs i)) : Nat × va_E) ∈ TT)  : Met l yJx4a65c_remove_915e3 (wq (.code yJx4a65c_remove_915e3 cJx4a65c_remove_915e3 4 (some (.object "java/lang/Object")))) { frames := 2, cells := 0, slots := 0, locals := 53 } (va_Pc [.ref h, .int (nI k)] (PcB D dA E (HAppend.hAppend (α := va_W) (β := va_W) (γ := va_W) [(h, .inr (2, [.int md, .ref ar, .int (nI (n1 + 1))])), (ar, .inl (dA 5, cap, .inr (.inr (.inr (.inr f)))))] TT) sz)) (va_Qr (fun (u : Nat → Option Nat) => ∀ i, i < n1 → u i = some (rmA ea k i)) (fun u ra t => ra = ea k ∧ va_P D vwCl (HAppend.hAppend (α := va_W) (β := va_W) (γ := va_W) [(h, .inr (2, [.int (md + 1), .ref ar, .int (nI n1)])), (ar, .inl (dA 5, cap, .inr (.inr (.inr (.inr u)))))] TT) t.heap ∧ va_D (va_A (HAppend.hAppend (α := va_W) (β := va_W) (γ := va_W) [(h, .inr (2, [.int md, .ref ar, .int (nI (n1 + 1))])), (ar, .inl (dA 5, cap, .inr (.inr (.inr (.inr f)))))] TT) sz) (HAppend.hAppend (α := va_W) (β := va_W) (γ := va_W) [(h, .inr (2, [.int (md + 1), .ref ar, .int (nI n1)])), (ar, .inl (dA 5, cap, .inr (.inr (.inr (.inr u)))))] TT)) (va_A (HAppend.hAppend (α := va_W) (β := va_W) (γ := va_W) [(h, .inr (2, [.int md, .ref ar, .int (nI (n1 + 1))])), (ar, .inl (dA 5, cap, .inr (.inr (.inr (.inr f)))))] TT) sz)) 0 0 (va_A (HAppend.hAppend (α := va_W) (β := va_W) (γ := va_W) [(h, .inr (2, [.int md, .ref ar, .int (nI (n1 + 1))])), (ar, .inl (dA 5, cap, .inr (.inr (.inr (.inr f)))))] TT) sz) := by
  refine mb_of (y := yJx4a65c_remove_915e3) (av := [.ref h, .int (nI k)]) (maxL := 4) (Qc := fun A => va_Qr (fun (u : Nat → Option Nat) => ∀ i, i < n1 → u i = some (rmA ea k i)) (fun u ra t => ra = ea k ∧ va_P D vwCl (HAppend.hAppend (α := va_W) (β := va_W) (γ := va_W) [(h, .inr (2, [.int (md + 1), .ref ar, .int (nI n1)])), (ar, .inl (dA 5, cap, .inr (.inr (.inr (.inr u)))))] TT) t.heap ∧ va_D A (HAppend.hAppend (α := va_W) (β := va_W) (γ := va_W) [(h, .inr (2, [.int (md + 1), .ref ar, .int (nI n1)])), (ar, .inl (dA 5, cap, .inr (.inr (.inr (.inr u)))))] TT)) A) RJx4a65c rfl (by decide) (Nat.le_of_ble_eq_true rfl) ?_
  intro p e s m args below meth c hae hx hb hr hts hown hlocks hml hnm hP hK A hAe hD hZ hS hA ls hl
  replace hl : lv_has ls 4 [(0, .ref h), (1, .int (nI k))] := hl
  refine lv_iload_n hx hb dJx4a65c_remove_915e3_0 rfl (lv_at hl 1 rfl) ?_
  refine lv_aload_n hx hb dJx4a65c_remove_915e3_1 rfl (lv_at hl 0 rfl) ?_
  refine va_get (D := D) (ci := 2) (v := .int (nI (n1 + 1))) (C := RJx4a65c) (T := TJx4a65c) (N := 3) hx hb hts inAJx4a65c hown hK hP 0 rfl rfl 2 (by decide) (hts _ q348) (fun _ h9 => h9) rfl dJx4a65c_remove_915e3_2 ?_
  replace hPc := hP.sub (ws' := []) [] rfl
  replace hDc := hD.sub (ws' := []) [] (by decide) rfl
  replace hFc := va_free (wc := []) hD hS hA [] rfl
  refine va_calli (va_runS (As := [.int (nI k), .int (nI (n1 + 1))]) (rest := []) ⟨hx, hb, hml, hown, hts⟩ (l_objCheck l D dA E k (n1 + 1) s.heap.size  (by omega) (by omega)) (va_cwS 2 hts (ga_S q354 q355 q356 q353) rfl rfl rfl (by decide +kernel) ⟨(Nat.le_of_ble_eq_true rfl), (Nat.le_of_ble_eq_true rfl)⟩) ⟨pb_blind, pb_pre hK hPc hDc hZ hS hFc _⟩ rfl rfl hl.1 rfl (lv_room (Nat.le_of_ble_eq_true rfl)) dJx4a65c_remove_915e3_5 ⟨(Nat.le_of_ble_eq_true rfl), (Nat.le_of_ble_eq_true rfl)⟩) hS (fun q _ h => hFc q h) hFc (fun r u t H1 locs ht hvm hw hB hz1 hk1 hS => ?_)
  refine W.widen (k := 0) (n := 0) (Nat.le_of_ble_eq_true rfl) (Nat.le_of_ble_eq_true rfl) ?_
  obtain ⟨r1, rfl⟩ : ∃ z, z = r := ⟨_, rfl⟩
  obtain ⟨u2, rfl⟩ : ∃ z, z = u := ⟨_, rfl⟩
  have hw3 := hw
  clear hw
  obtain ⟨hP1, hD1⟩ := hB
  rw [ht] at hP1
  obtain ⟨hP, hD⟩ := va_joinQ (X := [(h, .inr (2, [.int md, .ref ar, .int (nI (n1 + 1))])), (ar, .inl (dA 5, cap, .inr (.inr (.inr (.inr f)))))]) (cx := []) (wr := [(h, .inr (2, [.int md, .ref ar, .int (nI (n1 + 1))])), (ar, .inl (dA 5, cap, .inr (.inr (.inr (.inr f)))))]) (w1 := []) (pl := TT) hP hD [] [0, 1] rfl rfl (by decide) (by decide) hk1 hFc hP1 hD1
  generalize H1 = H at hP hS ⊢
  replace hP : va_P D vwCl (HAppend.hAppend (α := va_W) (β := va_W) (γ := va_W) [(h, .inr (2, [.int md, .ref ar, .int (nI (n1 + 1))])), (ar, .inl (dA 5, cap, .inr (.inr (.inr (.inr f)))))] TT) H := hP
  replace hD : va_D A (HAppend.hAppend (α := va_W) (β := va_W) (γ := va_W) [(h, .inr (2, [.int md, .ref ar, .int (nI (n1 + 1))])), (ar, .inl (dA 5, cap, .inr (.inr (.inr (.inr f)))))] TT) := hD
  obtain rfl : r1 = nI k := hw3
  refine lv_pop hx hb dJx4a65c_remove_915e3_8 rfl ?_
  refine lv_aload_n hx hb dJx4a65c_remove_915e3_9 rfl (lv_at hl 0 rfl) ?_
  refine va_get (D := D) (ci := 2) (v := .ref ar) (C := RJx4a65c) (T := TJx4a65c) (N := 3) hx hb hts inAJx4a65c hown hK hP 0 rfl rfl 1 (by decide) (hts _ q275) (fun _ h9 => h9) rfl dJx4a65c_remove_915e3_10 ?_
  refine lv_astore_n (lv' := [(2, .ref ar), (0, .ref h), (1, .int (nI k))]) hx hb dJx4a65c_remove_915e3_13 rfl hl (by decide) rfl (fun ls hl => ?_)
  refine lv_aload_n hx hb dJx4a65c_remove_915e3_14 rfl (lv_at hl 0 rfl) ?_
  refine lv_iload_n hx hb dJx4a65c_remove_915e3_15 rfl (lv_at hl 2 rfl) ?_
  refine va_aldq hx hb hK hP 1 5 rfl rfl (vp_in_nI (n := k) (by omega) (by omega)) dJx4a65c_remove_915e3_16 ?_
  rw [nI_clamp (n := k) (by omega)]
  rw [hf k hk]
  refine W.eq (g2 := F0 m 17 ls [.ref (ea k)]) rfl ?_
  refine lv_astore_n (lv' := [(3, .ref (ea k)), (2, .ref ar), (0, .ref h), (1, .int (nI k))]) hx hb dJx4a65c_remove_915e3_17 rfl hl (by decide) rfl (fun ls hl => ?_)
  refine lv_aload_n hx hb dJx4a65c_remove_915e3_18 rfl (lv_at hl 2 rfl) ?_
  refine lv_aload_n hx hb dJx4a65c_remove_915e3_19 rfl (lv_at hl 1 rfl) ?_
  refine lv_iload_n hx hb dJx4a65c_remove_915e3_20 rfl (lv_at hl 3 rfl) ?_
  replace hPc := va_P.part (X := [(h, .inr (2, [.int md, .ref ar, .int (nI (n1 + 1))])), (ar, .inl (dA 5, cap, .inr (.inr (.inr (.inr f)))))]) (cx := [(h, .inr (2, [.int md, .ref ar, .int (nI (n1 + 1))])), (ar, .inl (dA 5, cap, .inr (.inr (.inr (.inr f)))))]) (pl := TT) hP [0, 1] rfl
  replace hDc := va_D.part (X := [(h, .inr (2, [.int md, .ref ar, .int (nI (n1 + 1))])), (ar, .inl (dA 5, cap, .inr (.inr (.inr (.inr f)))))]) (cx := [(h, .inr (2, [.int md, .ref ar, .int (nI (n1 + 1))])), (ar, .inl (dA 5, cap, .inr (.inr (.inr (.inr f)))))]) (pl := TT) hD [0, 1] (by decide) rfl
  replace hFc := va_freeP (X := [(h, .inr (2, [.int md, .ref ar, .int (nI (n1 + 1))])), (ar, .inl (dA 5, cap, .inr (.inr (.inr (.inr f)))))]) (cx := [(h, .inr (2, [.int md, .ref ar, .int (nI (n1 + 1))])), (ar, .inl (dA 5, cap, .inr (.inr (.inr (.inr f)))))]) (pl := TT) hD hS hA [0, 1] rfl
  refine va_callv (va_runV (As := [.ref ar, .int (nI k)]) (rest := []) ⟨hx, hb, hml, hown, hts⟩ (l_fastRemove l D dA E h ar n1 cap k md f TT ea fs H.size  hn hcap hk hf hTE) (cwV 2 hts (ga_V q409 q410 q407 q322 q408) rfl rfl rfl (by decide +kernel) ⟨(Nat.le_of_ble_eq_true rfl), (Nat.le_of_ble_eq_true rfl)⟩) ⟨pb_blind, va_recv hK hPc (ci := 2) (q0 := 0) rfl rfl, pb_pre hK hPc hDc hZ hS hFc _⟩ rfl rfl hl.1 rfl (lv_room (Nat.le_of_ble_eq_true rfl)) dJx4a65c_remove_915e3_21 ⟨(Nat.le_of_ble_eq_true rfl), (Nat.le_of_ble_eq_true rfl)⟩) hS (fun q _ h => hFc q h) hFc (fun u t H1 locs ht hvm hw hB hz1 hk1 hS => ?_)
  refine W.widen (k := 0) (n := 0) (Nat.le_of_ble_eq_true rfl) (Nat.le_of_ble_eq_true rfl) ?_
  obtain ⟨u4, rfl⟩ : ∃ z, z = u := ⟨_, rfl⟩
  have hw5 := hw
  clear hw
  obtain ⟨hP1, hD1⟩ := hB
  rw [ht] at hP1
  obtain ⟨hP, hD⟩ := va_joinP (X := [(h, .inr (2, [.int md, .ref ar, .int (nI (n1 + 1))])), (ar, .inl (dA 5, cap, .inr (.inr (.inr (.inr f)))))]) (cx := [(h, .inr (2, [.int md, .ref ar, .int (nI (n1 + 1))])), (ar, .inl (dA 5, cap, .inr (.inr (.inr (.inr f)))))]) (wr := []) (rx := [(h, .inr (2, [.int (md + 1), .ref ar, .int (nI n1)])), (ar, .inl (dA 5, cap, .inr (.inr (.inr (.inr u4)))))]) (pl := TT) (pl1 := TT) hP hD [0, 1] [] rfl rfl (by decide) (by decide) hk1 hFc hP1 hD1
  generalize H1 = H at hP hS ⊢
  replace hP : va_P D vwCl (HAppend.hAppend (α := va_W) (β := va_W) (γ := va_W) [(h, .inr (2, [.int (md + 1), .ref ar, .int (nI n1)])), (ar, .inl (dA 5, cap, .inr (.inr (.inr (.inr u4)))))] TT) H := hP
  replace hD : va_D A (HAppend.hAppend (α := va_W) (β := va_W) (γ := va_W) [(h, .inr (2, [.int (md + 1), .ref ar, .int (nI n1)])), (ar, .inl (dA 5, cap, .inr (.inr (.inr (.inr u4)))))] TT) := hD
  refine lv_aload_n hx hb dJx4a65c_remove_915e3_24 rfl (lv_at hl 0 rfl) ?_
  refine W.widen (k := 0) (n := 0) (Nat.le_of_ble_eq_true rfl) (Nat.le_of_ble_eq_true rfl) ?_
  have hP9 := va_P.part (X := [(h, .inr (2, [.int (md + 1), .ref ar, .int (nI n1)])), (ar, .inl (dA 5, cap, .inr (.inr (.inr (.inr u4)))))]) (cx := [(h, .inr (2, [.int (md + 1), .ref ar, .int (nI n1)])), (ar, .inl (dA 5, cap, .inr (.inr (.inr (.inr u4)))))]) (pl := TT) hP [0, 1] rfl
  have hD9 := va_D.part (X := [(h, .inr (2, [.int (md + 1), .ref ar, .int (nI n1)])), (ar, .inl (dA 5, cap, .inr (.inr (.inr (.inr u4)))))]) (cx := [(h, .inr (2, [.int (md + 1), .ref ar, .int (nI n1)])), (ar, .inl (dA 5, cap, .inr (.inr (.inr (.inr u4)))))]) (pl := TT) hD [0, 1] (by decide) rfl
  exact W.aret (v := .ref (ea k)) hx hb hr (Or.inl ⟨_, rfl⟩) (Or.inr ⟨_, rfl⟩) (fun t ht hW => ⟨⟨u4, (ea k), rfl, hw5, ⟨rfl, ⟨by rw [ht]; exact hP9, hD9⟩⟩⟩, hS.F ht⟩) hS.2.2 dJx4a65c_remove_915e3_25
