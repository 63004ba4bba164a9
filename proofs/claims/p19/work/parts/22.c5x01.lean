/-! CONTRACTS, general -/
set_option maxHeartbeats 4000000 in
set_option maxRecDepth 100000 in
theorem l_clear (l : Launch) (D : va_G) (dA : Nat → ClassId) (E : Nat) (h : Nat) (md : Int32) (ar n cap : Nat) (f : Nat → Option Nat) (sz : Nat) (hn : n ≤ cap) (hcap : cap ≤ 60)  : Met l yJx4a65c_clear_da8c8 (wq (.code yJx4a65c_clear_da8c8 cJx4a65c_clear_da8c8 4 none)) { frames := 0, cells := 0, slots := 0, locals := 0 } (va_Pc [.ref h] (PcB D dA E [(h, .inr (2, [.int md, .ref ar, .int (nI n)])), (ar, .inl (dA 5, cap, .inr (.inr (.inr (.inr f)))))] sz)) (va_Qv (fun (u : Nat → Option Nat) => True) (fun u t => va_P D vwCl [(h, .inr (2, [.int (md + 1), .ref ar, .int 0])), (ar, .inl (dA 5, cap, .inr (.inr (.inr (.inr u)))))] t.heap ∧ va_D (va_A [(h, .inr (2, [.int md, .ref ar, .int (nI n)])), (ar, .inl (dA 5, cap, .inr (.inr (.inr (.inr f)))))] sz) [(h, .inr (2, [.int (md + 1), .ref ar, .int 0])), (ar, .inl (dA 5, cap, .inr (.inr (.inr (.inr u)))))]) (va_A [(h, .inr (2, [.int md, .ref ar, .int (nI n)])), (ar, .inl (dA 5, cap, .inr (.inr (.inr (.inr f)))))] sz)) 0 0 (va_A [(h, .inr (2, [.int md, .ref ar, .int (nI n)])), (ar, .inl (dA 5, cap, .inr (.inr (.inr (.inr f)))))] sz) := by
  refine mb_of (Qc := fun A => va_Qv (fun (u : Nat → Option Nat) => True) (fun u t => va_P D vwCl [(h, .inr (2, [.int (md + 1), .ref ar, .int 0])), (ar, .inl (dA 5, cap, .inr (.inr (.inr (.inr u)))))] t.heap ∧ va_D A [(h, .inr (2, [.int (md + 1), .ref ar, .int 0])), (ar, .inl (dA 5, cap, .inr (.inr (.inr (.inr u)))))]) A) RJx4a65c rfl (by decide) (Nat.le_of_ble_eq_true rfl) ?_
  intro p e s m args below meth c hae hx hb hr hts hown hlocks hml hnm hP hK A hAe hD hZ hS hA ls hl
  replace hl : lv_has ls 4 [(0, .ref h)] := hl
  refine lv_aload_n hx hb dJx4a65c_clear_da8c8_0 rfl (lv_at hl 0 rfl) ?_
  refine lv_dup hx hb dJx4a65c_clear_da8c8_1 rfl ?_
  refine va_get (D := D) (ci := 2) (v := .int md) (C := RJx4a65c) (T := TJx4a65c) (N := 3) hx hb hts inAJx4a65c hown hK hP 0 rfl rfl 0 (by decide) (hts _ q361) (u_same (hts _ q362)) rfl dJx4a65c_clear_da8c8_2 ?_
  refine lv_iconst (v := 1) hx hb dJx4a65c_clear_da8c8_5 (by decide) ?_
  refine lv_iadd hx hb dJx4a65c_clear_da8c8_6 ?_
  refine va_put (D := D) (ci := 2) (v := .int (md + 1)) (ty := .int) (C := RJx4a65c) (T := TJx4a65c) (N := 3) hx hb hts inAJx4a65c tyJx4a65c tyJx4a65c_ok nmJx4a65c hown hK hP hD hS 0 rfl rfl 0 (by decide) (hts _ q361) (u_same (hts _ q362)) rfl (tyJx4a65c_ok 0 (by decide)) rfl rfl (Nat.le_of_ble_eq_true rfl) dJx4a65c_clear_da8c8_7 (fun H locs hP hD hS => ?_)
  replace hP : va_P D vwCl [(h, .inr (2, [.int (md + 1), .ref ar, .int (nI n)])), (ar, .inl (dA 5, cap, .inr (.inr (.inr (.inr f)))))] H := hP
  replace hD : va_D A [(h, .inr (2, [.int (md + 1), .ref ar, .int (nI n)])), (ar, .inl (dA 5, cap, .inr (.inr (.inr (.inr f)))))] := hD
  refine lv_aload_n hx hb dJx4a65c_clear_da8c8_10 rfl (lv_at hl 0 rfl) ?_
  refine va_get (D := D) (ci := 2) (v := .ref ar) (C := RJx4a65c) (T := TJx4a65c) (N := 3) hx hb hts inAJx4a65c hown hK hP 0 rfl rfl 1 (by decide) (hts _ q275) (fun _ h9 => h9) rfl dJx4a65c_clear_da8c8_11 ?_
  refine lv_astore_n (lv' := [(1, .ref ar), (0, .ref h)]) hx hb dJx4a65c_clear_da8c8_14 rfl hl (by decide) rfl (fun ls hl => ?_)
  refine lv_aload_n hx hb dJx4a65c_clear_da8c8_15 rfl (lv_at hl 1 rfl) ?_
  refine va_get (D := D) (ci := 2) (v := .int (nI n)) (C := RJx4a65c) (T := TJx4a65c) (N := 3) hx hb hts inAJx4a65c hown hK hP 0 rfl rfl 2 (by decide) (hts _ q348) (fun _ h9 => h9) rfl dJx4a65c_clear_da8c8_16 ?_
  refine lv_istore_n (lv' := [(2, .int (nI n)), (1, .ref ar), (0, .ref h)]) hx hb dJx4a65c_clear_da8c8_19 rfl hl (by decide) rfl (fun ls hl => ?_)
  refine lv_aload_n hx hb dJx4a65c_clear_da8c8_20 rfl (lv_at hl 2 rfl) ?_
  refine lv_iconst (v := 0) hx hb dJx4a65c_clear_da8c8_21 (by decide) ?_
  refine lv_dup_x1 hx hb dJx4a65c_clear_da8c8_22 rfl rfl ?_
  refine va_put (D := D) (ci := 2) (v := .int 0) (ty := .int) (C := RJx4a65c) (T := TJx4a65c) (N := 3) hx hb hts inAJx4a65c tyJx4a65c tyJx4a65c_ok nmJx4a65c hown hK hP hD hS 0 rfl rfl 2 (by decide) (hts _ q348) (fun _ h9 => h9) rfl (tyJx4a65c_ok 2 (by decide)) rfl rfl (Nat.le_of_ble_eq_true rfl) dJx4a65c_clear_da8c8_23 (fun H locs hP hD hS => ?_)
  replace hP : va_P D vwCl [(h, .inr (2, [.int (md + 1), .ref ar, .int 0])), (ar, .inl (dA 5, cap, .inr (.inr (.inr (.inr f)))))] H := hP
  replace hD : va_D A [(h, .inr (2, [.int (md + 1), .ref ar, .int 0])), (ar, .inl (dA 5, cap, .inr (.inr (.inr (.inr f)))))] := hD
  refine lv_istore_n (lv' := [(3, .int 0), (2, .int (nI n)), (1, .ref ar), (0, .ref h)]) hx hb dJx4a65c_clear_da8c8_26 rfl hl (by decide) rfl (fun ls hl => ?_)
  have K27 : ∀ (k27 i27 : Nat) (g27 : Nat → Option Nat), i27 ≤ n → n < i27 + k27 → ∀ (H : Heap) (locs : List Loc), va_P D vwCl [(h, .inr (2, [.int (md + 1), .ref ar, .int 0])), (ar, .inl (dA 5, cap, .inr (.inr (.inr (.inr g27)))))] H → va_D A [(h, .inr (2, [.int (md + 1), .ref ar, .int 0])), (ar, .inl (dA 5, cap, .inr (.inr (.inr (.inr g27)))))] → va_S A s.heap H locs → ∀ ls : Array Slot, lv_has ls 4 [(3, .int (nI i27)), (2, .int (nI n)), (1, .ref ar), (0, .ref h)] → W p l e { frames := 0, cells := 0, slots := 0, locals := 0 } s m args below meth c H locs 0 0 (MQ below (va_Qv (fun (u : Nat → Option Nat) => True) (fun u t => va_P D vwCl [(h, .inr (2, [.int (md + 1), .ref ar, .int 0])), (ar, .inl (dA 5, cap, .inr (.inr (.inr (.inr u)))))] t.heap ∧ va_D A [(h, .inr (2, [.int (md + 1), .ref ar, .int 0])), (ar, .inl (dA 5, cap, .inr (.inr (.inr (.inr u)))))]) A) args s 0 0 A) (F0 m 27 ls []) := by
    intro k27
    induction k27 with
    | zero => intro i27 g27 h1 h2; exact absurd h2 (by omega)
    | succ k27 ih27 =>
      intro i27 g27 hhi27 hms27 H locs hP hD hS ls hl
      refine lv_iload_n hx hb dJx4a65c_clear_da8c8_27 rfl (lv_at hl 0 rfl) ?_
      refine lv_iload_n hx hb dJx4a65c_clear_da8c8_28 rfl (lv_at hl 1 rfl) ?_
      refine lv_icmp_ge (tgt := 42) hx hb dJx4a65c_clear_da8c8_29 (by decide) (fun c1 => ?_) (fun c1 => ?_)
      · replace c1 := (nI_leI (a := n) (b := i27) (by omega) (by omega)).mp c1
        refine W.widen (k := 0) (n := 0) (Nat.le_of_ble_eq_true rfl) (Nat.le_of_ble_eq_true rfl) ?_
        have hP9 := hP.sub (ws' := [(h, .inr (2, [.int (md + 1), .ref ar, .int 0])), (ar, .inl (dA 5, cap, .inr (.inr (.inr (.inr g27)))))]) [0, 1] rfl
        have hD9 := hD.sub (ws' := [(h, .inr (2, [.int (md + 1), .ref ar, .int 0])), (ar, .inl (dA 5, cap, .inr (.inr (.inr (.inr g27)))))]) [0, 1] (by decide) rfl
        exact W.vret hx hb hr (fun t ht hW => ⟨⟨g27, rfl, trivial, ⟨by rw [ht]; exact hP9, hD9⟩⟩, hS.F ht⟩) hS.2.2 dJx4a65c_clear_da8c8_42
      · replace c1 := mt (nI_leI (a := n) (b := i27) (by omega) (by omega)).mpr c1
        refine lv_aload_n hx hb dJx4a65c_clear_da8c8_32 rfl (lv_at hl 2 rfl) ?_
        refine lv_iload_n hx hb dJx4a65c_clear_da8c8_33 rfl (lv_at hl 0 rfl) ?_
        refine lv_null hx hb dJx4a65c_clear_da8c8_34 ?_
        refine va_astqN hx hb hK hP hD hS 1 5 rfl rfl (vp_in_nI (n := i27) (by omega) (by omega)) dJx4a65c_clear_da8c8_35 (fun H locs hP hD hS => ?_)
        rw [nI_clamp (n := i27) (by omega)] at hP hD
        replace hP : va_P D vwCl [(h, .inr (2, [.int (md + 1), .ref ar, .int 0])), (ar, .inl (dA 5, cap, .inr (.inr (.inr (.inr (va_up g27 i27 none))))))] H := hP
        replace hD : va_D A [(h, .inr (2, [.int (md + 1), .ref ar, .int 0])), (ar, .inl (dA 5, cap, .inr (.inr (.inr (.inr (va_up g27 i27 none))))))] := hD
        refine lv_iinc (v := nI (i27 + 1)) (lv' := [(3, .int (nI (i27 + 1))), (2, .int (nI n)), (1, .ref ar), (0, .ref h)]) hx hb dJx4a65c_clear_da8c8_36 hl (k := 0) rfl (nI_add i27 1) (by decide) rfl (fun ls hl => ?_)
        refine lv_goto (tgt := 27) hx hb dJx4a65c_clear_da8c8_39 (by decide) ?_
        exact ih27 (i27 + 1) (va_up g27 i27 none) (by omega) (by omega) _ _ hP hD hS ls (lv_sub hl [0, 1, 2, 3] rfl)
  exact K27 (n + 1) 0 f (by omega) (by omega) _ _ hP hD hS ls hl

set_option maxHeartbeats 4000000 in
set_option maxRecDepth 100000 in
theorem l_grow1E (l : Launch) (D : va_G) (dA : Nat → ClassId) (E : Nat) (h : Nat) (md : Int32)  (sz : Nat)   : Met l yJx4a65c_grow_92f84 (wq (.code yJx4a65c_grow_92f84 cJx4a65c_grow_92f84 4 (some (.array (.object "java/lang/Object"))))) { frames := 1, cells := 1, slots := 10, locals := 14 } (va_Pc [.ref h, .int 1] (PcB D dA E [(h, .inr (2, [.int md, .ref E, .int 0]))] sz)) (va_Qr (fun (u : Unit) => True) (fun u ra t => va_P D vwCl [(h, .inr (2, [.int md, .ref ra, .int 0])), (ra, .inl (dA 5, 10, .inr (.inr (.inr (.inr (fun _ => none))))))] t.heap ∧ va_D (va_A [(h, .inr (2, [.int md, .ref E, .int 0]))] sz) [(h, .inr (2, [.int md, .ref ra, .int 0])), (ra, .inl (dA 5, 10, .inr (.inr (.inr (.inr (fun _ => none))))))]) (va_A [(h, .inr (2, [.int md, .ref E, .int 0]))] sz)) 1 10 (va_A [(h, .inr (2, [.int md, .ref E, .int 0]))] sz) := by
  refine mb_of (Qc := fun A => va_Qr (fun (u : Unit) => True) (fun u ra t => va_P D vwCl [(h, .inr (2, [.int md, .ref ra, .int 0])), (ra, .inl (dA 5, 10, .inr (.inr (.inr (.inr (fun _ => none))))))] t.heap ∧ va_D A [(h, .inr (2, [.int md, .ref ra, .int 0])), (ra, .inl (dA 5, 10, .inr (.inr (.inr (.inr (fun _ => none))))))]) A) RJx4a65c rfl (by decide) (Nat.le_of_ble_eq_true rfl) ?_
  intro p e s m args below meth c hae hx hb hr hts hown hlocks hml hnm hP hK A hAe hD hZ hS hA ls hl
  replace hl : lv_has ls 4 [(0, .ref h), (1, .int 1)] := hl
  refine lv_aload_n hx hb dJx4a65c_grow_92f84_0 rfl (lv_at hl 0 rfl) ?_
  refine va_get (D := D) (ci := 2) (v := .ref E) (C := RJx4a65c) (T := TJx4a65c) (N := 3) hx hb hts inAJx4a65c hown hK hP 0 rfl rfl 1 (by decide) (hts _ q275) (fun _ h9 => h9) rfl dJx4a65c_grow_92f84_1 ?_
  refine va_tlen hx hb hZ.2.2.2.2.1 hS (v := 0) rfl dJx4a65c_grow_92f84_4 ?_
  refine lv_istore_n (lv' := [(2, .int 0), (0, .ref h), (1, .int 1)]) hx hb dJx4a65c_grow_92f84_5 rfl hl (by decide) rfl (fun ls hl => ?_)
  refine lv_iload_n hx hb dJx4a65c_grow_92f84_6 rfl (lv_at hl 0 rfl) ?_
  refine lv_if_gt (tgt := 20) hx hb dJx4a65c_grow_92f84_7 (by decide) (fun c1 => absurd c1 (by decide)) (fun _ => ?_)
  refine lv_aload_n hx hb dJx4a65c_grow_92f84_10 rfl (lv_at hl 1 rfl) ?_
  refine va_get (D := D) (ci := 2) (v := .ref E) (C := RJx4a65c) (T := TJx4a65c) (N := 3) hx hb hts inAJx4a65c hown hK hP 0 rfl rfl 1 (by decide) (hts _ q275) (fun _ h9 => h9) rfl dJx4a65c_grow_92f84_11 ?_
  refine va_gets hx hb hZ.2.2.2.1 hS hown (hts _ q274) (fun _ h9 => h9) dJx4a65c_grow_92f84_14 ?_
  refine lv_acmp_eq (rx := some E) (ry := some E) (tgt := 45) hx hb dJx4a65c_grow_92f84_17 (by decide) (fun _ => ?_) (fun h9 => absurd rfl h9)
  refine lv_aload_n hx hb dJx4a65c_grow_92f84_45 rfl (lv_at hl 1 rfl) ?_
  refine lv_bipush (v := 10) hx hb dJx4a65c_grow_92f84_46 (by decide) ?_
  refine lv_iload_n hx hb dJx4a65c_grow_92f84_48 rfl (lv_at hl 2 rfl) ?_
  refine va_mmax hx hb (hml.trans hl.1.symm) hown (hts _ q363) (hts _ q364) (hts _ q365) (hts _ q366) (Nat.le_of_ble_eq_true rfl) (Nat.le_of_ble_eq_true rfl) (Nat.le_of_ble_eq_true rfl) (Nat.le_of_ble_eq_true rfl) dJx4a65c_grow_92f84_49 ?_
  refine lv_topi (fun x2 ex2 => ?_)
  replace ex2 : x2 = 10 := ex2.trans (by decide)
  subst ex2
  refine va_newq (N' := 10) hx hb hown (hts _ q367) hZ.1.2.2.2.2.2.1 hK hP hD hS hA (by decide) (by decide) (by decide) (Nat.le_of_ble_eq_true rfl) (Nat.le_of_ble_eq_true rfl) dJx4a65c_grow_92f84_52 (fun q3 cAq3 H hKn hP hD hS => ?_)
  obtain rfl : cAq3 = dA 5 := ty_eq 5 hKn rfl
  replace hP : va_P D vwCl [(h, .inr (2, [.int md, .ref E, .int 0])), (q3, .inl (dA 5, 10, .inr (.inr (.inr (.inr (fun _ => none))))))] H := hP
  replace hD : va_D A [(h, .inr (2, [.int md, .ref E, .int 0])), (q3, .inl (dA 5, 10, .inr (.inr (.inr (.inr (fun _ => none))))))] := hD
  refine W.widen (k := 1) (n := 10) (Nat.le_of_ble_eq_true rfl) (Nat.le_of_ble_eq_true rfl) ?_
  refine lv_dup_x1 hx hb dJx4a65c_grow_92f84_55 rfl rfl ?_
  refine va_put (D := D) (ci := 2) (v := .ref q3) (ty := .array (.object "java/lang/Object")) (C := RJx4a65c) (T := TJx4a65c) (N := 3) hx hb hts inAJx4a65c tyJx4a65c tyJx4a65c_ok nmJx4a65c hown hK hP hD hS 0 rfl rfl 1 (by decide) (hts _ q275) (fun _ h9 => h9) rfl (tyJx4a65c_ok 1 (by decide)) rfl rfl (Nat.le_of_ble_eq_true rfl) dJx4a65c_grow_92f84_56 (fun H locs hP hD hS => ?_)
  replace hP : va_P D vwCl [(h, .inr (2, [.int md, .ref q3, .int 0])), (q3, .inl (dA 5, 10, .inr (.inr (.inr (.inr (fun _ => none))))))] H := hP
  replace hD : va_D A [(h, .inr (2, [.int md, .ref q3, .int 0])), (q3, .inl (dA 5, 10, .inr (.inr (.inr (.inr (fun _ => none))))))] := hD
  refine W.widen (k := 1) (n := 10) (Nat.le_of_ble_eq_true rfl) (Nat.le_of_ble_eq_true rfl) ?_
  have hP9 := hP.sub (ws' := [(h, .inr (2, [.int md, .ref q3, .int 0])), (q3, .inl (dA 5, 10, .inr (.inr (.inr (.inr (fun _ => none))))))]) [0, 1] rfl
  have hD9 := hD.sub (ws' := [(h, .inr (2, [.int md, .ref q3, .int 0])), (q3, .inl (dA 5, 10, .inr (.inr (.inr (.inr (fun _ => none))))))]) [0, 1] (by decide) rfl
  exact W.aret (v := .ref q3) hx hb hr (Or.inr ⟨_, rfl⟩) (Or.inr ⟨_, rfl⟩) (fun t ht hW => ⟨⟨(), q3, rfl, trivial, ⟨by rw [ht]; exact hP9, hD9⟩⟩, hS.F ht⟩) hS.2.2 dJx4a65c_grow_92f84_59

set_option maxHeartbeats 4000000 in
set_option maxRecDepth 100000 in
theorem l_grow0E (l : Launch) (D : va_G) (dA : Nat → ClassId) (E : Nat) (h : Nat) (md : Int32)  (sz : Nat)   : Met l yJx4a65c_grow_d5877 (wq (.code yJx4a65c_grow_d5877 cJx4a65c_grow_d5877 1 (some (.array (.object "java/lang/Object"))))) { frames := 2, cells := 1, slots := 10, locals := 37 } (va_Pc [.ref h] (PcB D dA E [(h, .inr (2, [.int md, .ref E, .int 0]))] sz)) (va_Qr (fun (u : Unit) => True) (fun u ra t => va_P D vwCl [(h, .inr (2, [.int md, .ref ra, .int 0])), (ra, .inl (dA 5, 10, .inr (.inr (.inr (.inr (fun _ => none))))))] t.heap ∧ va_D (va_A [(h, .inr (2, [.int md, .ref E, .int 0]))] sz) [(h, .inr (2, [.int md, .ref ra, .int 0])), (ra, .inl (dA 5, 10, .inr (.inr (.inr (.inr (fun _ => none))))))]) (va_A [(h, .inr (2, [.int md, .ref E, .int 0]))] sz)) 1 10 (va_A [(h, .inr (2, [.int md, .ref E, .int 0]))] sz) := by
  refine mb_of (Qc := fun A => va_Qr (fun (u : Unit) => True) (fun u ra t => va_P D vwCl [(h, .inr (2, [.int md, .ref ra, .int 0])), (ra, .inl (dA 5, 10, .inr (.inr (.inr (.inr (fun _ => none))))))] t.heap ∧ va_D A [(h, .inr (2, [.int md, .ref ra, .int 0])), (ra, .inl (dA 5, 10, .inr (.inr (.inr (.inr (fun _ => none))))))]) A) RJx4a65c rfl (by decide) (Nat.le_of_ble_eq_true rfl) ?_
  intro p e s m args below meth c hae hx hb hr hts hown hlocks hml hnm hP hK A hAe hD hZ hS hA ls hl
  replace hl : lv_has ls 1 [(0, .ref h)] := hl
  refine lv_aload_n hx hb dJx4a65c_grow_d5877_0 rfl (lv_at hl 0 rfl) ?_
  refine lv_aload_n hx hb dJx4a65c_grow_d5877_1 rfl (lv_at hl 0 rfl) ?_
  refine va_get (D := D) (ci := 2) (v := .int 0) (C := RJx4a65c) (T := TJx4a65c) (N := 3) hx hb hts inAJx4a65c hown hK hP 0 rfl rfl 2 (by decide) (hts _ q348) (fun _ h9 => h9) rfl dJx4a65c_grow_d5877_2 ?_
  refine lv_iconst (v := 1) hx hb dJx4a65c_grow_d5877_5 (by decide) ?_
  refine lv_iadd hx hb dJx4a65c_grow_d5877_6 ?_
  refine lv_topi (fun x1 ex1 => ?_)
  replace ex1 : x1 = 1 := ex1.trans (by decide)
  subst ex1
  replace hPc := hP.sub (ws' := [(h, .inr (2, [.int md, .ref E, .int 0]))]) [0] rfl
  replace hDc := hD.sub (ws' := [(h, .inr (2, [.int md, .ref E, .int 0]))]) [0] (by decide) rfl
  replace hFc := va_free (wc := [(h, .inr (2, [.int md, .ref E, .int 0]))]) hD hS hA [0] rfl
  refine va_callr (va_runV (As := [.int 1]) (rest := []) ⟨hx, hb, hml, hown, hts⟩ (l_grow1E l D dA E h md s.heap.size ) (cwV 1 hts (ga_V q370 q371 q368 q322 q369) rfl rfl rfl (by decide +kernel) ⟨(Nat.le_of_ble_eq_true rfl), (Nat.le_of_ble_eq_true rfl)⟩) ⟨pb_blind, va_recv hK hPc (ci := 2) (q0 := 0) rfl rfl, pb_pre hK hPc hDc hZ hS hFc _⟩ rfl rfl hl.1 rfl (lv_room (Nat.le_of_ble_eq_true rfl)) dJx4a65c_grow_d5877_7 ⟨(Nat.le_of_ble_eq_true rfl), (Nat.le_of_ble_eq_true rfl)⟩) hS (fun q _ h => hFc q h) hFc (fun u ra t H1 locs ht hvm hw hB hz1 hk1 hS => ?_)
  refine W.widen (k := 1) (n := 10) (Nat.le_of_ble_eq_true rfl) (Nat.le_of_ble_eq_true rfl) ?_
  obtain ⟨q2, rfl⟩ : ∃ z, z = ra := ⟨_, rfl⟩
  obtain ⟨u3, rfl⟩ : ∃ z, z = u := ⟨_, rfl⟩
  have hw4 := hw
  clear hw
  obtain ⟨hP1, hD1⟩ := hB
  rw [ht] at hP1
  obtain ⟨hP, hD⟩ := va_join (wr := []) (w1 := [(h, .inr (2, [.int md, .ref q2, .int 0])), (q2, .inl (dA 5, 10, .inr (.inr (.inr (.inr (fun _ => none))))))]) hP hD [0] [] rfl rfl (by decide) (by decide) hk1 hFc hP1 hD1
  generalize H1 = H at hP hS ⊢
  replace hP : va_P D vwCl [(h, .inr (2, [.int md, .ref q2, .int 0])), (q2, .inl (dA 5, 10, .inr (.inr (.inr (.inr (fun _ => none))))))] H := hP
  replace hD : va_D A [(h, .inr (2, [.int md, .ref q2, .int 0])), (q2, .inl (dA 5, 10, .inr (.inr (.inr (.inr (fun _ => none))))))] := hD
  refine W.widen (k := 1) (n := 10) (Nat.le_of_ble_eq_true rfl) (Nat.le_of_ble_eq_true rfl) ?_
  have hP9 := hP.sub (ws' := [(h, .inr (2, [.int md, .ref q2, .int 0])), (q2, .inl (dA 5, 10, .inr (.inr (.inr (.inr (fun _ => none))))))]) [0, 1] rfl
  have hD9 := hD.sub (ws' := [(h, .inr (2, [.int md, .ref q2, .int 0])), (q2, .inl (dA 5, 10, .inr (.inr (.inr (.inr (fun _ => none))))))]) [0, 1] (by decide) rfl
  exact W.aret (v := .ref q2) hx hb hr (Or.inr ⟨_, rfl⟩) (Or.inr ⟨_, rfl⟩) (fun t ht hW => ⟨⟨(), q2, rfl, trivial, ⟨by rw [ht]; exact hP9, hD9⟩⟩, hS.F ht⟩) hS.2.2 dJx4a65c_grow_d5877_10

set_option maxHeartbeats 4000000 in
set_option maxRecDepth 100000 in
theorem l_newLength_10 (l : Launch) (D : va_G) (dA : Nat → ClassId) (E : Nat)  (sz : Nat)   : Met l yJ8_newLength_cabcc (wq (.code yJ8_newLength_cabcc cJ8_newLength_cabcc 4 (some .int))) { frames := 1, cells := 0, slots := 0, locals := 14 } (va_Pc [.int 10, .int 1, .int 5] (PcB D dA E [] sz)) (va_Qi (fun (r : Int32) (u : Unit) => r = 15) (fun u t => va_P D vwCl [] t.heap ∧ va_D (va_A [] sz) []) (va_A [] sz)) 0 0 (va_A [] sz) := by
  refine mb_of (y := yJ8_newLength_cabcc) (av := [.int 10, .int 1, .int 5]) (maxL := 4) (Qc := fun A => va_Qi (fun (r : Int32) (u : Unit) => r = 15) (fun u t => va_P D vwCl [] t.heap ∧ va_D A []) A) RJ8 rfl (by decide) (Nat.le_of_ble_eq_true rfl) ?_
  intro p e s m args below meth c hae hx hb hr hts hown hlocks hml hnm hP hK A hAe hD hZ hS hA ls hl
  replace hl : lv_has ls 4 [(0, .int 10), (1, .int 1), (2, .int 5)] := hl
  refine lv_iload_n hx hb dJ8_newLength_cabcc_0 rfl (lv_at hl 0 rfl) ?_
  refine lv_iload_n hx hb dJ8_newLength_cabcc_1 rfl (lv_at hl 1 rfl) ?_
  refine lv_iload_n hx hb dJ8_newLength_cabcc_2 rfl (lv_at hl 2 rfl) ?_
  refine va_mmax hx hb (hml.trans hl.1.symm) hown (hts _ q372) (hts _ q364) (hts _ q365) (hts _ q366) (Nat.le_of_ble_eq_true rfl) (Nat.le_of_ble_eq_true rfl) (Nat.le_of_ble_eq_true rfl) (Nat.le_of_ble_eq_true rfl) dJ8_newLength_cabcc_3 ?_
  refine lv_topi (fun x1 ex1 => ?_)
  replace ex1 : x1 = 5 := ex1.trans (by decide)
  subst ex1
  refine lv_iadd hx hb dJ8_newLength_cabcc_6 ?_
  refine lv_topi (fun x2 ex2 => ?_)
  replace ex2 : x2 = 15 := ex2.trans (by decide)
  subst ex2
  refine lv_istore_n (lv' := [(3, .int 15), (0, .int 10), (1, .int 1), (2, .int 5)]) hx hb dJ8_newLength_cabcc_7 rfl hl (by decide) rfl (fun ls hl => ?_)
  refine lv_iconst (v := 0) hx hb dJ8_newLength_cabcc_8 (by decide) ?_
  refine lv_iload_n hx hb dJ8_newLength_cabcc_9 rfl (lv_at hl 0 rfl) ?_
  refine lv_icmp_ge (tgt := 21) hx hb dJ8_newLength_cabcc_10 (by decide) (fun c3 => absurd c3 (by decide)) (fun _ => ?_)
  refine lv_iload_n hx hb dJ8_newLength_cabcc_13 rfl (lv_at hl 0 rfl) ?_
  refine lv_ldc (v := 2147483639) hx hb hown (hts _ q373) dJ8_newLength_cabcc_14 ?_
  refine lv_icmp_gt (tgt := 21) hx hb dJ8_newLength_cabcc_16 (by decide) (fun c4 => absurd c4 (by decide)) (fun _ => ?_)
  refine lv_iload_n hx hb dJ8_newLength_cabcc_19 rfl (lv_at hl 0 rfl) ?_
  refine W.widen (k := 0) (n := 0) (Nat.le_of_ble_eq_true rfl) (Nat.le_of_ble_eq_true rfl) ?_
  have hP9 := hP.sub (ws' := []) [] rfl
  have hD9 := hD.sub (ws' := []) [] (by decide) rfl
  exact W.iret (v := 15) hx hb hr (fun t ht hW => ⟨⟨15, (), rfl, rfl, ⟨by rw [ht]; exact hP9, hD9⟩⟩, hS.F ht⟩) hS.2.2 dJ8_newLength_cabcc_20
