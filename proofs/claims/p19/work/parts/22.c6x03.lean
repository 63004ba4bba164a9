/-! CONTRACTS, general -/
set_option maxHeartbeats 4000000 in
set_option maxRecDepth 100000 in
theorem l_add3E_Query (l : Launch) (D : va_G) (dA : Nat → ClassId) (E : Nat) (h e0 : Nat) (md : Int32) (f0 f1 f2 f3 f4 f5 : Value) (sz : Nat)   : Met l yJx4a65c_add_72be8 (wq (.code yJx4a65c_add_72be8 cJx4a65c_add_72be8 4 none)) { frames := 3, cells := 1, slots := 10, locals := 57 } (va_Pc [.ref h, .ref e0, .ref E, .int 0] (PcB D dA E [(h, .inr (2, [.int md, .ref E, .int 0])), (e0, .inr (4, [f0, f1, f2, f3, f4, f5]))] sz)) (va_Qv (fun (u : Nat) => True) (fun u t => va_P D vwCl [(h, .inr (2, [.int md, .ref u, .int 1])), (u, .inl (dA 5, 10, .inr (.inr (.inr (.inr (va_up (fun _ => none) 0 (some e0))))))), (e0, .inr (4, [f0, f1, f2, f3, f4, f5]))] t.heap ∧ va_D (va_A [(h, .inr (2, [.int md, .ref E, .int 0])), (e0, .inr (4, [f0, f1, f2, f3, f4, f5]))] sz) [(h, .inr (2, [.int md, .ref u, .int 1])), (u, .inl (dA 5, 10, .inr (.inr (.inr (.inr (va_up (fun _ => none) 0 (some e0))))))), (e0, .inr (4, [f0, f1, f2, f3, f4, f5]))]) (va_A [(h, .inr (2, [.int md, .ref E, .int 0])), (e0, .inr (4, [f0, f1, f2, f3, f4, f5]))] sz)) 1 10 (va_A [(h, .inr (2, [.int md, .ref E, .int 0])), (e0, .inr (4, [f0, f1, f2, f3, f4, f5]))] sz) := by
  refine mb_of (Qc := fun A => va_Qv (fun (u : Nat) => True) (fun u t => va_P D vwCl [(h, .inr (2, [.int md, .ref u, .int 1])), (u, .inl (dA 5, 10, .inr (.inr (.inr (.inr (va_up (fun _ => none) 0 (some e0))))))), (e0, .inr (4, [f0, f1, f2, f3, f4, f5]))] t.heap ∧ va_D A [(h, .inr (2, [.int md, .ref u, .int 1])), (u, .inl (dA 5, 10, .inr (.inr (.inr (.inr (va_up (fun _ => none) 0 (some e0))))))), (e0, .inr (4, [f0, f1, f2, f3, f4, f5]))]) A) RJx4a65c rfl (by decide) (Nat.le_of_ble_eq_true rfl) ?_
  intro p e s m args below meth c hae hx hb hr hts hown hlocks hml hnm hP hK A hAe hD hZ hS hA ls hl
  replace hl : lv_has ls 4 [(0, .ref h), (1, .ref e0), (2, .ref E), (3, .int 0)] := hl
  refine lv_iload_n hx hb dJx4a65c_add_72be8_0 rfl (lv_at hl 3 rfl) ?_
  refine lv_aload_n hx hb dJx4a65c_add_72be8_1 rfl (lv_at hl 2 rfl) ?_
  refine va_tlen hx hb hZ.2.2.2.2.1 hS (v := 0) rfl dJx4a65c_add_72be8_2 ?_
  refine lv_icmp_ne (tgt := 11) hx hb dJx4a65c_add_72be8_3 (by decide) (fun c1 => absurd (by decide) c1) (fun _ => ?_)
  refine lv_aload_n hx hb dJx4a65c_add_72be8_6 rfl (lv_at hl 0 rfl) ?_
  replace hPc := hP.sub (ws' := [(h, .inr (2, [.int md, .ref E, .int 0]))]) [0] rfl
  replace hDc := hD.sub (ws' := [(h, .inr (2, [.int md, .ref E, .int 0]))]) [0] (by decide) rfl
  replace hFc := va_free (wc := [(h, .inr (2, [.int md, .ref E, .int 0]))]) hD hS hA [0] rfl
  refine va_callr (va_runV (As := []) (rest := []) ⟨hx, hb, hml, hown, hts⟩ (l_grow0E l D dA E h md s.heap.size ) (cwV 0 hts (ga_V q400 q401 q398 q322 q399) rfl rfl rfl (by decide +kernel) ⟨(Nat.le_of_ble_eq_true rfl), (Nat.le_of_ble_eq_true rfl)⟩) ⟨pb_blind, va_recv hK hPc (ci := 2) (q0 := 0) rfl rfl, pb_pre hK hPc hDc hZ hS hFc _⟩ rfl rfl hl.1 rfl (lv_room (Nat.le_of_ble_eq_true rfl)) dJx4a65c_add_72be8_7 ⟨(Nat.le_of_ble_eq_true rfl), (Nat.le_of_ble_eq_true rfl)⟩) hS (fun q _ h => hFc q h) hFc (fun u ra t H1 locs ht hvm hw hB hz1 hk1 hS => ?_)
  refine W.widen (k := 1) (n := 10) (Nat.le_of_ble_eq_true rfl) (Nat.le_of_ble_eq_true rfl) ?_
  obtain ⟨q2, rfl⟩ : ∃ z, z = ra := ⟨_, rfl⟩
  obtain ⟨u3, rfl⟩ : ∃ z, z = u := ⟨_, rfl⟩
  have hw4 := hw
  clear hw
  obtain ⟨hP1, hD1⟩ := hB
  rw [ht] at hP1
  obtain ⟨hP, hD⟩ := va_join (wr := [(e0, .inr (4, [f0, f1, f2, f3, f4, f5]))]) (w1 := [(h, .inr (2, [.int md, .ref q2, .int 0])), (q2, .inl (dA 5, 10, .inr (.inr (.inr (.inr (fun _ => none))))))]) hP hD [0] [1] rfl rfl (by decide) (by decide) hk1 hFc hP1 hD1
  generalize H1 = H at hP hS ⊢
  replace hP : va_P D vwCl [(e0, .inr (4, [f0, f1, f2, f3, f4, f5])), (h, .inr (2, [.int md, .ref q2, .int 0])), (q2, .inl (dA 5, 10, .inr (.inr (.inr (.inr (fun _ => none))))))] H := hP
  replace hD : va_D A [(e0, .inr (4, [f0, f1, f2, f3, f4, f5])), (h, .inr (2, [.int md, .ref q2, .int 0])), (q2, .inl (dA 5, 10, .inr (.inr (.inr (.inr (fun _ => none))))))] := hD
  refine lv_astore_n (lv' := [(2, .ref q2), (0, .ref h), (1, .ref e0), (3, .int 0)]) hx hb dJx4a65c_add_72be8_10 rfl hl (by decide) rfl (fun ls hl => ?_)
  refine lv_aload_n hx hb dJx4a65c_add_72be8_11 rfl (lv_at hl 0 rfl) ?_
  refine lv_iload_n hx hb dJx4a65c_add_72be8_12 rfl (lv_at hl 3 rfl) ?_
  refine lv_aload_n hx hb dJx4a65c_add_72be8_13 rfl (lv_at hl 2 rfl) ?_
  refine va_astqO (r := (RX1, TX1, 6)) hx hb hK hP hD hS 2 5 0 4 rfl rfl (znC_21 hZ.1) rfl rfl (vi_c (by decide)) dJx4a65c_add_72be8_14 (fun H locs hP hD hS => ?_)
  replace hP : va_P D vwCl [(e0, .inr (4, [f0, f1, f2, f3, f4, f5])), (h, .inr (2, [.int md, .ref q2, .int 0])), (q2, .inl (dA 5, 10, .inr (.inr (.inr (.inr (va_up (fun _ => none) 0 (some e0)))))))] H := hP
  replace hD : va_D A [(e0, .inr (4, [f0, f1, f2, f3, f4, f5])), (h, .inr (2, [.int md, .ref q2, .int 0])), (q2, .inl (dA 5, 10, .inr (.inr (.inr (.inr (va_up (fun _ => none) 0 (some e0)))))))] := hD
  refine lv_aload_n hx hb dJx4a65c_add_72be8_15 rfl (lv_at hl 1 rfl) ?_
  refine lv_iload_n hx hb dJx4a65c_add_72be8_16 rfl (lv_at hl 3 rfl) ?_
  refine lv_iconst (v := 1) hx hb dJx4a65c_add_72be8_17 (by decide) ?_
  refine lv_iadd hx hb dJx4a65c_add_72be8_18 ?_
  refine lv_topi (fun x5 ex5 => ?_)
  replace ex5 : x5 = 1 := ex5.trans (by decide)
  subst ex5
  refine va_put (D := D) (ci := 2) (v := .int 1) (ty := .int) (C := RJx4a65c) (T := TJx4a65c) (N := 3) hx hb hts inAJx4a65c tyJx4a65c tyJx4a65c_ok nmJx4a65c hown hK hP hD hS 1 rfl rfl 2 (by decide) (hts _ q348) (fun _ h9 => h9) rfl (tyJx4a65c_ok 2 (by decide)) rfl rfl (Nat.le_of_ble_eq_true rfl) dJx4a65c_add_72be8_19 (fun H locs hP hD hS => ?_)
  replace hP : va_P D vwCl [(e0, .inr (4, [f0, f1, f2, f3, f4, f5])), (h, .inr (2, [.int md, .ref q2, .int 1])), (q2, .inl (dA 5, 10, .inr (.inr (.inr (.inr (va_up (fun _ => none) 0 (some e0)))))))] H := hP
  replace hD : va_D A [(e0, .inr (4, [f0, f1, f2, f3, f4, f5])), (h, .inr (2, [.int md, .ref q2, .int 1])), (q2, .inl (dA 5, 10, .inr (.inr (.inr (.inr (va_up (fun _ => none) 0 (some e0)))))))] := hD
  refine W.widen (k := 1) (n := 10) (Nat.le_of_ble_eq_true rfl) (Nat.le_of_ble_eq_true rfl) ?_
  have hP9 := hP.sub (ws' := [(h, .inr (2, [.int md, .ref q2, .int 1])), (q2, .inl (dA 5, 10, .inr (.inr (.inr (.inr (va_up (fun _ => none) 0 (some e0))))))), (e0, .inr (4, [f0, f1, f2, f3, f4, f5]))]) [1, 2, 0] rfl
  have hD9 := hD.sub (ws' := [(h, .inr (2, [.int md, .ref q2, .int 1])), (q2, .inl (dA 5, 10, .inr (.inr (.inr (.inr (va_up (fun _ => none) 0 (some e0))))))), (e0, .inr (4, [f0, f1, f2, f3, f4, f5]))]) [1, 2, 0] (by decide) rfl
  exact W.vret hx hb hr (fun t ht hW => ⟨⟨q2, rfl, trivial, ⟨by rw [ht]; exact hP9, hD9⟩⟩, hS.F ht⟩) hS.2.2 dJx4a65c_add_72be8_22

set_option maxHeartbeats 4000000 in
set_option maxRecDepth 100000 in
theorem l_add3O_Query (l : Launch) (D : va_G) (dA : Nat → ClassId) (E : Nat) (h e0 ar n cap : Nat) (md : Int32) (f : Nat → Option Nat) (f0 f1 f2 f3 f4 f5 : Value) (sz : Nat) (hn : n < cap) (hcap : cap ≤ 60)  : Met l yJx4a65c_add_72be8 (wq (.code yJx4a65c_add_72be8 cJx4a65c_add_72be8 4 none)) { frames := 0, cells := 0, slots := 0, locals := 0 } (va_Pc [.ref h, .ref e0, .ref ar, .int (nI n)] (PcB D dA E [(h, .inr (2, [.int md, .ref ar, .int (nI n)])), (ar, .inl (dA 5, cap, .inr (.inr (.inr (.inr f))))), (e0, .inr (4, [f0, f1, f2, f3, f4, f5]))] sz)) (va_Qv (fun (u : Unit) => True) (fun u t => va_P D vwCl [(h, .inr (2, [.int md, .ref ar, .int (nI (n + 1))])), (ar, .inl (dA 5, cap, .inr (.inr (.inr (.inr (va_up f n (some e0))))))), (e0, .inr (4, [f0, f1, f2, f3, f4, f5]))] t.heap ∧ va_D (va_A [(h, .inr (2, [.int md, .ref ar, .int (nI n)])), (ar, .inl (dA 5, cap, .inr (.inr (.inr (.inr f))))), (e0, .inr (4, [f0, f1, f2, f3, f4, f5]))] sz) [(h, .inr (2, [.int md, .ref ar, .int (nI (n + 1))])), (ar, .inl (dA 5, cap, .inr (.inr (.inr (.inr (va_up f n (some e0))))))), (e0, .inr (4, [f0, f1, f2, f3, f4, f5]))]) (va_A [(h, .inr (2, [.int md, .ref ar, .int (nI n)])), (ar, .inl (dA 5, cap, .inr (.inr (.inr (.inr f))))), (e0, .inr (4, [f0, f1, f2, f3, f4, f5]))] sz)) 0 0 (va_A [(h, .inr (2, [.int md, .ref ar, .int (nI n)])), (ar, .inl (dA 5, cap, .inr (.inr (.inr (.inr f))))), (e0, .inr (4, [f0, f1, f2, f3, f4, f5]))] sz) := by
  refine mb_of (Qc := fun A => va_Qv (fun (u : Unit) => True) (fun u t => va_P D vwCl [(h, .inr (2, [.int md, .ref ar, .int (nI (n + 1))])), (ar, .inl (dA 5, cap, .inr (.inr (.inr (.inr (va_up f n (some e0))))))), (e0, .inr (4, [f0, f1, f2, f3, f4, f5]))] t.heap ∧ va_D A [(h, .inr (2, [.int md, .ref ar, .int (nI (n + 1))])), (ar, .inl (dA 5, cap, .inr (.inr (.inr (.inr (va_up f n (some e0))))))), (e0, .inr (4, [f0, f1, f2, f3, f4, f5]))]) A) RJx4a65c rfl (by decide) (Nat.le_of_ble_eq_true rfl) ?_
  intro p e s m args below meth c hae hx hb hr hts hown hlocks hml hnm hP hK A hAe hD hZ hS hA ls hl
  replace hl : lv_has ls 4 [(0, .ref h), (1, .ref e0), (2, .ref ar), (3, .int (nI n))] := hl
  refine lv_iload_n hx hb dJx4a65c_add_72be8_0 rfl (lv_at hl 3 rfl) ?_
  refine lv_aload_n hx hb dJx4a65c_add_72be8_1 rfl (lv_at hl 2 rfl) ?_
  refine va_alen hx hb hK hP 1 5 rfl rfl (v := nI cap) rfl dJx4a65c_add_72be8_2 ?_
  refine lv_icmp_ne (tgt := 11) hx hb dJx4a65c_add_72be8_3 (by decide) (fun _ => ?_) (fun c1 => absurd ((nI_eq (a := n) (b := cap) (by omega) (by omega)).mp c1) (by omega))
  refine lv_aload_n hx hb dJx4a65c_add_72be8_11 rfl (lv_at hl 2 rfl) ?_
  refine lv_iload_n hx hb dJx4a65c_add_72be8_12 rfl (lv_at hl 3 rfl) ?_
  refine lv_aload_n hx hb dJx4a65c_add_72be8_13 rfl (lv_at hl 1 rfl) ?_
  refine va_astqO (r := (RX1, TX1, 6)) hx hb hK hP hD hS 1 5 2 4 rfl rfl (znC_21 hZ.1) rfl rfl (vp_in_nI (n := n) (by omega) (by omega)) dJx4a65c_add_72be8_14 (fun H locs hP hD hS => ?_)
  rw [nI_clamp (n := n) (by omega)] at hP hD
  replace hP : va_P D vwCl [(h, .inr (2, [.int md, .ref ar, .int (nI n)])), (ar, .inl (dA 5, cap, .inr (.inr (.inr (.inr (va_up f n (some e0))))))), (e0, .inr (4, [f0, f1, f2, f3, f4, f5]))] H := hP
  replace hD : va_D A [(h, .inr (2, [.int md, .ref ar, .int (nI n)])), (ar, .inl (dA 5, cap, .inr (.inr (.inr (.inr (va_up f n (some e0))))))), (e0, .inr (4, [f0, f1, f2, f3, f4, f5]))] := hD
  refine lv_aload_n hx hb dJx4a65c_add_72be8_15 rfl (lv_at hl 0 rfl) ?_
  refine lv_iload_n hx hb dJx4a65c_add_72be8_16 rfl (lv_at hl 3 rfl) ?_
  refine lv_iconst (v := 1) hx hb dJx4a65c_add_72be8_17 (by decide) ?_
  refine lv_iadd hx hb dJx4a65c_add_72be8_18 ?_
  refine lv_topi (fun x2 ex2 => ?_)
  obtain rfl : x2 = nI (n + 1) := ex2.trans (nI_add n 1)
  refine va_put (D := D) (ci := 2) (v := .int (nI (n + 1))) (ty := .int) (C := RJx4a65c) (T := TJx4a65c) (N := 3) hx hb hts inAJx4a65c tyJx4a65c tyJx4a65c_ok nmJx4a65c hown hK hP hD hS 0 rfl rfl 2 (by decide) (hts _ q348) (fun _ h9 => h9) rfl (tyJx4a65c_ok 2 (by decide)) rfl rfl (Nat.le_of_ble_eq_true rfl) dJx4a65c_add_72be8_19 (fun H locs hP hD hS => ?_)
  replace hP : va_P D vwCl [(h, .inr (2, [.int md, .ref ar, .int (nI (n + 1))])), (ar, .inl (dA 5, cap, .inr (.inr (.inr (.inr (va_up f n (some e0))))))), (e0, .inr (4, [f0, f1, f2, f3, f4, f5]))] H := hP
  replace hD : va_D A [(h, .inr (2, [.int md, .ref ar, .int (nI (n + 1))])), (ar, .inl (dA 5, cap, .inr (.inr (.inr (.inr (va_up f n (some e0))))))), (e0, .inr (4, [f0, f1, f2, f3, f4, f5]))] := hD
  refine W.widen (k := 0) (n := 0) (Nat.le_of_ble_eq_true rfl) (Nat.le_of_ble_eq_true rfl) ?_
  have hP9 := hP.sub (ws' := [(h, .inr (2, [.int md, .ref ar, .int (nI (n + 1))])), (ar, .inl (dA 5, cap, .inr (.inr (.inr (.inr (va_up f n (some e0))))))), (e0, .inr (4, [f0, f1, f2, f3, f4, f5]))]) [0, 1, 2] rfl
  have hD9 := hD.sub (ws' := [(h, .inr (2, [.int md, .ref ar, .int (nI (n + 1))])), (ar, .inl (dA 5, cap, .inr (.inr (.inr (.inr (va_up f n (some e0))))))), (e0, .inr (4, [f0, f1, f2, f3, f4, f5]))]) [0, 1, 2] (by decide) rfl
  exact W.vret hx hb hr (fun t ht hW => ⟨⟨(), rfl, trivial, ⟨by rw [ht]; exact hP9, hD9⟩⟩, hS.F ht⟩) hS.2.2 dJx4a65c_add_72be8_22

set_option maxHeartbeats 4000000 in
set_option maxRecDepth 100000 in
theorem l_add3G_Query_10 (l : Launch) (D : va_G) (dA : Nat → ClassId) (E : Nat) (h e0 ar : Nat) (md : Int32) (f : Nat → Option Nat) (TT : va_W) (ea : Nat → Nat) (fs : Nat → List Value) (f0 f1 f2 f3 f4 f5 : Value) (sz : Nat) (hf : ∀ i, i < 10 → f i = some (ea i)) (hTE : ∀ i, i < 10 → ((ea i, .inr (4, fs i)) : Nat × va_E) ∈ TT)  : Met l yJx4a65c_add_72be8 (wq (.code yJx4a65c_add_72be8 cJx4a65c_add_72be8 4 none)) { frames := 5, cells := 1, slots := 15, locals := 117 } (va_Pc [.ref h, .ref e0, .ref ar, .int 10] (PcB D dA E (HAppend.hAppend (α := va_W) (β := va_W) (γ := va_W) [(h, .inr (2, [.int md, .ref ar, .int 10])), (ar, .inl (dA 5, 10, .inr (.inr (.inr (.inr f))))), (e0, .inr (4, [f0, f1, f2, f3, f4, f5]))] TT) sz)) (va_Qv (fun (u : Nat) => True) (fun u t => va_P D vwCl (HAppend.hAppend (α := va_W) (β := va_W) (γ := va_W) [(h, .inr (2, [.int md, .ref u, .int 11])), (u, .inl (dA 5, 15, .inr (.inr (.inr (.inr (va_up (va_cpy f (fun _ => none) 0 0 10) 10 (some e0))))))), (e0, .inr (4, [f0, f1, f2, f3, f4, f5]))] TT) t.heap ∧ va_D (va_A (HAppend.hAppend (α := va_W) (β := va_W) (γ := va_W) [(h, .inr (2, [.int md, .ref ar, .int 10])), (ar, .inl (dA 5, 10, .inr (.inr (.inr (.inr f))))), (e0, .inr (4, [f0, f1, f2, f3, f4, f5]))] TT) sz) (HAppend.hAppend (α := va_W) (β := va_W) (γ := va_W) [(h, .inr (2, [.int md, .ref u, .int 11])), (u, .inl (dA 5, 15, .inr (.inr (.inr (.inr (va_up (va_cpy f (fun _ => none) 0 0 10) 10 (some e0))))))), (e0, .inr (4, [f0, f1, f2, f3, f4, f5]))] TT)) (va_A (HAppend.hAppend (α := va_W) (β := va_W) (γ := va_W) [(h, .inr (2, [.int md, .ref ar, .int 10])), (ar, .inl (dA 5, 10, .inr (.inr (.inr (.inr f))))), (e0, .inr (4, [f0, f1, f2, f3, f4, f5]))] TT) sz)) 1 15 (va_A (HAppend.hAppend (α := va_W) (β := va_W) (γ := va_W) [(h, .inr (2, [.int md, .ref ar, .int 10])), (ar, .inl (dA 5, 10, .inr (.inr (.inr (.inr f))))), (e0, .inr (4, [f0, f1, f2, f3, f4, f5]))] TT) sz) := by
  refine mb_of (y := yJx4a65c_add_72be8) (av := [.ref h, .ref e0, .ref ar, .int 10]) (maxL := 4) (Qc := fun A => va_Qv (fun (u : Nat) => True) (fun u t => va_P D vwCl (HAppend.hAppend (α := va_W) (β := va_W) (γ := va_W) [(h, .inr (2, [.int md, .ref u, .int 11])), (u, .inl (dA 5, 15, .inr (.inr (.inr (.inr (va_up (va_cpy f (fun _ => none) 0 0 10) 10 (some e0))))))), (e0, .inr (4, [f0, f1, f2, f3, f4, f5]))] TT) t.heap ∧ va_D A (HAppend.hAppend (α := va_W) (β := va_W) (γ := va_W) [(h, .inr (2, [.int md, .ref u, .int 11])), (u, .inl (dA 5, 15, .inr (.inr (.inr (.inr (va_up (va_cpy f (fun _ => none) 0 0 10) 10 (some e0))))))), (e0, .inr (4, [f0, f1, f2, f3, f4, f5]))] TT)) A) RJx4a65c rfl (by decide) (Nat.le_of_ble_eq_true rfl) ?_
  intro p e s m args below meth c hae hx hb hr hts hown hlocks hml hnm hP hK A hAe hD hZ hS hA ls hl
  replace hl : lv_has ls 4 [(0, .ref h), (1, .ref e0), (2, .ref ar), (3, .int 10)] := hl
  refine lv_iload_n hx hb dJx4a65c_add_72be8_0 rfl (lv_at hl 3 rfl) ?_
  refine lv_aload_n hx hb dJx4a65c_add_72be8_1 rfl (lv_at hl 2 rfl) ?_
  refine va_alen hx hb hK hP 1 5 rfl rfl (v := 10) (show Int32.ofNat 10 = 10 by decide) dJx4a65c_add_72be8_2 ?_
  refine lv_icmp_ne (tgt := 11) hx hb dJx4a65c_add_72be8_3 (by decide) (fun c1 => absurd (by decide) c1) (fun _ => ?_)
  refine lv_aload_n hx hb dJx4a65c_add_72be8_6 rfl (lv_at hl 0 rfl) ?_
  replace hPc := va_P.part (X := [(h, .inr (2, [.int md, .ref ar, .int 10])), (ar, .inl (dA 5, 10, .inr (.inr (.inr (.inr f))))), (e0, .inr (4, [f0, f1, f2, f3, f4, f5]))]) (cx := [(h, .inr (2, [.int md, .ref ar, .int 10])), (ar, .inl (dA 5, 10, .inr (.inr (.inr (.inr f)))))]) (pl := TT) hP [0, 1] rfl
  replace hDc := va_D.part (X := [(h, .inr (2, [.int md, .ref ar, .int 10])), (ar, .inl (dA 5, 10, .inr (.inr (.inr (.inr f))))), (e0, .inr (4, [f0, f1, f2, f3, f4, f5]))]) (cx := [(h, .inr (2, [.int md, .ref ar, .int 10])), (ar, .inl (dA 5, 10, .inr (.inr (.inr (.inr f)))))]) (pl := TT) hD [0, 1] (by decide) rfl
  replace hFc := va_freeP (X := [(h, .inr (2, [.int md, .ref ar, .int 10])), (ar, .inl (dA 5, 10, .inr (.inr (.inr (.inr f))))), (e0, .inr (4, [f0, f1, f2, f3, f4, f5]))]) (cx := [(h, .inr (2, [.int md, .ref ar, .int 10])), (ar, .inl (dA 5, 10, .inr (.inr (.inr (.inr f)))))]) (pl := TT) hD hS hA [0, 1] rfl
  refine va_callr (va_runV (As := []) (rest := []) ⟨hx, hb, hml, hown, hts⟩ (l_grow0_4_10 l D dA E h md ar f TT ea fs s.heap.size  hf hTE) (cwV 0 hts (ga_V q400 q401 q398 q322 q399) rfl rfl rfl (by decide +kernel) ⟨(Nat.le_of_ble_eq_true rfl), (Nat.le_of_ble_eq_true rfl)⟩) ⟨pb_blind, va_recv hK hPc (ci := 2) (q0 := 0) rfl rfl, pb_pre hK hPc hDc hZ hS hFc _⟩ rfl rfl hl.1 rfl (lv_room (Nat.le_of_ble_eq_true rfl)) dJx4a65c_add_72be8_7 ⟨(Nat.le_of_ble_eq_true rfl), (Nat.le_of_ble_eq_true rfl)⟩) hS (fun q _ h => hFc q h) hFc (fun u ra t H1 locs ht hvm hw hB hz1 hk1 hS => ?_)
  refine W.widen (k := 1) (n := 15) (Nat.le_of_ble_eq_true rfl) (Nat.le_of_ble_eq_true rfl) ?_
  obtain ⟨q2, rfl⟩ : ∃ z, z = ra := ⟨_, rfl⟩
  obtain ⟨u3, rfl⟩ : ∃ z, z = u := ⟨_, rfl⟩
  have hw4 := hw
  clear hw
  obtain ⟨hP1, hD1⟩ := hB
  rw [ht] at hP1
  obtain ⟨hP, hD⟩ := va_joinP (X := [(h, .inr (2, [.int md, .ref ar, .int 10])), (ar, .inl (dA 5, 10, .inr (.inr (.inr (.inr f))))), (e0, .inr (4, [f0, f1, f2, f3, f4, f5]))]) (cx := [(h, .inr (2, [.int md, .ref ar, .int 10])), (ar, .inl (dA 5, 10, .inr (.inr (.inr (.inr f)))))]) (wr := [(e0, .inr (4, [f0, f1, f2, f3, f4, f5]))]) (rx := [(h, .inr (2, [.int md, .ref q2, .int 10])), (q2, .inl (dA 5, 15, .inr (.inr (.inr (.inr (va_cpy f (fun _ => none) 0 0 10))))))]) (pl := TT) (pl1 := TT) hP hD [0, 1] [2] rfl rfl (by decide) (by decide) hk1 hFc hP1 hD1
  generalize H1 = H at hP hS ⊢
  replace hP : va_P D vwCl (HAppend.hAppend (α := va_W) (β := va_W) (γ := va_W) [(e0, .inr (4, [f0, f1, f2, f3, f4, f5])), (h, .inr (2, [.int md, .ref q2, .int 10])), (q2, .inl (dA 5, 15, .inr (.inr (.inr (.inr (va_cpy f (fun _ => none) 0 0 10))))))] TT) H := hP
  replace hD : va_D A (HAppend.hAppend (α := va_W) (β := va_W) (γ := va_W) [(e0, .inr (4, [f0, f1, f2, f3, f4, f5])), (h, .inr (2, [.int md, .ref q2, .int 10])), (q2, .inl (dA 5, 15, .inr (.inr (.inr (.inr (va_cpy f (fun _ => none) 0 0 10))))))] TT) := hD
  refine lv_astore_n (lv' := [(2, .ref q2), (0, .ref h), (1, .ref e0), (3, .int 10)]) hx hb dJx4a65c_add_72be8_10 rfl hl (by decide) rfl (fun ls hl => ?_)
  refine lv_aload_n hx hb dJx4a65c_add_72be8_11 rfl (lv_at hl 0 rfl) ?_
  refine lv_iload_n hx hb dJx4a65c_add_72be8_12 rfl (lv_at hl 3 rfl) ?_
  refine lv_aload_n hx hb dJx4a65c_add_72be8_13 rfl (lv_at hl 2 rfl) ?_
  refine va_astqO (r := (RX1, TX1, 6)) hx hb hK hP hD hS 2 5 0 4 rfl rfl (znC_21 hZ.1) rfl rfl (vi_c (by decide)) dJx4a65c_add_72be8_14 (fun H locs hP hD hS => ?_)
  replace hP : va_P D vwCl (HAppend.hAppend (α := va_W) (β := va_W) (γ := va_W) [(e0, .inr (4, [f0, f1, f2, f3, f4, f5])), (h, .inr (2, [.int md, .ref q2, .int 10])), (q2, .inl (dA 5, 15, .inr (.inr (.inr (.inr (va_up (va_cpy f (fun _ => none) 0 0 10) 10 (some e0)))))))] TT) H := hP
  replace hD : va_D A (HAppend.hAppend (α := va_W) (β := va_W) (γ := va_W) [(e0, .inr (4, [f0, f1, f2, f3, f4, f5])), (h, .inr (2, [.int md, .ref q2, .int 10])), (q2, .inl (dA 5, 15, .inr (.inr (.inr (.inr (va_up (va_cpy f (fun _ => none) 0 0 10) 10 (some e0)))))))] TT) := hD
  refine lv_aload_n hx hb dJx4a65c_add_72be8_15 rfl (lv_at hl 1 rfl) ?_
  refine lv_iload_n hx hb dJx4a65c_add_72be8_16 rfl (lv_at hl 3 rfl) ?_
  refine lv_iconst (v := 1) hx hb dJx4a65c_add_72be8_17 (by decide) ?_
  refine lv_iadd hx hb dJx4a65c_add_72be8_18 ?_
  refine lv_topi (fun x5 ex5 => ?_)
  replace ex5 : x5 = 11 := ex5.trans (by decide)
  subst ex5
  refine va_put (D := D) (ci := 2) (v := .int 11) (ty := .int) (C := RJx4a65c) (T := TJx4a65c) (N := 3) hx hb hts inAJx4a65c tyJx4a65c tyJx4a65c_ok nmJx4a65c hown hK hP hD hS 1 rfl rfl 2 (by decide) (hts _ q348) (fun _ h9 => h9) rfl (tyJx4a65c_ok 2 (by decide)) rfl rfl (Nat.le_of_ble_eq_true rfl) dJx4a65c_add_72be8_19 (fun H locs hP hD hS => ?_)
  replace hP : va_P D vwCl (HAppend.hAppend (α := va_W) (β := va_W) (γ := va_W) [(e0, .inr (4, [f0, f1, f2, f3, f4, f5])), (h, .inr (2, [.int md, .ref q2, .int 11])), (q2, .inl (dA 5, 15, .inr (.inr (.inr (.inr (va_up (va_cpy f (fun _ => none) 0 0 10) 10 (some e0)))))))] TT) H := hP
  replace hD : va_D A (HAppend.hAppend (α := va_W) (β := va_W) (γ := va_W) [(e0, .inr (4, [f0, f1, f2, f3, f4, f5])), (h, .inr (2, [.int md, .ref q2, .int 11])), (q2, .inl (dA 5, 15, .inr (.inr (.inr (.inr (va_up (va_cpy f (fun _ => none) 0 0 10) 10 (some e0)))))))] TT) := hD
  refine W.widen (k := 1) (n := 15) (Nat.le_of_ble_eq_true rfl) (Nat.le_of_ble_eq_true rfl) ?_
  have hP9 := va_P.part (X := [(e0, .inr (4, [f0, f1, f2, f3, f4, f5])), (h, .inr (2, [.int md, .ref q2, .int 11])), (q2, .inl (dA 5, 15, .inr (.inr (.inr (.inr (va_up (va_cpy f (fun _ => none) 0 0 10) 10 (some e0)))))))]) (cx := [(h, .inr (2, [.int md, .ref q2, .int 11])), (q2, .inl (dA 5, 15, .inr (.inr (.inr (.inr (va_up (va_cpy f (fun _ => none) 0 0 10) 10 (some e0))))))), (e0, .inr (4, [f0, f1, f2, f3, f4, f5]))]) (pl := TT) hP [1, 2, 0] rfl
  have hD9 := va_D.part (X := [(e0, .inr (4, [f0, f1, f2, f3, f4, f5])), (h, .inr (2, [.int md, .ref q2, .int 11])), (q2, .inl (dA 5, 15, .inr (.inr (.inr (.inr (va_up (va_cpy f (fun _ => none) 0 0 10) 10 (some e0)))))))]) (cx := [(h, .inr (2, [.int md, .ref q2, .int 11])), (q2, .inl (dA 5, 15, .inr (.inr (.inr (.inr (va_up (va_cpy f (fun _ => none) 0 0 10) 10 (some e0))))))), (e0, .inr (4, [f0, f1, f2, f3, f4, f5]))]) (pl := TT) hD [1, 2, 0] (by decide) rfl
  exact W.vret hx hb hr (fun t ht hW => ⟨⟨q2, rfl, trivial, ⟨by rw [ht]; exact hP9, hD9⟩⟩, hS.F ht⟩) hS.2.2 dJx4a65c_add_72be8_22
