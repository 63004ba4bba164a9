/-! CONTRACTS, general -/
set_option maxHeartbeats 4000000 in
set_option maxRecDepth 100000 in
theorem l_addO_View (l : Launch) (D : va_G) (dA : Nat → ClassId) (E : Nat) (h e0 ar n cap : Nat) (md : Int32) (f : Nat → Option Nat) (f0 f1 f2 : Value) (sz : Nat) (hn : n < cap) (hcap : cap ≤ 60)  : Met l yJx4a65c_add_9ea2d (wq (.code yJx4a65c_add_9ea2d cJx4a65c_add_9ea2d 2 (some .boolean))) { frames := 1, cells := 0, slots := 0, locals := 23 } (va_Pc [.ref h, .ref e0] (PcB D dA E [(h, .inr (2, [.int md, .ref ar, .int (nI n)])), (ar, .inl (dA 5, cap, .inr (.inr (.inr (.inr f))))), (e0, .inr (10, [f0, f1, f2]))] sz)) (va_Qi (fun (r : Int32) (u : Unit) => r = 1) (fun u t => va_P D vwCl [(h, .inr (2, [.int (md + 1), .ref ar, .int (nI (n + 1))])), (ar, .inl (dA 5, cap, .inr (.inr (.inr (.inr (va_up f n (some e0))))))), (e0, .inr (10, [f0, f1, f2]))] t.heap ∧ va_D (va_A [(h, .inr (2, [.int md, .ref ar, .int (nI n)])), (ar, .inl (dA 5, cap, .inr (.inr (.inr (.inr f))))), (e0, .inr (10, [f0, f1, f2]))] sz) [(h, .inr (2, [.int (md + 1), .ref ar, .int (nI (n + 1))])), (ar, .inl (dA 5, cap, .inr (.inr (.inr (.inr (va_up f n (some e0))))))), (e0, .inr (10, [f0, f1, f2]))]) (va_A [(h, .inr (2, [.int md, .ref ar, .int (nI n)])), (ar, .inl (dA 5, cap, .inr (.inr (.inr (.inr f))))), (e0, .inr (10, [f0, f1, f2]))] sz)) 0 0 (va_A [(h, .inr (2, [.int md, .ref ar, .int (nI n)])), (ar, .inl (dA 5, cap, .inr (.inr (.inr (.inr f))))), (e0, .inr (10, [f0, f1, f2]))] sz) := by
  refine mb_of (Qc := fun A => va_Qi (fun (r : Int32) (u : Unit) => r = 1) (fun u t => va_P D vwCl [(h, .inr (2, [.int (md + 1), .ref ar, .int (nI (n + 1))])), (ar, .inl (dA 5, cap, .inr (.inr (.inr (.inr (va_up f n (some e0))))))), (e0, .inr (10, [f0, f1, f2]))] t.heap ∧ va_D A [(h, .inr (2, [.int (md + 1), .ref ar, .int (nI (n + 1))])), (ar, .inl (dA 5, cap, .inr (.inr (.inr (.inr (va_up f n (some e0))))))), (e0, .inr (10, [f0, f1, f2]))]) A) RJx4a65c rfl (by decide) (Nat.le_of_ble_eq_true rfl) ?_
  intro p e s m args below meth c hae hx hb hr hts hown hlocks hml hnm hP hK A hAe hD hZ hS hA ls hl
  replace hl : lv_has ls 2 [(0, .ref h), (1, .ref e0)] := hl
  refine lv_aload_n hx hb dJx4a65c_add_9ea2d_0 rfl (lv_at hl 0 rfl) ?_
  refine lv_dup hx hb dJx4a65c_add_9ea2d_1 rfl ?_
  refine va_get (D := D) (ci := 2) (v := .int md) (C := RJx4a65c) (T := TJx4a65c) (N := 3) hx hb hts inAJx4a65c hown hK hP 0 rfl rfl 0 (by decide) (hts _ q361) (u_same (hts _ q362)) rfl dJx4a65c_add_9ea2d_2 ?_
  refine lv_iconst (v := 1) hx hb dJx4a65c_add_9ea2d_5 (by decide) ?_
  refine lv_iadd hx hb dJx4a65c_add_9ea2d_6 ?_
  refine va_put (D := D) (ci := 2) (v := .int (md + 1)) (ty := .int) (C := RJx4a65c) (T := TJx4a65c) (N := 3) hx hb hts inAJx4a65c tyJx4a65c tyJx4a65c_ok nmJx4a65c hown hK hP hD hS 0 rfl rfl 0 (by decide) (hts _ q361) (u_same (hts _ q362)) rfl (tyJx4a65c_ok 0 (by decide)) rfl rfl (Nat.le_of_ble_eq_true rfl) dJx4a65c_add_9ea2d_7 (fun H locs hP hD hS => ?_)
  replace hP : va_P D vwCl [(h, .inr (2, [.int (md + 1), .ref ar, .int (nI n)])), (ar, .inl (dA 5, cap, .inr (.inr (.inr (.inr f))))), (e0, .inr (10, [f0, f1, f2]))] H := hP
  replace hD : va_D A [(h, .inr (2, [.int (md + 1), .ref ar, .int (nI n)])), (ar, .inl (dA 5, cap, .inr (.inr (.inr (.inr f))))), (e0, .inr (10, [f0, f1, f2]))] := hD
  refine lv_aload_n hx hb dJx4a65c_add_9ea2d_10 rfl (lv_at hl 0 rfl) ?_
  refine lv_aload_n hx hb dJx4a65c_add_9ea2d_11 rfl (lv_at hl 1 rfl) ?_
  refine lv_aload_n hx hb dJx4a65c_add_9ea2d_12 rfl (lv_at hl 0 rfl) ?_
  refine va_get (D := D) (ci := 2) (v := .ref ar) (C := RJx4a65c) (T := TJx4a65c) (N := 3) hx hb hts inAJx4a65c hown hK hP 0 rfl rfl 1 (by decide) (hts _ q275) (fun _ h9 => h9) rfl dJx4a65c_add_9ea2d_13 ?_
  refine lv_aload_n hx hb dJx4a65c_add_9ea2d_16 rfl (lv_at hl 0 rfl) ?_
  refine va_get (D := D) (ci := 2) (v := .int (nI n)) (C := RJx4a65c) (T := TJx4a65c) (N := 3) hx hb hts inAJx4a65c hown hK hP 0 rfl rfl 2 (by decide) (hts _ q348) (fun _ h9 => h9) rfl dJx4a65c_add_9ea2d_17 ?_
  replace hPc := hP.sub (ws' := [(h, .inr (2, [.int (md + 1), .ref ar, .int (nI n)])), (ar, .inl (dA 5, cap, .inr (.inr (.inr (.inr f))))), (e0, .inr (10, [f0, f1, f2]))]) [0, 1, 2] rfl
  replace hDc := hD.sub (ws' := [(h, .inr (2, [.int (md + 1), .ref ar, .int (nI n)])), (ar, .inl (dA 5, cap, .inr (.inr (.inr (.inr f))))), (e0, .inr (10, [f0, f1, f2]))]) [0, 1, 2] (by decide) rfl
  replace hFc := va_free (wc := [(h, .inr (2, [.int (md + 1), .ref ar, .int (nI n)])), (ar, .inl (dA 5, cap, .inr (.inr (.inr (.inr f))))), (e0, .inr (10, [f0, f1, f2]))]) hD hS hA [0, 1, 2] rfl
  refine va_callv (va_runV (As := [.ref e0, .ref ar, .int (nI n)]) (rest := []) ⟨hx, hb, hml, hown, hts⟩ (l_add3O_View l D dA E h e0 ar n cap (md + 1) f (f0) (f1) (f2) H.size  (by omega) (by omega)) (cwV 3 hts (ga_V q404 q405 q402 q322 q403) rfl rfl rfl (by decide +kernel) ⟨(Nat.le_of_ble_eq_true rfl), (Nat.le_of_ble_eq_true rfl)⟩) ⟨pb_blind, va_recv hK hPc (ci := 2) (q0 := 0) rfl rfl, pb_pre hK hPc hDc hZ hS hFc _⟩ rfl rfl hl.1 rfl (lv_room (Nat.le_of_ble_eq_true rfl)) dJx4a65c_add_9ea2d_20 ⟨(Nat.le_of_ble_eq_true rfl), (Nat.le_of_ble_eq_true rfl)⟩) hS (fun q _ h => hFc q h) hFc (fun u t H1 locs ht hvm hw hB hz1 hk1 hS => ?_)
  refine W.widen (k := 0) (n := 0) (Nat.le_of_ble_eq_true rfl) (Nat.le_of_ble_eq_true rfl) ?_
  obtain ⟨u1, rfl⟩ : ∃ z, z = u := ⟨_, rfl⟩
  have hw2 := hw
  clear hw
  obtain ⟨hP1, hD1⟩ := hB
  rw [ht] at hP1
  obtain ⟨hP, hD⟩ := va_join (wr := []) (w1 := [(h, .inr (2, [.int (md + 1), .ref ar, .int (nI (n + 1))])), (ar, .inl (dA 5, cap, .inr (.inr (.inr (.inr (va_up f n (some e0))))))), (e0, .inr (10, [f0, f1, f2]))]) hP hD [0, 1, 2] [] rfl rfl (by decide) (by decide) hk1 hFc hP1 hD1
  generalize H1 = H at hP hS ⊢
  replace hP : va_P D vwCl [(h, .inr (2, [.int (md + 1), .ref ar, .int (nI (n + 1))])), (ar, .inl (dA 5, cap, .inr (.inr (.inr (.inr (va_up f n (some e0))))))), (e0, .inr (10, [f0, f1, f2]))] H := hP
  replace hD : va_D A [(h, .inr (2, [.int (md + 1), .ref ar, .int (nI (n + 1))])), (ar, .inl (dA 5, cap, .inr (.inr (.inr (.inr (va_up f n (some e0))))))), (e0, .inr (10, [f0, f1, f2]))] := hD
  refine lv_iconst (v := 1) hx hb dJx4a65c_add_9ea2d_23 (by decide) ?_
  refine W.widen (k := 0) (n := 0) (Nat.le_of_ble_eq_true rfl) (Nat.le_of_ble_eq_true rfl) ?_
  have hP9 := hP.sub (ws' := [(h, .inr (2, [.int (md + 1), .ref ar, .int (nI (n + 1))])), (ar, .inl (dA 5, cap, .inr (.inr (.inr (.inr (va_up f n (some e0))))))), (e0, .inr (10, [f0, f1, f2]))]) [0, 1, 2] rfl
  have hD9 := hD.sub (ws' := [(h, .inr (2, [.int (md + 1), .ref ar, .int (nI (n + 1))])), (ar, .inl (dA 5, cap, .inr (.inr (.inr (.inr (va_up f n (some e0))))))), (e0, .inr (10, [f0, f1, f2]))]) [0, 1, 2] (by decide) rfl
  exact W.zret (v := 1) hx hb hr rfl (fun t ht hW => ⟨⟨1, (), rfl, rfl, ⟨by rw [ht]; exact hP9, hD9⟩⟩, hS.F ht⟩) hS.2.2 dJx4a65c_add_9ea2d_24

set_option maxHeartbeats 4000000 in
set_option maxRecDepth 100000 in
theorem l_addE_Query (l : Launch) (D : va_G) (dA : Nat → ClassId) (E : Nat) (h e0 : Nat) (md : Int32) (f0 f1 f2 f3 f4 f5 : Value) (sz : Nat)   : Met l yJx4a65c_add_9ea2d (wq (.code yJx4a65c_add_9ea2d cJx4a65c_add_9ea2d 2 (some .boolean))) { frames := 4, cells := 1, slots := 10, locals := 80 } (va_Pc [.ref h, .ref e0] (PcB D dA E [(h, .inr (2, [.int md, .ref E, .int 0])), (e0, .inr (4, [f0, f1, f2, f3, f4, f5]))] sz)) (va_Qi (fun (r : Int32) (u : Nat) => r = 1) (fun u t => va_P D vwCl [(h, .inr (2, [.int (md + 1), .ref u, .int 1])), (u, .inl (dA 5, 10, .inr (.inr (.inr (.inr (va_up (fun _ => none) 0 (some e0))))))), (e0, .inr (4, [f0, f1, f2, f3, f4, f5]))] t.heap ∧ va_D (va_A [(h, .inr (2, [.int md, .ref E, .int 0])), (e0, .inr (4, [f0, f1, f2, f3, f4, f5]))] sz) [(h, .inr (2, [.int (md + 1), .ref u, .int 1])), (u, .inl (dA 5, 10, .inr (.inr (.inr (.inr (va_up (fun _ => none) 0 (some e0))))))), (e0, .inr (4, [f0, f1, f2, f3, f4, f5]))]) (va_A [(h, .inr (2, [.int md, .ref E, .int 0])), (e0, .inr (4, [f0, f1, f2, f3, f4, f5]))] sz)) 1 10 (va_A [(h, .inr (2, [.int md, .ref E, .int 0])), (e0, .inr (4, [f0, f1, f2, f3, f4, f5]))] sz) := by
  refine mb_of (Qc := fun A => va_Qi (fun (r : Int32) (u : Nat) => r = 1) (fun u t => va_P D vwCl [(h, .inr (2, [.int (md + 1), .ref u, .int 1])), (u, .inl (dA 5, 10, .inr (.inr (.inr (.inr (va_up (fun _ => none) 0 (some e0))))))), (e0, .inr (4, [f0, f1, f2, f3, f4, f5]))] t.heap ∧ va_D A [(h, .inr (2, [.int (md + 1), .ref u, .int 1])), (u, .inl (dA 5, 10, .inr (.inr (.inr (.inr (va_up (fun _ => none) 0 (some e0))))))), (e0, .inr (4, [f0, f1, f2, f3, f4, f5]))]) A) RJx4a65c rfl (by decide) (Nat.le_of_ble_eq_true rfl) ?_
  intro p e s m args below meth c hae hx hb hr hts hown hlocks hml hnm hP hK A hAe hD hZ hS hA ls hl
  replace hl : lv_has ls 2 [(0, .ref h), (1, .ref e0)] := hl
  refine lv_aload_n hx hb dJx4a65c_add_9ea2d_0 rfl (lv_at hl 0 rfl) ?_
  refine lv_dup hx hb dJx4a65c_add_9ea2d_1 rfl ?_
  refine va_get (D := D) (ci := 2) (v := .int md) (C := RJx4a65c) (T := TJx4a65c) (N := 3) hx hb hts inAJx4a65c hown hK hP 0 rfl rfl 0 (by decide) (hts _ q361) (u_same (hts _ q362)) rfl dJx4a65c_add_9ea2d_2 ?_
  refine lv_iconst (v := 1) hx hb dJx4a65c_add_9ea2d_5 (by decide) ?_
  refine lv_iadd hx hb dJx4a65c_add_9ea2d_6 ?_
  refine va_put (D := D) (ci := 2) (v := .int (md + 1)) (ty := .int) (C := RJx4a65c) (T := TJx4a65c) (N := 3) hx hb hts inAJx4a65c tyJx4a65c tyJx4a65c_ok nmJx4a65c hown hK hP hD hS 0 rfl rfl 0 (by decide) (hts _ q361) (u_same (hts _ q362)) rfl (tyJx4a65c_ok 0 (by decide)) rfl rfl (Nat.le_of_ble_eq_true rfl) dJx4a65c_add_9ea2d_7 (fun H locs hP hD hS => ?_)
  replace hP : va_P D vwCl [(h, .inr (2, [.int (md + 1), .ref E, .int 0])), (e0, .inr (4, [f0, f1, f2, f3, f4, f5]))] H := hP
  replace hD : va_D A [(h, .inr (2, [.int (md + 1), .ref E, .int 0])), (e0, .inr (4, [f0, f1, f2, f3, f4, f5]))] := hD
  refine lv_aload_n hx hb dJx4a65c_add_9ea2d_10 rfl (lv_at hl 0 rfl) ?_
  refine lv_aload_n hx hb dJx4a65c_add_9ea2d_11 rfl (lv_at hl 1 rfl) ?_
  refine lv_aload_n hx hb dJx4a65c_add_9ea2d_12 rfl (lv_at hl 0 rfl) ?_
  refine va_get (D := D) (ci := 2) (v := .ref E) (C := RJx4a65c) (T := TJx4a65c) (N := 3) hx hb hts inAJx4a65c hown hK hP 0 rfl rfl 1 (by decide) (hts _ q275) (fun _ h9 => h9) rfl dJx4a65c_add_9ea2d_13 ?_
  refine lv_aload_n hx hb dJx4a65c_add_9ea2d_16 rfl (lv_at hl 0 rfl) ?_
  refine va_get (D := D) (ci := 2) (v := .int 0) (C := RJx4a65c) (T := TJx4a65c) (N := 3) hx hb hts inAJx4a65c hown hK hP 0 rfl rfl 2 (by decide) (hts _ q348) (fun _ h9 => h9) rfl dJx4a65c_add_9ea2d_17 ?_
  replace hPc := hP.sub (ws' := [(h, .inr (2, [.int (md + 1), .ref E, .int 0])), (e0, .inr (4, [f0, f1, f2, f3, f4, f5]))]) [0, 1] rfl
  replace hDc := hD.sub (ws' := [(h, .inr (2, [.int (md + 1), .ref E, .int 0])), (e0, .inr (4, [f0, f1, f2, f3, f4, f5]))]) [0, 1] (by decide) rfl
  replace hFc := va_free (wc := [(h, .inr (2, [.int (md + 1), .ref E, .int 0])), (e0, .inr (4, [f0, f1, f2, f3, f4, f5]))]) hD hS hA [0, 1] rfl
  refine va_callv (va_runV (As := [.ref e0, .ref E, .int 0]) (rest := []) ⟨hx, hb, hml, hown, hts⟩ (l_add3E_Query l D dA E h e0 (md + 1) (f0) (f1) (f2) (f3) (f4) (f5) H.size ) (cwV 3 hts (ga_V q404 q405 q402 q322 q403) rfl rfl rfl (by decide +kernel) ⟨(Nat.le_of_ble_eq_true rfl), (Nat.le_of_ble_eq_true rfl)⟩) ⟨pb_blind, va_recv hK hPc (ci := 2) (q0 := 0) rfl rfl, pb_pre hK hPc hDc hZ hS hFc _⟩ rfl rfl hl.1 rfl (lv_room (Nat.le_of_ble_eq_true rfl)) dJx4a65c_add_9ea2d_20 ⟨(Nat.le_of_ble_eq_true rfl), (Nat.le_of_ble_eq_true rfl)⟩) hS (fun q _ h => hFc q h) hFc (fun u t H1 locs ht hvm hw hB hz1 hk1 hS => ?_)
  refine W.widen (k := 1) (n := 10) (Nat.le_of_ble_eq_true rfl) (Nat.le_of_ble_eq_true rfl) ?_
  obtain ⟨u1, rfl⟩ : ∃ z, z = u := ⟨_, rfl⟩
  have hw2 := hw
  clear hw
  obtain ⟨hP1, hD1⟩ := hB
  rw [ht] at hP1
  obtain ⟨hP, hD⟩ := va_join (wr := []) (w1 := [(h, .inr (2, [.int (md + 1), .ref u1, .int 1])), (u1, .inl (dA 5, 10, .inr (.inr (.inr (.inr (va_up (fun _ => none) 0 (some e0))))))), (e0, .inr (4, [f0, f1, f2, f3, f4, f5]))]) hP hD [0, 1] [] rfl rfl (by decide) (by decide) hk1 hFc hP1 hD1
  generalize H1 = H at hP hS ⊢
  replace hP : va_P D vwCl [(h, .inr (2, [.int (md + 1), .ref u1, .int 1])), (u1, .inl (dA 5, 10, .inr (.inr (.inr (.inr (va_up (fun _ => none) 0 (some e0))))))), (e0, .inr (4, [f0, f1, f2, f3, f4, f5]))] H := hP
  replace hD : va_D A [(h, .inr (2, [.int (md + 1), .ref u1, .int 1])), (u1, .inl (dA 5, 10, .inr (.inr (.inr (.inr (va_up (fun _ => none) 0 (some e0))))))), (e0, .inr (4, [f0, f1, f2, f3, f4, f5]))] := hD
  refine lv_iconst (v := 1) hx hb dJx4a65c_add_9ea2d_23 (by decide) ?_
  refine W.widen (k := 1) (n := 10) (Nat.le_of_ble_eq_true rfl) (Nat.le_of_ble_eq_true rfl) ?_
  have hP9 := hP.sub (ws' := [(h, .inr (2, [.int (md + 1), .ref u1, .int 1])), (u1, .inl (dA 5, 10, .inr (.inr (.inr (.inr (va_up (fun _ => none) 0 (some e0))))))), (e0, .inr (4, [f0, f1, f2, f3, f4, f5]))]) [0, 1, 2] rfl
  have hD9 := hD.sub (ws' := [(h, .inr (2, [.int (md + 1), .ref u1, .int 1])), (u1, .inl (dA 5, 10, .inr (.inr (.inr (.inr (va_up (fun _ => none) 0 (some e0))))))), (e0, .inr (4, [f0, f1, f2, f3, f4, f5]))]) [0, 1, 2] (by decide) rfl
  exact W.zret (v := 1) hx hb hr rfl (fun t ht hW => ⟨⟨1, u1, rfl, rfl, ⟨by rw [ht]; exact hP9, hD9⟩⟩, hS.F ht⟩) hS.2.2 dJx4a65c_add_9ea2d_24

set_option maxHeartbeats 4000000 in
set_option maxRecDepth 100000 in
theorem l_addO_Query (l : Launch) (D : va_G) (dA : Nat → ClassId) (E : Nat) (h e0 ar n cap : Nat) (md : Int32) (f : Nat → Option Nat) (f0 f1 f2 f3 f4 f5 : Value) (sz : Nat) (hn : n < cap) (hcap : cap ≤ 60)  : Met l yJx4a65c_add_9ea2d (wq (.code yJx4a65c_add_9ea2d cJx4a65c_add_9ea2d 2 (some .boolean))) { frames := 1, cells := 0, slots := 0, locals := 23 } (va_Pc [.ref h, .ref e0] (PcB D dA E [(h, .inr (2, [.int md, .ref ar, .int (nI n)])), (ar, .inl (dA 5, cap, .inr (.inr (.inr (.inr f))))), (e0, .inr (4, [f0, f1, f2, f3, f4, f5]))] sz)) (va_Qi (fun (r : Int32) (u : Unit) => r = 1) (fun u t => va_P D vwCl [(h, .inr (2, [.int (md + 1), .ref ar, .int (nI (n + 1))])), (ar, .inl (dA 5, cap, .inr (.inr (.inr (.inr (va_up f n (some e0))))))), (e0, .inr (4, [f0, f1, f2, f3, f4, f5]))] t.heap ∧ va_D (va_A [(h, .inr (2, [.int md, .ref ar, .int (nI n)])), (ar, .inl (dA 5, cap, .inr (.inr (.inr (.inr f))))), (e0, .inr (4, [f0, f1, f2, f3, f4, f5]))] sz) [(h, .inr (2, [.int (md + 1), .ref ar, .int (nI (n + 1))])), (ar, .inl (dA 5, cap, .inr (.inr (.inr (.inr (va_up f n (some e0))))))), (e0, .inr (4, [f0, f1, f2, f3, f4, f5]))]) (va_A [(h, .inr (2, [.int md, .ref ar, .int (nI n)])), (ar, .inl (dA 5, cap, .inr (.inr (.inr (.inr f))))), (e0, .inr (4, [f0, f1, f2, f3, f4, f5]))] sz)) 0 0 (va_A [(h, .inr (2, [.int md, .ref ar, .int (nI n)])), (ar, .inl (dA 5, cap, .inr (.inr (.inr (.inr f))))), (e0, .inr (4, [f0, f1, f2, f3, f4, f5]))] sz) := by
  refine mb_of (Qc := fun A => va_Qi (fun (r : Int32) (u : Unit) => r = 1) (fun u t => va_P D vwCl [(h, .inr (2, [.int (md + 1), .ref ar, .int (nI (n + 1))])), (ar, .inl (dA 5, cap, .inr (.inr (.inr (.inr (va_up f n (some e0))))))), (e0, .inr (4, [f0, f1, f2, f3, f4, f5]))] t.heap ∧ va_D A [(h, .inr (2, [.int (md + 1), .ref ar, .int (nI (n + 1))])), (ar, .inl (dA 5, cap, .inr (.inr (.inr (.inr (va_up f n (some e0))))))), (e0, .inr (4, [f0, f1, f2, f3, f4, f5]))]) A) RJx4a65c rfl (by decide) (Nat.le_of_ble_eq_true rfl) ?_
  intro p e s m args below meth c hae hx hb hr hts hown hlocks hml hnm hP hK A hAe hD hZ hS hA ls hl
  replace hl : lv_has ls 2 [(0, .ref h), (1, .ref e0)] := hl
  refine lv_aload_n hx hb dJx4a65c_add_9ea2d_0 rfl (lv_at hl 0 rfl) ?_
  refine lv_dup hx hb dJx4a65c_add_9ea2d_1 rfl ?_
  refine va_get (D := D) (ci := 2) (v := .int md) (C := RJx4a65c) (T := TJx4a65c) (N := 3) hx hb hts inAJx4a65c hown hK hP 0 rfl rfl 0 (by decide) (hts _ q361) (u_same (hts _ q362)) rfl dJx4a65c_add_9ea2d_2 ?_
  refine lv_iconst (v := 1) hx hb dJx4a65c_add_9ea2d_5 (by decide) ?_
  refine lv_iadd hx hb dJx4a65c_add_9ea2d_6 ?_
  refine va_put (D := D) (ci := 2) (v := .int (md + 1)) (ty := .int) (C := RJx4a65c) (T := TJx4a65c) (N := 3) hx hb hts inAJx4a65c tyJx4a65c tyJx4a65c_ok nmJx4a65c hown hK hP hD hS 0 rfl rfl 0 (by decide) (hts _ q361) (u_same (hts _ q362)) rfl (tyJx4a65c_ok 0 (by decide)) rfl rfl (Nat.le_of_ble_eq_true rfl) dJx4a65c_add_9ea2d_7 (fun H locs hP hD hS => ?_)
  replace hP : va_P D vwCl [(h, .inr (2, [.int (md + 1), .ref ar, .int (nI n)])), (ar, .inl (dA 5, cap, .inr (.inr (.inr (.inr f))))), (e0, .inr (4, [f0, f1, f2, f3, f4, f5]))] H := hP
  replace hD : va_D A [(h, .inr (2, [.int (md + 1), .ref ar, .int (nI n)])), (ar, .inl (dA 5, cap, .inr (.inr (.inr (.inr f))))), (e0, .inr (4, [f0, f1, f2, f3, f4, f5]))] := hD
  refine lv_aload_n hx hb dJx4a65c_add_9ea2d_10 rfl (lv_at hl 0 rfl) ?_
  refine lv_aload_n hx hb dJx4a65c_add_9ea2d_11 rfl (lv_at hl 1 rfl) ?_
  refine lv_aload_n hx hb dJx4a65c_add_9ea2d_12 rfl (lv_at hl 0 rfl) ?_
  refine va_get (D := D) (ci := 2) (v := .ref ar) (C := RJx4a65c) (T := TJx4a65c) (N := 3) hx hb hts inAJx4a65c hown hK hP 0 rfl rfl 1 (by decide) (hts _ q275) (fun _ h9 => h9) rfl dJx4a65c_add_9ea2d_13 ?_
  refine lv_aload_n hx hb dJx4a65c_add_9ea2d_16 rfl (lv_at hl 0 rfl) ?_
  refine va_get (D := D) (ci := 2) (v := .int (nI n)) (C := RJx4a65c) (T := TJx4a65c) (N := 3) hx hb hts inAJx4a65c hown hK hP 0 rfl rfl 2 (by decide) (hts _ q348) (fun _ h9 => h9) rfl dJx4a65c_add_9ea2d_17 ?_
  replace hPc := hP.sub (ws' := [(h, .inr (2, [.int (md + 1), .ref ar, .int (nI n)])), (ar, .inl (dA 5, cap, .inr (.inr (.inr (.inr f))))), (e0, .inr (4, [f0, f1, f2, f3, f4, f5]))]) [0, 1, 2] rfl
  replace hDc := hD.sub (ws' := [(h, .inr (2, [.int (md + 1), .ref ar, .int (nI n)])), (ar, .inl (dA 5, cap, .inr (.inr (.inr (.inr f))))), (e0, .inr (4, [f0, f1, f2, f3, f4, f5]))]) [0, 1, 2] (by decide) rfl
  replace hFc := va_free (wc := [(h, .inr (2, [.int (md + 1), .ref ar, .int (nI n)])), (ar, .inl (dA 5, cap, .inr (.inr (.inr (.inr f))))), (e0, .inr (4, [f0, f1, f2, f3, f4, f5]))]) hD hS hA [0, 1, 2] rfl
  refine va_callv (va_runV (As := [.ref e0, .ref ar, .int (nI n)]) (rest := []) ⟨hx, hb, hml, hown, hts⟩ (l_add3O_Query l D dA E h e0 ar n cap (md + 1) f (f0) (f1) (f2) (f3) (f4) (f5) H.size  (by omega) (by omega)) (cwV 3 hts (ga_V q404 q405 q402 q322 q403) rfl rfl rfl (by decide +kernel) ⟨(Nat.le_of_ble_eq_true rfl), (Nat.le_of_ble_eq_true rfl)⟩) ⟨pb_blind, va_recv hK hPc (ci := 2) (q0 := 0) rfl rfl, pb_pre hK hPc hDc hZ hS hFc _⟩ rfl rfl hl.1 rfl (lv_room (Nat.le_of_ble_eq_true rfl)) dJx4a65c_add_9ea2d_20 ⟨(Nat.le_of_ble_eq_true rfl), (Nat.le_of_ble_eq_true rfl)⟩) hS (fun q _ h => hFc q h) hFc (fun u t H1 locs ht hvm hw hB hz1 hk1 hS => ?_)
  refine W.widen (k := 0) (n := 0) (Nat.le_of_ble_eq_true rfl) (Nat.le_of_ble_eq_true rfl) ?_
  obtain ⟨u1, rfl⟩ : ∃ z, z = u := ⟨_, rfl⟩
  have hw2 := hw
  clear hw
  obtain ⟨hP1, hD1⟩ := hB
  rw [ht] at hP1
  obtain ⟨hP, hD⟩ := va_join (wr := []) (w1 := [(h, .inr (2, [.int (md + 1), .ref ar, .int (nI (n + 1))])), (ar, .inl (dA 5, cap, .inr (.inr (.inr (.inr (va_up f n (some e0))))))), (e0, .inr (4, [f0, f1, f2, f3, f4, f5]))]) hP hD [0, 1, 2] [] rfl rfl (by decide) (by decide) hk1 hFc hP1 hD1
  generalize H1 = H at hP hS ⊢
  replace hP : va_P D vwCl [(h, .inr (2, [.int (md + 1), .ref ar, .int (nI (n + 1))])), (ar, .inl (dA 5, cap, .inr (.inr (.inr (.inr (va_up f n (some e0))))))), (e0, .inr (4, [f0, f1, f2, f3, f4, f5]))] H := hP
  replace hD : va_D A [(h, .inr (2, [.int (md + 1), .ref ar, .int (nI (n + 1))])), (ar, .inl (dA 5, cap, .inr (.inr (.inr (.inr (va_up f n (some e0))))))), (e0, .inr (4, [f0, f1, f2, f3, f4, f5]))] := hD
  refine lv_iconst (v := 1) hx hb dJx4a65c_add_9ea2d_23 (by decide) ?_
  refine W.widen (k := 0) (n := 0) (Nat.le_of_ble_eq_true rfl) (Nat.le_of_ble_eq_true rfl) ?_
  have hP9 := hP.sub (ws' := [(h, .inr (2, [.int (md + 1), .ref ar, .int (nI (n + 1))])), (ar, .inl (dA 5, cap, .inr (.inr (.inr (.inr (va_up f n (some e0))))))), (e0, .inr (4, [f0, f1, f2, f3, f4, f5]))]) [0, 1, 2] rfl
  have hD9 := hD.sub (ws' := [(h, .inr (2, [.int (md + 1), .ref ar, .int (nI (n + 1))])), (ar, .inl (dA 5, cap, .inr (.inr (.inr (.inr (va_up f n (some e0))))))), (e0, .inr (4, [f0, f1, f2, f3, f4, f5]))]) [0, 1, 2] (by decide) rfl
  exact W.zret (v := 1) hx hb hr rfl (fun t ht hW => ⟨⟨1, (), rfl, rfl, ⟨by rw [ht]; exact hP9, hD9⟩⟩, hS.F ht⟩) hS.2.2 dJx4a65c_add_9ea2d_24
