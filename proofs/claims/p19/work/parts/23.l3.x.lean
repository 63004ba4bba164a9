/-! the exception of the last call -/
set_option maxHeartbeats 4000000 in
set_option maxRecDepth 100000 in
theorem g_thrown9 (l : Launch) (D : va_G) (dA : Nat → ClassId) (E : Nat) (h : Nat) (t0 : Int32) (fs : List Value) (sz : Nat)  : Met l yX9_thrown (wq (.code yX9_thrown cX9_thrown 1 (some .int))) { frames := 0, cells := 0, slots := 0, locals := 0 } (va_Pc [.ref h] (PcB D dA E [(h, .inr (12, .int t0 :: fs))] sz)) (va_Qi (fun (r : Int32) (u : Unit) => r = t0) (fun u t => va_P D vwCl [(h, .inr (12, .int t0 :: fs))] t.heap ∧ va_D (va_A [(h, .inr (12, .int t0 :: fs))] sz) [(h, .inr (12, .int t0 :: fs))]) (va_A [(h, .inr (12, .int t0 :: fs))] sz)) 0 0 (va_A [(h, .inr (12, .int t0 :: fs))] sz) := by
  refine mb_of (y := yX9_thrown) (av := [.ref h]) (maxL := 1) (Qc := fun A => va_Qi (fun (r : Int32) (u : Unit) => r = t0) (fun u t => va_P D vwCl [(h, .inr (12, .int t0 :: fs))] t.heap ∧ va_D A [(h, .inr (12, .int t0 :: fs))]) A) RX9 rfl (by decide) (Nat.le_of_ble_eq_true rfl) ?_
  intro p e s m args below meth c hae hx hb hr hts hown hlocks hml hnm hP hK A hAe hD hZ hS hA ls hl
  replace hl : lv_has ls 1 [(0, .ref h)] := hl
  refine lv_aload_n hx hb dX9_thrown_0 rfl (lv_at hl 0 rfl) ?_
  refine va_get (D := D) (ci := 12) (v := .int t0) (C := RX9) (T := TX9) (N := 49) hx hb hts inAX9 hown hK hP 0 rfl rfl 0 (by decide) (hts _ q16) (fun _ h9 => h9) rfl dX9_thrown_1 ?_
  refine W.widen (k := 0) (n := 0) (Nat.le_of_ble_eq_true rfl) (Nat.le_of_ble_eq_true rfl) ?_
  have hP9 := hP.sub (ws' := [(h, .inr (12, .int t0 :: fs))]) [0] rfl
  have hD9 := hD.sub (ws' := [(h, .inr (12, .int t0 :: fs))]) [0] (by decide) rfl
  exact W.iret (v := t0) hx hb hr (fun t ht hW => ⟨⟨t0, (), rfl, rfl, ⟨by rw [ht]; exact hP9, hD9⟩⟩, hS.F ht⟩) hS.2.2 dX9_thrown_4

