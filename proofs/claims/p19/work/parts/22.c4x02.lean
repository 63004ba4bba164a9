/-! CONTRACTS, general -/
set_option maxHeartbeats 4000000 in
set_option maxRecDepth 100000 in
theorem i_View (l : Launch) (D : va_G) (dA : Nat → ClassId) (E : Nat) (h r0 : Nat) (p0 p1 : Int32) (sz : Nat)   : Met l yX7_init (wq (.code yX7_init cX7_init 4 none)) { frames := 1, cells := 0, slots := 0, locals := 12 } (va_Pc [.ref h, .int p0, .ref r0, .int p1] (PcB D dA E [(h, .inr (10, [.int 0, .null, .int 0]))] sz)) (va_Qv (fun (u : Unit) => True) (fun u t => va_P D vwCl [(h, .inr (10, [.int p0, .ref r0, .int p1]))] t.heap ∧ va_D (va_A [(h, .inr (10, [.int 0, .null, .int 0]))] sz) [(h, .inr (10, [.int p0, .ref r0, .int p1]))]) (va_A [(h, .inr (10, [.int 0, .null, .int 0]))] sz)) 0 0 (va_A [(h, .inr (10, [.int 0, .null, .int 0]))] sz) := by
  refine mb_of (Qc := fun A => va_Qv (fun (u : Unit) => True) (fun u t => va_P D vwCl [(h, .inr (10, [.int p0, .ref r0, .int p1]))] t.heap ∧ va_D A [(h, .inr (10, [.int p0, .ref r0, .int p1]))]) A) RX7 rfl (by decide) (Nat.le_of_ble_eq_true rfl) ?_
  intro p e s m args below meth c hae hx hb hr hts hown hlocks hml hnm hP hK A hAe hD hZ hS hA ls hl
  replace hl : lv_has ls 4 [(0, .ref h), (1, .int p0), (2, .ref r0), (3, .int p1)] := hl
  refine lv_aload_n hx hb dX7_init_0 rfl (lv_at hl 0 rfl) ?_
  refine W.objInit hx hb hown (hts _ q292) (hts _ q263) (hts _ q264) rfl (by rw [hml]; exact hl.1) rfl dX7_init_1 (Nat.le_of_ble_eq_true rfl) (Nat.le_of_ble_eq_true rfl) ?_
  refine W.eq (g2 := F0 m 4 ls []) rfl ?_
  refine lv_aload_n hx hb dX7_init_4 rfl (lv_at hl 0 rfl) ?_
  refine lv_iload_n hx hb dX7_init_5 rfl (lv_at hl 1 rfl) ?_
  refine va_putF (D := D) (ci := 10) (v := .int p0) (ty := .int) (C := RX7) (T := TX7) (N := 3) hx hb hts inAX7 tyX7 tyX7_ok nmX7 hown hK hP hD hS 0 rfl rfl 0 (by decide) (hts _ q293) (fun _ h9 => h9) rfl hnm rfl (tyX7_ok 0 (by decide)) rfl rfl (Nat.le_of_ble_eq_true rfl) dX7_init_6 (fun H locs hP hD hS => ?_)
  replace hP : va_P D vwCl [(h, .inr (10, [.int p0, .null, .int 0]))] H := hP
  replace hD : va_D A [(h, .inr (10, [.int p0, .null, .int 0]))] := hD
  refine lv_aload_n hx hb dX7_init_9 rfl (lv_at hl 0 rfl) ?_
  refine lv_aload_n hx hb dX7_init_10 rfl (lv_at hl 2 rfl) ?_
  refine va_putF (D := D) (ci := 10) (v := .ref r0) (ty := .object "TallowIndex$Row") (C := RX7) (T := TX7) (N := 3) hx hb hts inAX7 tyX7 tyX7_ok nmX7 hown hK hP hD hS 0 rfl rfl 1 (by decide) (hts _ q294) (fun _ h9 => h9) rfl hnm rfl (tyX7_ok 1 (by decide)) rfl rfl (Nat.le_of_ble_eq_true rfl) dX7_init_11 (fun H locs hP hD hS => ?_)
  replace hP : va_P D vwCl [(h, .inr (10, [.int p0, .ref r0, .int 0]))] H := hP
  replace hD : va_D A [(h, .inr (10, [.int p0, .ref r0, .int 0]))] := hD
  refine lv_aload_n hx hb dX7_init_14 rfl (lv_at hl 0 rfl) ?_
  refine lv_iload_n hx hb dX7_init_15 rfl (lv_at hl 3 rfl) ?_
  refine va_putF (D := D) (ci := 10) (v := .int p1) (ty := .int) (C := RX7) (T := TX7) (N := 3) hx hb hts inAX7 tyX7 tyX7_ok nmX7 hown hK hP hD hS 0 rfl rfl 2 (by decide) (hts _ q295) (fun _ h9 => h9) rfl hnm rfl (tyX7_ok 2 (by decide)) rfl rfl (Nat.le_of_ble_eq_true rfl) dX7_init_16 (fun H locs hP hD hS => ?_)
  replace hP : va_P D vwCl [(h, .inr (10, [.int p0, .ref r0, .int p1]))] H := hP
  replace hD : va_D A [(h, .inr (10, [.int p0, .ref r0, .int p1]))] := hD
  refine W.widen (k := 0) (n := 0) (Nat.le_of_ble_eq_true rfl) (Nat.le_of_ble_eq_true rfl) ?_
  have hP9 := hP.sub (ws' := [(h, .inr (10, [.int p0, .ref r0, .int p1]))]) [0] rfl
  have hD9 := hD.sub (ws' := [(h, .inr (10, [.int p0, .ref r0, .int p1]))]) [0] (by decide) rfl
  exact W.vret hx hb hr (fun t ht hW => ⟨⟨(), rfl, trivial, ⟨by rw [ht]; exact hP9, hD9⟩⟩, hS.F ht⟩) hS.2.2 dX7_init_19

set_option maxHeartbeats 4000000 in
set_option maxRecDepth 100000 in
theorem i_Step (l : Launch) (D : va_G) (dA : Nat → ClassId) (E : Nat) (h : Nat) (p0 p1 p2 : Int32) (sz : Nat) (hch : narrow .char (.int p0) = .int p0 ∧ fits .char (.int p0) = true)  : Met l yX5_init (wq (.code yX5_init cX5_init 4 none)) { frames := 1, cells := 0, slots := 0, locals := 12 } (va_Pc [.ref h, .int p0, .int p1, .int p2] (PcB D dA E [(h, .inr (8, [.int 0, .int 0, .int 0]))] sz)) (va_Qv (fun (u : Unit) => True) (fun u t => va_P D vwCl [(h, .inr (8, [.int p0, .int p1, .int p2]))] t.heap ∧ va_D (va_A [(h, .inr (8, [.int 0, .int 0, .int 0]))] sz) [(h, .inr (8, [.int p0, .int p1, .int p2]))]) (va_A [(h, .inr (8, [.int 0, .int 0, .int 0]))] sz)) 0 0 (va_A [(h, .inr (8, [.int 0, .int 0, .int 0]))] sz) := by
  refine mb_of (Qc := fun A => va_Qv (fun (u : Unit) => True) (fun u t => va_P D vwCl [(h, .inr (8, [.int p0, .int p1, .int p2]))] t.heap ∧ va_D A [(h, .inr (8, [.int p0, .int p1, .int p2]))]) A) RX5 rfl (by decide) (Nat.le_of_ble_eq_true rfl) ?_
  intro p e s m args below meth c hae hx hb hr hts hown hlocks hml hnm hP hK A hAe hD hZ hS hA ls hl
  replace hl : lv_has ls 4 [(0, .ref h), (1, .int p0), (2, .int p1), (3, .int p2)] := hl
  refine lv_aload_n hx hb dX5_init_0 rfl (lv_at hl 0 rfl) ?_
  refine W.objInit hx hb hown (hts _ q296) (hts _ q263) (hts _ q264) rfl (by rw [hml]; exact hl.1) rfl dX5_init_1 (Nat.le_of_ble_eq_true rfl) (Nat.le_of_ble_eq_true rfl) ?_
  refine W.eq (g2 := F0 m 4 ls []) rfl ?_
  refine lv_aload_n hx hb dX5_init_4 rfl (lv_at hl 0 rfl) ?_
  refine lv_iload_n hx hb dX5_init_5 rfl (lv_at hl 1 rfl) ?_
  refine va_putF (D := D) (ci := 8) (v := .int p0) (ty := .char) (C := RX5) (T := TX5) (N := 3) hx hb hts inAX5 tyX5 tyX5_ok nmX5 hown hK hP hD hS 0 rfl rfl 0 (by decide) (hts _ q297) (fun _ h9 => h9) rfl hnm rfl (tyX5_ok 0 (by decide)) hch.1 hch.2 (Nat.le_of_ble_eq_true rfl) dX5_init_6 (fun H locs hP hD hS => ?_)
  replace hP : va_P D vwCl [(h, .inr (8, [.int p0, .int 0, .int 0]))] H := hP
  replace hD : va_D A [(h, .inr (8, [.int p0, .int 0, .int 0]))] := hD
  refine lv_aload_n hx hb dX5_init_9 rfl (lv_at hl 0 rfl) ?_
  refine lv_iload_n hx hb dX5_init_10 rfl (lv_at hl 2 rfl) ?_
  refine va_putF (D := D) (ci := 8) (v := .int p1) (ty := .int) (C := RX5) (T := TX5) (N := 3) hx hb hts inAX5 tyX5 tyX5_ok nmX5 hown hK hP hD hS 0 rfl rfl 1 (by decide) (hts _ q298) (fun _ h9 => h9) rfl hnm rfl (tyX5_ok 1 (by decide)) rfl rfl (Nat.le_of_ble_eq_true rfl) dX5_init_11 (fun H locs hP hD hS => ?_)
  replace hP : va_P D vwCl [(h, .inr (8, [.int p0, .int p1, .int 0]))] H := hP
  replace hD : va_D A [(h, .inr (8, [.int p0, .int p1, .int 0]))] := hD
  refine lv_aload_n hx hb dX5_init_14 rfl (lv_at hl 0 rfl) ?_
  refine lv_iload_n hx hb dX5_init_15 rfl (lv_at hl 3 rfl) ?_
  refine va_putF (D := D) (ci := 8) (v := .int p2) (ty := .int) (C := RX5) (T := TX5) (N := 3) hx hb hts inAX5 tyX5 tyX5_ok nmX5 hown hK hP hD hS 0 rfl rfl 2 (by decide) (hts _ q299) (fun _ h9 => h9) rfl hnm rfl (tyX5_ok 2 (by decide)) rfl rfl (Nat.le_of_ble_eq_true rfl) dX5_init_16 (fun H locs hP hD hS => ?_)
  replace hP : va_P D vwCl [(h, .inr (8, [.int p0, .int p1, .int p2]))] H := hP
  replace hD : va_D A [(h, .inr (8, [.int p0, .int p1, .int p2]))] := hD
  refine W.widen (k := 0) (n := 0) (Nat.le_of_ble_eq_true rfl) (Nat.le_of_ble_eq_true rfl) ?_
  have hP9 := hP.sub (ws' := [(h, .inr (8, [.int p0, .int p1, .int p2]))]) [0] rfl
  have hD9 := hD.sub (ws' := [(h, .inr (8, [.int p0, .int p1, .int p2]))]) [0] (by decide) rfl
  exact W.vret hx hb hr (fun t ht hW => ⟨⟨(), rfl, trivial, ⟨by rw [ht]; exact hP9, hD9⟩⟩, hS.F ht⟩) hS.2.2 dX5_init_19

set_option maxHeartbeats 4000000 in
set_option maxRecDepth 100000 in
theorem i_Query (l : Launch) (D : va_G) (dA : Nat → ClassId) (E : Nat) (h : Nat) (p0 p1 p2 p3 p4 p5 : Int32) (sz : Nat) (hch : narrow .char (.int p0) = .int p0 ∧ fits .char (.int p0) = true)  : Met l yX1_init (wq (.code yX1_init cX1_init 7 none)) { frames := 1, cells := 0, slots := 0, locals := 12 } (va_Pc [.ref h, .int p0, .int p1, .int p2, .int p3, .int p4, .int p5] (PcB D dA E [(h, .inr (4, [.int 0, .int 0, .int 0, .int 0, .int 0, .int 0]))] sz)) (va_Qv (fun (u : Unit) => True) (fun u t => va_P D vwCl [(h, .inr (4, [.int p0, .int p1, .int p2, .int p3, .int p4, .int p5]))] t.heap ∧ va_D (va_A [(h, .inr (4, [.int 0, .int 0, .int 0, .int 0, .int 0, .int 0]))] sz) [(h, .inr (4, [.int p0, .int p1, .int p2, .int p3, .int p4, .int p5]))]) (va_A [(h, .inr (4, [.int 0, .int 0, .int 0, .int 0, .int 0, .int 0]))] sz)) 0 0 (va_A [(h, .inr (4, [.int 0, .int 0, .int 0, .int 0, .int 0, .int 0]))] sz) := by
  refine mb_of (Qc := fun A => va_Qv (fun (u : Unit) => True) (fun u t => va_P D vwCl [(h, .inr (4, [.int p0, .int p1, .int p2, .int p3, .int p4, .int p5]))] t.heap ∧ va_D A [(h, .inr (4, [.int p0, .int p1, .int p2, .int p3, .int p4, .int p5]))]) A) RX1 rfl (by decide) (Nat.le_of_ble_eq_true rfl) ?_
  intro p e s m args below meth c hae hx hb hr hts hown hlocks hml hnm hP hK A hAe hD hZ hS hA ls hl
  replace hl : lv_has ls 7 [(0, .ref h), (1, .int p0), (2, .int p1), (3, .int p2), (4, .int p3), (5, .int p4), (6, .int p5)] := hl
  refine lv_aload_n hx hb dX1_init_0 rfl (lv_at hl 0 rfl) ?_
  refine W.objInit hx hb hown (hts _ q300) (hts _ q263) (hts _ q264) rfl (by rw [hml]; exact hl.1) rfl dX1_init_1 (Nat.le_of_ble_eq_true rfl) (Nat.le_of_ble_eq_true rfl) ?_
  refine W.eq (g2 := F0 m 4 ls []) rfl ?_
  refine lv_aload_n hx hb dX1_init_4 rfl (lv_at hl 0 rfl) ?_
  refine lv_iload_n hx hb dX1_init_5 rfl (lv_at hl 1 rfl) ?_
  refine va_putF (D := D) (ci := 4) (v := .int p0) (ty := .char) (C := RX1) (T := TX1) (N := 6) hx hb hts inAX1 tyX1 tyX1_ok nmX1 hown hK hP hD hS 0 rfl rfl 0 (by decide) (hts _ q301) (fun _ h9 => h9) rfl hnm rfl (tyX1_ok 0 (by decide)) hch.1 hch.2 (Nat.le_of_ble_eq_true rfl) dX1_init_6 (fun H locs hP hD hS => ?_)
  replace hP : va_P D vwCl [(h, .inr (4, [.int p0, .int 0, .int 0, .int 0, .int 0, .int 0]))] H := hP
  replace hD : va_D A [(h, .inr (4, [.int p0, .int 0, .int 0, .int 0, .int 0, .int 0]))] := hD
  refine lv_aload_n hx hb dX1_init_9 rfl (lv_at hl 0 rfl) ?_
  refine lv_iload_n hx hb dX1_init_10 rfl (lv_at hl 2 rfl) ?_
  refine va_putF (D := D) (ci := 4) (v := .int p1) (ty := .int) (C := RX1) (T := TX1) (N := 6) hx hb hts inAX1 tyX1 tyX1_ok nmX1 hown hK hP hD hS 0 rfl rfl 1 (by decide) (hts _ q302) (fun _ h9 => h9) rfl hnm rfl (tyX1_ok 1 (by decide)) rfl rfl (Nat.le_of_ble_eq_true rfl) dX1_init_11 (fun H locs hP hD hS => ?_)
  replace hP : va_P D vwCl [(h, .inr (4, [.int p0, .int p1, .int 0, .int 0, .int 0, .int 0]))] H := hP
  replace hD : va_D A [(h, .inr (4, [.int p0, .int p1, .int 0, .int 0, .int 0, .int 0]))] := hD
  refine lv_aload_n hx hb dX1_init_14 rfl (lv_at hl 0 rfl) ?_
  refine lv_iload_n hx hb dX1_init_15 rfl (lv_at hl 3 rfl) ?_
  refine va_putF (D := D) (ci := 4) (v := .int p2) (ty := .int) (C := RX1) (T := TX1) (N := 6) hx hb hts inAX1 tyX1 tyX1_ok nmX1 hown hK hP hD hS 0 rfl rfl 2 (by decide) (hts _ q303) (fun _ h9 => h9) rfl hnm rfl (tyX1_ok 2 (by decide)) rfl rfl (Nat.le_of_ble_eq_true rfl) dX1_init_16 (fun H locs hP hD hS => ?_)
  replace hP : va_P D vwCl [(h, .inr (4, [.int p0, .int p1, .int p2, .int 0, .int 0, .int 0]))] H := hP
  replace hD : va_D A [(h, .inr (4, [.int p0, .int p1, .int p2, .int 0, .int 0, .int 0]))] := hD
  refine lv_aload_n hx hb dX1_init_19 rfl (lv_at hl 0 rfl) ?_
  refine lv_iload hx hb dX1_init_20 (lv_at hl 4 rfl) ?_
  refine va_putF (D := D) (ci := 4) (v := .int p3) (ty := .int) (C := RX1) (T := TX1) (N := 6) hx hb hts inAX1 tyX1 tyX1_ok nmX1 hown hK hP hD hS 0 rfl rfl 3 (by decide) (hts _ q304) (fun _ h9 => h9) rfl hnm rfl (tyX1_ok 3 (by decide)) rfl rfl (Nat.le_of_ble_eq_true rfl) dX1_init_22 (fun H locs hP hD hS => ?_)
  replace hP : va_P D vwCl [(h, .inr (4, [.int p0, .int p1, .int p2, .int p3, .int 0, .int 0]))] H := hP
  replace hD : va_D A [(h, .inr (4, [.int p0, .int p1, .int p2, .int p3, .int 0, .int 0]))] := hD
  refine lv_aload_n hx hb dX1_init_25 rfl (lv_at hl 0 rfl) ?_
  refine lv_iload hx hb dX1_init_26 (lv_at hl 5 rfl) ?_
  refine va_putF (D := D) (ci := 4) (v := .int p4) (ty := .int) (C := RX1) (T := TX1) (N := 6) hx hb hts inAX1 tyX1 tyX1_ok nmX1 hown hK hP hD hS 0 rfl rfl 4 (by decide) (hts _ q305) (fun _ h9 => h9) rfl hnm rfl (tyX1_ok 4 (by decide)) rfl rfl (Nat.le_of_ble_eq_true rfl) dX1_init_28 (fun H locs hP hD hS => ?_)
  replace hP : va_P D vwCl [(h, .inr (4, [.int p0, .int p1, .int p2, .int p3, .int p4, .int 0]))] H := hP
  replace hD : va_D A [(h, .inr (4, [.int p0, .int p1, .int p2, .int p3, .int p4, .int 0]))] := hD
  refine lv_aload_n hx hb dX1_init_31 rfl (lv_at hl 0 rfl) ?_
  refine lv_iload hx hb dX1_init_32 (lv_at hl 6 rfl) ?_
  refine va_putF (D := D) (ci := 4) (v := .int p5) (ty := .int) (C := RX1) (T := TX1) (N := 6) hx hb hts inAX1 tyX1 tyX1_ok nmX1 hown hK hP hD hS 0 rfl rfl 5 (by decide) (hts _ q306) (fun _ h9 => h9) rfl hnm rfl (tyX1_ok 5 (by decide)) rfl rfl (Nat.le_of_ble_eq_true rfl) dX1_init_34 (fun H locs hP hD hS => ?_)
  replace hP : va_P D vwCl [(h, .inr (4, [.int p0, .int p1, .int p2, .int p3, .int p4, .int p5]))] H := hP
  replace hD : va_D A [(h, .inr (4, [.int p0, .int p1, .int p2, .int p3, .int p4, .int p5]))] := hD
  refine W.widen (k := 0) (n := 0) (Nat.le_of_ble_eq_true rfl) (Nat.le_of_ble_eq_true rfl) ?_
  have hP9 := hP.sub (ws' := [(h, .inr (4, [.int p0, .int p1, .int p2, .int p3, .int p4, .int p5]))]) [0] rfl
  have hD9 := hD.sub (ws' := [(h, .inr (4, [.int p0, .int p1, .int p2, .int p3, .int p4, .int p5]))]) [0] (by decide) rfl
  exact W.vret hx hb hr (fun t ht hW => ⟨⟨(), rfl, trivial, ⟨by rw [ht]; exact hP9, hD9⟩⟩, hS.F ht⟩) hS.2.2 dX1_init_37

set_option maxHeartbeats 4000000 in
set_option maxRecDepth 100000 in
theorem i_Shelf (l : Launch) (D : va_G) (dA : Nat → ClassId) (E : Nat) (h : Nat) (sz : Nat)   : Met l yX4_init (wq (.code yX4_init cX4_init 1 none)) { frames := 2, cells := 4, slots := 62, locals := 33 } (va_Pc [.ref h] (PcB D dA E [(h, .inr (7, [.null, .null, .int 0, .int 0]))] sz)) (va_Qv (fun (u : Nat → Nat) => u 0 = h) (fun u t => va_P D vwCl [(u 0, .inr (7, [.ref (u 1), .ref (u 3), .int 0, .int 0])), (u 1, .inr (5, [.ref (u 2)])), (u 2, .inl (dA 0, 30, .inl (fun _ => 0))), (u 3, .inr (5, [.ref (u 4)])), (u 4, .inl (dA 0, 30, .inl (fun _ => 0)))] t.heap ∧ va_D (va_A [(h, .inr (7, [.null, .null, .int 0, .int 0]))] sz) [(u 0, .inr (7, [.ref (u 1), .ref (u 3), .int 0, .int 0])), (u 1, .inr (5, [.ref (u 2)])), (u 2, .inl (dA 0, 30, .inl (fun _ => 0))), (u 3, .inr (5, [.ref (u 4)])), (u 4, .inl (dA 0, 30, .inl (fun _ => 0)))]) (va_A [(h, .inr (7, [.null, .null, .int 0, .int 0]))] sz)) 4 62 (va_A [(h, .inr (7, [.null, .null, .int 0, .int 0]))] sz) := by
  refine mb_of (Qc := fun A => va_Qv (fun (u : Nat → Nat) => u 0 = h) (fun u t => va_P D vwCl [(u 0, .inr (7, [.ref (u 1), .ref (u 3), .int 0, .int 0])), (u 1, .inr (5, [.ref (u 2)])), (u 2, .inl (dA 0, 30, .inl (fun _ => 0))), (u 3, .inr (5, [.ref (u 4)])), (u 4, .inl (dA 0, 30, .inl (fun _ => 0)))] t.heap ∧ va_D A [(u 0, .inr (7, [.ref (u 1), .ref (u 3), .int 0, .int 0])), (u 1, .inr (5, [.ref (u 2)])), (u 2, .inl (dA 0, 30, .inl (fun _ => 0))), (u 3, .inr (5, [.ref (u 4)])), (u 4, .inl (dA 0, 30, .inl (fun _ => 0)))]) A) RX4 rfl (by decide) (Nat.le_of_ble_eq_true rfl) ?_
  intro p e s m args below meth c hae hx hb hr hts hown hlocks hml hnm hP hK A hAe hD hZ hS hA ls hl
  replace hl : lv_has ls 1 [(0, .ref h)] := hl
  refine lv_aload_n hx hb dX4_init_0 rfl (lv_at hl 0 rfl) ?_
  refine W.objInit hx hb hown (hts _ q307) (hts _ q263) (hts _ q264) rfl (by rw [hml]; exact hl.1) rfl dX4_init_1 (Nat.le_of_ble_eq_true rfl) (Nat.le_of_ble_eq_true rfl) ?_
  refine W.eq (g2 := F0 m 4 ls []) rfl ?_
  refine lv_aload_n hx hb dX4_init_4 rfl (lv_at hl 0 rfl) ?_
  refine va_new (ci := 5) (fs := [.null]) (C := RX2) (T := TX2) (N := 1) hx hb hts inAX2 tyX2 tyX2_ok hown (hts _ q308) (hts _ q280) (hts _ q204) hK hP hD hS hA rfl fsNX2 (Nat.le_of_ble_eq_true rfl) (Nat.le_of_ble_eq_true rfl) dX4_init_5 (fun q1 H hP hD hS => ?_)
  replace hP : va_P D vwCl [(h, .inr (7, [.null, .null, .int 0, .int 0])), (q1, .inr (5, [.null]))] H := hP
  replace hD : va_D A [(h, .inr (7, [.null, .null, .int 0, .int 0])), (q1, .inr (5, [.null]))] := hD
  refine W.widen (k := 1) (n := 1) (Nat.le_of_ble_eq_true rfl) (Nat.le_of_ble_eq_true rfl) ?_
  refine lv_dup hx hb dX4_init_8 rfl ?_
  refine lv_bipush (v := 30) hx hb dX4_init_9 (by decide) ?_
  replace hPc := hP.sub (ws' := [(q1, .inr (5, [.null]))]) [1] rfl
  replace hDc := hD.sub (ws' := [(q1, .inr (5, [.null]))]) [1] (by decide) rfl
  replace hFc := va_free (wc := [(q1, .inr (5, [.null]))]) hD hS hA [1] rfl
  refine va_callv (va_runI (As := [.int 30]) (rest := [.ref q1, .ref h]) ⟨hx, hb, hml, hown, hts⟩ (i_Row_30 l D dA E q1 H.size ) (cwI 1 hts (ga_I q281) rfl rfl rfl (hts _ q204) (hts _ q309) (hts _ q283) rfl (by decide +kernel) ⟨(Nat.le_of_ble_eq_true rfl), (Nat.le_of_ble_eq_true rfl)⟩) ⟨pb_blind, pb_pre hK hPc hDc hZ hS hFc _⟩ rfl rfl hl.1 rfl (lv_room (Nat.le_of_ble_eq_true rfl)) dX4_init_11 ⟨(Nat.le_of_ble_eq_true rfl), (Nat.le_of_ble_eq_true rfl)⟩) hS (fun q _ h => hFc q h) hFc (fun u t H1 locs ht hvm hw hB hz1 hk1 hS => ?_)
  refine W.widen (k := 2) (n := 31) (Nat.le_of_ble_eq_true rfl) (Nat.le_of_ble_eq_true rfl) ?_
  obtain ⟨u2, rfl⟩ : ∃ z, z = u := ⟨_, rfl⟩
  have hw3 := hw
  clear hw
  obtain ⟨hP1, hD1⟩ := hB
  rw [ht] at hP1
  obtain ⟨hP, hD⟩ := va_join (wr := [(h, .inr (7, [.null, .null, .int 0, .int 0]))]) (w1 := [(q1, .inr (5, [.ref u2])), (u2, .inl (dA 0, 30, .inl (fun _ => 0)))]) hP hD [1] [0] rfl rfl (by decide) (by decide) hk1 hFc hP1 hD1
  generalize H1 = H at hP hS ⊢
  replace hP : va_P D vwCl [(h, .inr (7, [.null, .null, .int 0, .int 0])), (q1, .inr (5, [.ref u2])), (u2, .inl (dA 0, 30, .inl (fun _ => 0)))] H := hP
  replace hD : va_D A [(h, .inr (7, [.null, .null, .int 0, .int 0])), (q1, .inr (5, [.ref u2])), (u2, .inl (dA 0, 30, .inl (fun _ => 0)))] := hD
  refine va_putF (D := D) (ci := 7) (v := .ref q1) (ty := .object "TallowIndex$Row") (C := RX4) (T := TX4) (N := 4) hx hb hts inAX4 tyX4 tyX4_ok nmX4 hown hK hP hD hS 0 rfl rfl 0 (by decide) (hts _ q235) (fun _ h9 => h9) rfl hnm rfl (tyX4_ok 0 (by decide)) rfl rfl (Nat.le_of_ble_eq_true rfl) dX4_init_14 (fun H locs hP hD hS => ?_)
  replace hP : va_P D vwCl [(h, .inr (7, [.ref q1, .null, .int 0, .int 0])), (q1, .inr (5, [.ref u2])), (u2, .inl (dA 0, 30, .inl (fun _ => 0)))] H := hP
  replace hD : va_D A [(h, .inr (7, [.ref q1, .null, .int 0, .int 0])), (q1, .inr (5, [.ref u2])), (u2, .inl (dA 0, 30, .inl (fun _ => 0)))] := hD
  refine lv_aload_n hx hb dX4_init_17 rfl (lv_at hl 0 rfl) ?_
  refine va_new (ci := 5) (fs := [.null]) (C := RX2) (T := TX2) (N := 1) hx hb hts inAX2 tyX2 tyX2_ok hown (hts _ q308) (hts _ q280) (hts _ q204) hK hP hD hS hA rfl fsNX2 (Nat.le_of_ble_eq_true rfl) (Nat.le_of_ble_eq_true rfl) dX4_init_18 (fun q4 H hP hD hS => ?_)
  replace hP : va_P D vwCl [(h, .inr (7, [.ref q1, .null, .int 0, .int 0])), (q1, .inr (5, [.ref u2])), (u2, .inl (dA 0, 30, .inl (fun _ => 0))), (q4, .inr (5, [.null]))] H := hP
  replace hD : va_D A [(h, .inr (7, [.ref q1, .null, .int 0, .int 0])), (q1, .inr (5, [.ref u2])), (u2, .inl (dA 0, 30, .inl (fun _ => 0))), (q4, .inr (5, [.null]))] := hD
  refine W.widen (k := 3) (n := 32) (Nat.le_of_ble_eq_true rfl) (Nat.le_of_ble_eq_true rfl) ?_
  refine lv_dup hx hb dX4_init_21 rfl ?_
  refine lv_bipush (v := 30) hx hb dX4_init_22 (by decide) ?_
  replace hPc := hP.sub (ws' := [(q4, .inr (5, [.null]))]) [3] rfl
  replace hDc := hD.sub (ws' := [(q4, .inr (5, [.null]))]) [3] (by decide) rfl
  replace hFc := va_free (wc := [(q4, .inr (5, [.null]))]) hD hS hA [3] rfl
  refine va_callv (va_runI (As := [.int 30]) (rest := [.ref q4, .ref h]) ⟨hx, hb, hml, hown, hts⟩ (i_Row_30 l D dA E q4 H.size ) (cwI 1 hts (ga_I q281) rfl rfl rfl (hts _ q204) (hts _ q309) (hts _ q283) rfl (by decide +kernel) ⟨(Nat.le_of_ble_eq_true rfl), (Nat.le_of_ble_eq_true rfl)⟩) ⟨pb_blind, pb_pre hK hPc hDc hZ hS hFc _⟩ rfl rfl hl.1 rfl (lv_room (Nat.le_of_ble_eq_true rfl)) dX4_init_24 ⟨(Nat.le_of_ble_eq_true rfl), (Nat.le_of_ble_eq_true rfl)⟩) hS (fun q _ h => hFc q h) hFc (fun u t H1 locs ht hvm hw hB hz1 hk1 hS => ?_)
  refine W.widen (k := 4) (n := 62) (Nat.le_of_ble_eq_true rfl) (Nat.le_of_ble_eq_true rfl) ?_
  obtain ⟨u5, rfl⟩ : ∃ z, z = u := ⟨_, rfl⟩
  have hw6 := hw
  clear hw
  obtain ⟨hP1, hD1⟩ := hB
  rw [ht] at hP1
  obtain ⟨hP, hD⟩ := va_join (wr := [(h, .inr (7, [.ref q1, .null, .int 0, .int 0])), (q1, .inr (5, [.ref u2])), (u2, .inl (dA 0, 30, .inl (fun _ => 0)))]) (w1 := [(q4, .inr (5, [.ref u5])), (u5, .inl (dA 0, 30, .inl (fun _ => 0)))]) hP hD [3] [0, 1, 2] rfl rfl (by decide) (by decide) hk1 hFc hP1 hD1
  generalize H1 = H at hP hS ⊢
  replace hP : va_P D vwCl [(h, .inr (7, [.ref q1, .null, .int 0, .int 0])), (q1, .inr (5, [.ref u2])), (u2, .inl (dA 0, 30, .inl (fun _ => 0))), (q4, .inr (5, [.ref u5])), (u5, .inl (dA 0, 30, .inl (fun _ => 0)))] H := hP
  replace hD : va_D A [(h, .inr (7, [.ref q1, .null, .int 0, .int 0])), (q1, .inr (5, [.ref u2])), (u2, .inl (dA 0, 30, .inl (fun _ => 0))), (q4, .inr (5, [.ref u5])), (u5, .inl (dA 0, 30, .inl (fun _ => 0)))] := hD
  refine va_putF (D := D) (ci := 7) (v := .ref q4) (ty := .object "TallowIndex$Row") (C := RX4) (T := TX4) (N := 4) hx hb hts inAX4 tyX4 tyX4_ok nmX4 hown hK hP hD hS 0 rfl rfl 1 (by decide) (hts _ q244) (fun _ h9 => h9) rfl hnm rfl (tyX4_ok 1 (by decide)) rfl rfl (Nat.le_of_ble_eq_true rfl) dX4_init_27 (fun H locs hP hD hS => ?_)
  replace hP : va_P D vwCl [(h, .inr (7, [.ref q1, .ref q4, .int 0, .int 0])), (q1, .inr (5, [.ref u2])), (u2, .inl (dA 0, 30, .inl (fun _ => 0))), (q4, .inr (5, [.ref u5])), (u5, .inl (dA 0, 30, .inl (fun _ => 0)))] H := hP
  replace hD : va_D A [(h, .inr (7, [.ref q1, .ref q4, .int 0, .int 0])), (q1, .inr (5, [.ref u2])), (u2, .inl (dA 0, 30, .inl (fun _ => 0))), (q4, .inr (5, [.ref u5])), (u5, .inl (dA 0, 30, .inl (fun _ => 0)))] := hD
  refine W.widen (k := 4) (n := 62) (Nat.le_of_ble_eq_true rfl) (Nat.le_of_ble_eq_true rfl) ?_
  have hP9 := hP.sub (ws' := [(h, .inr (7, [.ref q1, .ref q4, .int 0, .int 0])), (q1, .inr (5, [.ref u2])), (u2, .inl (dA 0, 30, .inl (fun _ => 0))), (q4, .inr (5, [.ref u5])), (u5, .inl (dA 0, 30, .inl (fun _ => 0)))]) [0, 1, 2, 3, 4] rfl
  have hD9 := hD.sub (ws' := [(h, .inr (7, [.ref q1, .ref q4, .int 0, .int 0])), (q1, .inr (5, [.ref u2])), (u2, .inl (dA 0, 30, .inl (fun _ => 0))), (q4, .inr (5, [.ref u5])), (u5, .inl (dA 0, 30, .inl (fun _ => 0)))]) [0, 1, 2, 3, 4] (by decide) rfl
  exact W.vret hx hb hr (fun t ht hW => ⟨⟨(fun k => ([h, q1, u2, q4, u5] : List Nat).getD k 0), rfl, rfl, ⟨by rw [ht]; exact hP9, hD9⟩⟩, hS.F ht⟩) hS.2.2 dX4_init_30
