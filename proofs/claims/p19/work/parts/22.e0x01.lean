/-! CONTRACTS, general -/
set_option maxHeartbeats 4000000 in
set_option maxRecDepth 100000 in
theorem x_checkQuery (l : Launch) (hlt : l.stackTraces = false) (D : va_G) (dA : Nat → ClassId) (E : Nat) (xa : Nat → Nat) (o0 o1 o2 o4 o5 o6 o7 o8 o9 o10 o11 : Value) (mq : Int32) (nq ar : Nat) (p0 : Int32) (sz : Nat) (hn : nq ≤ 60)  : vx_Met l yX8_checkQuery (wq (.code yX8_checkQuery cX8_checkQuery 2 none)) { frames := 6, cells := 1, slots := 6, locals := 82 } (va_Pc [.ref (xa 0), .int p0] (PcB D dA E [(xa 0, .inr (11, [o0, o1, o2, .ref (xa 4), o4, o5, o6, o7, o8, o9, o10, o11])), (xa 4, .inr (2, [.int mq, .ref ar, .int (nI nq)]))] sz)) (va_Qv (fun (u : Unit) => ∃ j, j < nq ∧ p0 = nI j) (fun u t => va_P D vwCl [(xa 0, .inr (11, [o0, o1, o2, .ref (xa 4), o4, o5, o6, o7, o8, o9, o10, o11])), (xa 4, .inr (2, [.int mq, .ref ar, .int (nI nq)]))] t.heap ∧ va_D (va_A [(xa 0, .inr (11, [o0, o1, o2, .ref (xa 4), o4, o5, o6, o7, o8, o9, o10, o11])), (xa 4, .inr (2, [.int mq, .ref ar, .int (nI nq)]))] sz) [(xa 0, .inr (11, [o0, o1, o2, .ref (xa 4), o4, o5, o6, o7, o8, o9, o10, o11])), (xa 4, .inr (2, [.int mq, .ref ar, .int (nI nq)]))]) (va_A [(xa 0, .inr (11, [o0, o1, o2, .ref (xa 4), o4, o5, o6, o7, o8, o9, o10, o11])), (xa 4, .inr (2, [.int mq, .ref ar, .int (nI nq)]))] sz)) (vx_X (fun (k : Nat × Unit) => k.1 = 2 ∧ ∀ j, j < nq → ¬ p0 = nI j) (fun E9 k t => E9 = xN k.1 ∧ va_P D vwCl [(xa 0, .inr (11, [o0, o1, o2, .ref (xa 4), o4, o5, o6, o7, o8, o9, o10, o11])), (xa 4, .inr (2, [.int mq, .ref ar, .int (nI nq)]))] t.heap ∧ va_D (va_A [(xa 0, .inr (11, [o0, o1, o2, .ref (xa 4), o4, o5, o6, o7, o8, o9, o10, o11])), (xa 4, .inr (2, [.int mq, .ref ar, .int (nI nq)]))] sz) [(xa 0, .inr (11, [o0, o1, o2, .ref (xa 4), o4, o5, o6, o7, o8, o9, o10, o11])), (xa 4, .inr (2, [.int mq, .ref ar, .int (nI nq)]))]) (va_A [(xa 0, .inr (11, [o0, o1, o2, .ref (xa 4), o4, o5, o6, o7, o8, o9, o10, o11])), (xa 4, .inr (2, [.int mq, .ref ar, .int (nI nq)]))] sz)) 1 6 (va_A [(xa 0, .inr (11, [o0, o1, o2, .ref (xa 4), o4, o5, o6, o7, o8, o9, o10, o11])), (xa 4, .inr (2, [.int mq, .ref ar, .int (nI nq)]))] sz) := by
  refine mx_of (Qc := fun A => va_Qv (fun (u : Unit) => ∃ j, j < nq ∧ p0 = nI j) (fun u t => va_P D vwCl [(xa 0, .inr (11, [o0, o1, o2, .ref (xa 4), o4, o5, o6, o7, o8, o9, o10, o11])), (xa 4, .inr (2, [.int mq, .ref ar, .int (nI nq)]))] t.heap ∧ va_D A [(xa 0, .inr (11, [o0, o1, o2, .ref (xa 4), o4, o5, o6, o7, o8, o9, o10, o11])), (xa 4, .inr (2, [.int mq, .ref ar, .int (nI nq)]))]) A) (XC := fun A => vx_X (fun (k : Nat × Unit) => k.1 = 2 ∧ ∀ j, j < nq → ¬ p0 = nI j) (fun E9 k t => E9 = xN k.1 ∧ va_P D vwCl [(xa 0, .inr (11, [o0, o1, o2, .ref (xa 4), o4, o5, o6, o7, o8, o9, o10, o11])), (xa 4, .inr (2, [.int mq, .ref ar, .int (nI nq)]))] t.heap ∧ va_D A [(xa 0, .inr (11, [o0, o1, o2, .ref (xa 4), o4, o5, o6, o7, o8, o9, o10, o11])), (xa 4, .inr (2, [.int mq, .ref ar, .int (nI nq)]))]) A) RX8 rfl (by decide) (Nat.le_of_ble_eq_true rfl) ?_
  intro p e s m args below meth c hae hx hb hr hts hown hlocks hml hnm htb hP hK A hAe hD hZ hS hA ls hl
  replace hl : lv_has ls 2 [(0, .ref (xa 0)), (1, .int p0)] := hl
  refine lv_iload_n hx hb dX8_checkQuery_0 rfl (lv_at hl 1 rfl) ?_
  refine lv_if_lt (tgt := 15) hx hb dX8_checkQuery_1 (by decide) (fun c1 => ?_) (fun c1 => ?_)
  · obtain ⟨sa, hstr2⟩ := (znS_19 hZ.1)
    have hP9 := hP.sub (ws' := [(xa 0, .inr (11, [o0, o1, o2, .ref (xa 4), o4, o5, o6, o7, o8, o9, o10, o11])), (xa 4, .inr (2, [.int mq, .ref ar, .int (nI nq)]))]) [0, 1] rfl
    have hD9 := hD.sub (ws' := [(xa 0, .inr (11, [o0, o1, o2, .ref (xa 4), o4, o5, o6, o7, o8, o9, o10, o11])), (xa 4, .inr (2, [.int mq, .ref ar, .int (nI nq)]))]) [0, 1] (by decide) rfl
    exact vx_throwSW (cls := "java/lang/IndexOutOfBoundsException") (names := ["java/lang/RuntimeException", "java/lang/Exception"]) (own := RX8) hx hb hlt hown hFit_2 hFitN (hts _ q528) (hts _ q525) hstr2 (hat_RX8_170 hts hZ.1) hgd_RX8_170_166 hZ.2.1 hZ.2.2.1 hS (hl.1.trans hml.symm) dX8_checkQuery_15 dX8_checkQuery_18 dX8_checkQuery_19 dX8_checkQuery_22 dX8_checkQuery_25 (fun x h => (htb x h).elim) (Nat.le_of_ble_eq_true rfl) (Nat.le_of_ble_eq_true rfl) (Nat.le_of_ble_eq_true rfl) (Nat.le_of_ble_eq_true rfl) hlocks (fun t hal hz hk => ⟨(2, ()), ⟨rfl, nt_lo c1 (by omega)⟩, ⟨rfl, vP_kept hP9 hk, hD9⟩, sF_t hS hz hk⟩) hS.2.2 (Nat.le_of_ble_eq_true rfl) (Nat.le_of_ble_eq_true rfl)
  · refine lv_iload_n hx hb dX8_checkQuery_4 rfl (lv_at hl 1 rfl) ?_
    refine lv_aload_n hx hb dX8_checkQuery_5 rfl (lv_at hl 0 rfl) ?_
    refine va_get (D := D) (ci := 11) (v := .ref (xa 4)) (C := RX8) (T := TX8) (N := 12) hx hb hts inAX8 hown hK hP 0 rfl rfl 3 (by decide) (hts _ q329) (fun _ h9 => h9) rfl dX8_checkQuery_6 ?_
    replace hPc := hP.sub (ws' := [(xa 4, .inr (2, [.int mq, .ref ar, .int (nI nq)]))]) [1] rfl
    replace hDc := hD.sub (ws' := [(xa 4, .inr (2, [.int mq, .ref ar, .int (nI nq)]))]) [1] (by decide) rfl
    replace hFc := va_free (wc := [(xa 4, .inr (2, [.int mq, .ref ar, .int (nI nq)]))]) hD hS hA [1] rfl
    refine va_calli (va_runV (As := []) (rest := [.int p0]) ⟨hx, hb, hml, hown, hts⟩ (l_size l D dA E (xa 4) mq (.ref ar) (nI nq) s.heap.size ) (cwV 0 hts (ga_V q529 q453 q450 q322 q451) rfl rfl rfl (by decide +kernel) ⟨(Nat.le_of_ble_eq_true rfl), (Nat.le_of_ble_eq_true rfl)⟩) ⟨pb_blind, va_recv hK hPc (ci := 2) (q0 := 0) rfl rfl, pb_pre hK hPc hDc hZ hS hFc _⟩ rfl rfl hl.1 rfl (lv_room (Nat.le_of_ble_eq_true rfl)) dX8_checkQuery_9 ⟨(Nat.le_of_ble_eq_true rfl), (Nat.le_of_ble_eq_true rfl)⟩) hS (fun q _ h => hFc q h) hFc (fun r u t H1 locs ht hvm hw hB hz1 hk1 hS => ?_)
    refine W.widen (k := 0) (n := 0) (Nat.le_of_ble_eq_true rfl) (Nat.le_of_ble_eq_true rfl) ?_
    obtain ⟨r3, rfl⟩ : ∃ z, z = r := ⟨_, rfl⟩
    obtain ⟨u4, rfl⟩ : ∃ z, z = u := ⟨_, rfl⟩
    have hw5 := hw
    clear hw
    obtain ⟨hP1, hD1⟩ := hB
    rw [ht] at hP1
    obtain ⟨hP, hD⟩ := va_join (wr := [(xa 0, .inr (11, [o0, o1, o2, .ref (xa 4), o4, o5, o6, o7, o8, o9, o10, o11]))]) (w1 := [(xa 4, .inr (2, [.int mq, .ref ar, .int (nI nq)]))]) hP hD [1] [0] rfl rfl (by decide) (by decide) hk1 hFc hP1 hD1
    generalize H1 = H at hP hS ⊢
    replace hP : va_P D vwCl [(xa 0, .inr (11, [o0, o1, o2, .ref (xa 4), o4, o5, o6, o7, o8, o9, o10, o11])), (xa 4, .inr (2, [.int mq, .ref ar, .int (nI nq)]))] H := hP
    replace hD : va_D A [(xa 0, .inr (11, [o0, o1, o2, .ref (xa 4), o4, o5, o6, o7, o8, o9, o10, o11])), (xa 4, .inr (2, [.int mq, .ref ar, .int (nI nq)]))] := hD
    obtain rfl : r3 = nI nq := hw5
    refine lv_icmp_lt (tgt := 26) hx hb dX8_checkQuery_12 (by decide) (fun c6 => ?_) (fun c6 => ?_)
    · refine W.widen (k := 1) (n := 6) (Nat.le_of_ble_eq_true rfl) (Nat.le_of_ble_eq_true rfl) ?_
      refine vx_ret ?_
      have hP9 := hP.sub (ws' := [(xa 0, .inr (11, [o0, o1, o2, .ref (xa 4), o4, o5, o6, o7, o8, o9, o10, o11])), (xa 4, .inr (2, [.int mq, .ref ar, .int (nI nq)]))]) [0, 1] rfl
      have hD9 := hD.sub (ws' := [(xa 0, .inr (11, [o0, o1, o2, .ref (xa 4), o4, o5, o6, o7, o8, o9, o10, o11])), (xa 4, .inr (2, [.int mq, .ref ar, .int (nI nq)]))]) [0, 1] (by decide) rfl
      exact W.vret hx hb hr (fun t ht hW => ⟨⟨(), rfl, (nt_of c1 c6 (by omega)), ⟨by rw [ht]; exact hP9, hD9⟩⟩, hS.F ht⟩) hS.2.2 dX8_checkQuery_26
    · obtain ⟨sa, hstr7⟩ := (znS_19 hZ.1)
      have hP9 := hP.sub (ws' := [(xa 0, .inr (11, [o0, o1, o2, .ref (xa 4), o4, o5, o6, o7, o8, o9, o10, o11])), (xa 4, .inr (2, [.int mq, .ref ar, .int (nI nq)]))]) [0, 1] rfl
      have hD9 := hD.sub (ws' := [(xa 0, .inr (11, [o0, o1, o2, .ref (xa 4), o4, o5, o6, o7, o8, o9, o10, o11])), (xa 4, .inr (2, [.int mq, .ref ar, .int (nI nq)]))]) [0, 1] (by decide) rfl
      exact vx_throwSW (cls := "java/lang/IndexOutOfBoundsException") (names := ["java/lang/RuntimeException", "java/lang/Exception"]) (own := RX8) hx hb hlt hown hFit_2 hFitN (hts _ q528) (hts _ q525) hstr7 (hat_RX8_170 hts hZ.1) hgd_RX8_170_166 hZ.2.1 hZ.2.2.1 hS (hl.1.trans hml.symm) dX8_checkQuery_15 dX8_checkQuery_18 dX8_checkQuery_19 dX8_checkQuery_22 dX8_checkQuery_25 (fun x h => (htb x h).elim) (Nat.le_of_ble_eq_true rfl) (Nat.le_of_ble_eq_true rfl) (Nat.le_of_ble_eq_true rfl) (Nat.le_of_ble_eq_true rfl) hlocks (fun t hal hz hk => ⟨(2, ()), ⟨rfl, nt_hi c6 (by omega)⟩, ⟨rfl, vP_kept hP9 hk, hD9⟩, sF_t hS hz hk⟩) hS.2.2 (Nat.le_of_ble_eq_true rfl) (Nat.le_of_ble_eq_true rfl)
