/-! CONTRACTS, general -/
set_option maxHeartbeats 4000000 in
set_option maxRecDepth 100000 in
theorem c_canJoin (l : Launch) (D : va_G) (dA : Nat → ClassId) (E : Nat) (p0 : Int32) (sz : Nat)   : Met l yX1_canJoin (wq (.code yX1_canJoin cX1_canJoin 1 (some .boolean))) { frames := 0, cells := 0, slots := 0, locals := 0 } (va_Pc [.int p0] (PcB D dA E [] sz)) (va_Qi (fun (r : Int32) (u : Unit) => r = bI (okJ p0)) (fun u t => va_P D vwCl [] t.heap ∧ va_D (va_A [] sz) []) (va_A [] sz)) 0 0 (va_A [] sz) := by
  refine mb_of (Qc := fun A => va_Qi (fun (r : Int32) (u : Unit) => r = bI (okJ p0)) (fun u t => va_P D vwCl [] t.heap ∧ va_D A []) A) RX1 rfl (by decide) (Nat.le_of_ble_eq_true rfl) ?_
  intro p e s m args below meth c hae hx hb hr hts hown hlocks hml hnm hP hK A hAe hD hZ hS hA ls hl
  replace hl : lv_has ls 1 [(0, .int p0)] := hl
  refine lv_iload_n hx hb dX1_canJoin_0 rfl (lv_at hl 0 rfl) ?_
  refine lv_bipush (v := 97) hx hb dX1_canJoin_1 (by decide) ?_
  refine lv_icmp_eq (tgt := 24) hx hb dX1_canJoin_3 (by decide) (fun c1 => ?_) (fun c1 => ?_)
  · refine lv_iconst (v := 1) hx hb dX1_canJoin_24 (by decide) ?_
    refine lv_goto (tgt := 29) hx hb dX1_canJoin_25 (by decide) ?_
    refine W.widen (k := 0) (n := 0) (Nat.le_of_ble_eq_true rfl) (Nat.le_of_ble_eq_true rfl) ?_
    have hP9 := hP.sub (ws' := []) [] rfl
    have hD9 := hD.sub (ws' := []) [] (by decide) rfl
    exact W.zret (v := 1) hx hb hr rfl (fun t ht hW => ⟨⟨1, (), rfl, (by first | (unfold okJ; rw [c1]; done) | (unfold okJ; rw [c1]; rfl) | simp [okJ, bI, c1]), ⟨by rw [ht]; exact hP9, hD9⟩⟩, hS.F ht⟩) hS.2.2 dX1_canJoin_29
  · refine lv_iload_n hx hb dX1_canJoin_6 rfl (lv_at hl 0 rfl) ?_
    refine lv_bipush (v := 111) hx hb dX1_canJoin_7 (by decide) ?_
    refine lv_icmp_eq (tgt := 24) hx hb dX1_canJoin_9 (by decide) (fun c2 => ?_) (fun c2 => ?_)
    · refine lv_iconst (v := 1) hx hb dX1_canJoin_24 (by decide) ?_
      refine lv_goto (tgt := 29) hx hb dX1_canJoin_25 (by decide) ?_
      refine W.widen (k := 0) (n := 0) (Nat.le_of_ble_eq_true rfl) (Nat.le_of_ble_eq_true rfl) ?_
      have hP9 := hP.sub (ws' := []) [] rfl
      have hD9 := hD.sub (ws' := []) [] (by decide) rfl
      exact W.zret (v := 1) hx hb hr rfl (fun t ht hW => ⟨⟨1, (), rfl, (by first | (unfold okJ; rw [decide_eq_false c1, c2]; done) | (unfold okJ; rw [decide_eq_false c1, c2]; rfl) | simp [okJ, bI, c1, c2]), ⟨by rw [ht]; exact hP9, hD9⟩⟩, hS.F ht⟩) hS.2.2 dX1_canJoin_29
    · refine lv_iload_n hx hb dX1_canJoin_12 rfl (lv_at hl 0 rfl) ?_
      refine lv_bipush (v := 120) hx hb dX1_canJoin_13 (by decide) ?_
      refine lv_icmp_eq (tgt := 24) hx hb dX1_canJoin_15 (by decide) (fun c3 => ?_) (fun c3 => ?_)
      · refine lv_iconst (v := 1) hx hb dX1_canJoin_24 (by decide) ?_
        refine lv_goto (tgt := 29) hx hb dX1_canJoin_25 (by decide) ?_
        refine W.widen (k := 0) (n := 0) (Nat.le_of_ble_eq_true rfl) (Nat.le_of_ble_eq_true rfl) ?_
        have hP9 := hP.sub (ws' := []) [] rfl
        have hD9 := hD.sub (ws' := []) [] (by decide) rfl
        exact W.zret (v := 1) hx hb hr rfl (fun t ht hW => ⟨⟨1, (), rfl, (by first | (unfold okJ; rw [decide_eq_false c1, decide_eq_false c2, c3]; done) | (unfold okJ; rw [decide_eq_false c1, decide_eq_false c2, c3]; rfl) | simp [okJ, bI, c1, c2, c3]), ⟨by rw [ht]; exact hP9, hD9⟩⟩, hS.F ht⟩) hS.2.2 dX1_canJoin_29
      · refine lv_iload_n hx hb dX1_canJoin_18 rfl (lv_at hl 0 rfl) ?_
        refine lv_bipush (v := 105) hx hb dX1_canJoin_19 (by decide) ?_
        refine lv_icmp_ne (tgt := 28) hx hb dX1_canJoin_21 (by decide) (fun c4 => ?_) (fun c4 => ?_)
        · refine lv_iconst (v := 0) hx hb dX1_canJoin_28 (by decide) ?_
          refine W.widen (k := 0) (n := 0) (Nat.le_of_ble_eq_true rfl) (Nat.le_of_ble_eq_true rfl) ?_
          have hP9 := hP.sub (ws' := []) [] rfl
          have hD9 := hD.sub (ws' := []) [] (by decide) rfl
          exact W.zret (v := 0) hx hb hr rfl (fun t ht hW => ⟨⟨0, (), rfl, (by first | (unfold okJ; rw [decide_eq_false c1, decide_eq_false c2, decide_eq_false c3, decide_eq_false c4]; done) | (unfold okJ; rw [decide_eq_false c1, decide_eq_false c2, decide_eq_false c3, decide_eq_false c4]; rfl) | simp [okJ, bI, c1, c2, c3, c4]), ⟨by rw [ht]; exact hP9, hD9⟩⟩, hS.F ht⟩) hS.2.2 dX1_canJoin_29
        · refine lv_iconst (v := 1) hx hb dX1_canJoin_24 (by decide) ?_
          refine lv_goto (tgt := 29) hx hb dX1_canJoin_25 (by decide) ?_
          refine W.widen (k := 0) (n := 0) (Nat.le_of_ble_eq_true rfl) (Nat.le_of_ble_eq_true rfl) ?_
          have hP9 := hP.sub (ws' := []) [] rfl
          have hD9 := hD.sub (ws' := []) [] (by decide) rfl
          exact W.zret (v := 1) hx hb hr rfl (fun t ht hW => ⟨⟨1, (), rfl, (by first | (unfold okJ; rw [decide_eq_false c1, decide_eq_false c2, decide_eq_false c3, c4]; done) | (unfold okJ; rw [decide_eq_false c1, decide_eq_false c2, decide_eq_false c3, c4]; rfl) | simp [okJ, bI, c1, c2, c3, c4]), ⟨by rw [ht]; exact hP9, hD9⟩⟩, hS.F ht⟩) hS.2.2 dX1_canJoin_29
