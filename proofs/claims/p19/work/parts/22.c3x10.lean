/-! CONTRACTS, general -/
set_option maxHeartbeats 4000000 in
set_option maxRecDepth 100000 in
theorem s_removedInSegments (l : Launch) (D : va_G) (dA : Nat → ClassId) (E : Nat) (z : Nat → Nat) (tS tG : Nat → Int32) (nd nsg : Nat) (sz : Nat) (hnd : nd ≤ 30) (hnsg : nsg ≤ 1000) (hAC : AC tS)  : Met l yX4_removedInSegments (wq (.code yX4_removedInSegments cX4_removedInSegments 3 (some .int))) { frames := 2, cells := 0, slots := 0, locals := 42 } (va_Pc [.ref (z 0)] (PcB D dA E [(z 0, .inr (7, [.ref (z 1), .ref (z 3), .int (nI nd), .int (nI nsg)])), (z 1, .inr (5, [.ref (z 2)])), (z 2, .inl (dA 0, 30, .inl tS)), (z 3, .inr (5, [.ref (z 4)])), (z 4, .inl (dA 0, 30, .inl tG))] sz)) (va_Qi (fun (r : Int32) (u : Unit) => r = nI (cn (fun d => !decide (tG d = -1) && decide (tS d = 114)) nd)) (fun u t => va_P D vwCl [(z 0, .inr (7, [.ref (z 1), .ref (z 3), .int (nI nd), .int (nI nsg)])), (z 1, .inr (5, [.ref (z 2)])), (z 2, .inl (dA 0, 30, .inl tS)), (z 3, .inr (5, [.ref (z 4)])), (z 4, .inl (dA 0, 30, .inl tG))] t.heap ∧ va_D (va_A [(z 0, .inr (7, [.ref (z 1), .ref (z 3), .int (nI nd), .int (nI nsg)])), (z 1, .inr (5, [.ref (z 2)])), (z 2, .inl (dA 0, 30, .inl tS)), (z 3, .inr (5, [.ref (z 4)])), (z 4, .inl (dA 0, 30, .inl tG))] sz) [(z 0, .inr (7, [.ref (z 1), .ref (z 3), .int (nI nd), .int (nI nsg)])), (z 1, .inr (5, [.ref (z 2)])), (z 2, .inl (dA 0, 30, .inl tS)), (z 3, .inr (5, [.ref (z 4)])), (z 4, .inl (dA 0, 30, .inl tG))]) (va_A [(z 0, .inr (7, [.ref (z 1), .ref (z 3), .int (nI nd), .int (nI nsg)])), (z 1, .inr (5, [.ref (z 2)])), (z 2, .inl (dA 0, 30, .inl tS)), (z 3, .inr (5, [.ref (z 4)])), (z 4, .inl (dA 0, 30, .inl tG))] sz)) 0 0 (va_A [(z 0, .inr (7, [.ref (z 1), .ref (z 3), .int (nI nd), .int (nI nsg)])), (z 1, .inr (5, [.ref (z 2)])), (z 2, .inl (dA 0, 30, .inl tS)), (z 3, .inr (5, [.ref (z 4)])), (z 4, .inl (dA 0, 30, .inl tG))] sz) := by
  refine mb_of (Qc := fun A => va_Qi (fun (r : Int32) (u : Unit) => r = nI (cn (fun d => !decide (tG d = -1) && decide (tS d = 114)) nd)) (fun u t => va_P D vwCl [(z 0, .inr (7, [.ref (z 1), .ref (z 3), .int (nI nd), .int (nI nsg)])), (z 1, .inr (5, [.ref (z 2)])), (z 2, .inl (dA 0, 30, .inl tS)), (z 3, .inr (5, [.ref (z 4)])), (z 4, .inl (dA 0, 30, .inl tG))] t.heap ∧ va_D A [(z 0, .inr (7, [.ref (z 1), .ref (z 3), .int (nI nd), .int (nI nsg)])), (z 1, .inr (5, [.ref (z 2)])), (z 2, .inl (dA 0, 30, .inl tS)), (z 3, .inr (5, [.ref (z 4)])), (z 4, .inl (dA 0, 30, .inl tG))]) A) RX4 rfl (by decide) (Nat.le_of_ble_eq_true rfl) ?_
  intro p e s m args below meth c hae hx hb hr hts hown hlocks hml hnm hP hK A hAe hD hZ hS hA ls hl
  replace hl : lv_has ls 3 [(0, .ref (z 0))] := hl
  refine lv_iconst (v := 0) hx hb dX4_removedInSegments_0 (by decide) ?_
  refine lv_istore_n (lv' := [(1, .int 0), (0, .ref (z 0))]) hx hb dX4_removedInSegments_1 rfl hl (by decide) rfl (fun ls hl => ?_)
  refine lv_iconst (v := 0) hx hb dX4_removedInSegments_2 (by decide) ?_
  refine lv_istore_n (lv' := [(2, .int 0), (1, .int 0), (0, .ref (z 0))]) hx hb dX4_removedInSegments_3 rfl hl (by decide) rfl (fun ls hl => ?_)
  have K4 : ∀ (k4 i4 : Nat) (g4_0 : Int32), 0 ≤ i4 → i4 ≤ nd → nd < i4 + k4 → (g4_0 = nI (cn (fun d => !decide (tG d = -1) && decide (tS d = 114)) i4)) → ∀ (H : Heap) (locs : List Loc), va_P D vwCl [(z 0, .inr (7, [.ref (z 1), .ref (z 3), .int (nI nd), .int (nI nsg)])), (z 1, .inr (5, [.ref (z 2)])), (z 2, .inl (dA 0, 30, .inl tS)), (z 3, .inr (5, [.ref (z 4)])), (z 4, .inl (dA 0, 30, .inl tG))] H → va_D A [(z 0, .inr (7, [.ref (z 1), .ref (z 3), .int (nI nd), .int (nI nsg)])), (z 1, .inr (5, [.ref (z 2)])), (z 2, .inl (dA 0, 30, .inl tS)), (z 3, .inr (5, [.ref (z 4)])), (z 4, .inl (dA 0, 30, .inl tG))] → va_S A s.heap H locs → ∀ ls : Array Slot, lv_has ls 3 [(2, .int (nI i4)), (1, .int g4_0), (0, .ref (z 0))] → W p l e { frames := 2, cells := 0, slots := 0, locals := 42 } s m args below meth c H locs 0 0 (MQ below (va_Qi (fun (r : Int32) (u : Unit) => r = nI (cn (fun d => !decide (tG d = -1) && decide (tS d = 114)) nd)) (fun u t => va_P D vwCl [(z 0, .inr (7, [.ref (z 1), .ref (z 3), .int (nI nd), .int (nI nsg)])), (z 1, .inr (5, [.ref (z 2)])), (z 2, .inl (dA 0, 30, .inl tS)), (z 3, .inr (5, [.ref (z 4)])), (z 4, .inl (dA 0, 30, .inl tG))] t.heap ∧ va_D A [(z 0, .inr (7, [.ref (z 1), .ref (z 3), .int (nI nd), .int (nI nsg)])), (z 1, .inr (5, [.ref (z 2)])), (z 2, .inl (dA 0, 30, .inl tS)), (z 3, .inr (5, [.ref (z 4)])), (z 4, .inl (dA 0, 30, .inl tG))]) A) args s 0 0 A) (F0 m 4 ls []) := by
    intro k4
    induction k4 with
    | zero => intro i4 g4_0 h1 h2 h3; exact absurd h3 (by omega)
    | succ k4 ih4 =>
      intro i4 g4_0 hlo4 hhi4 hms4 hinv4 H locs hP hD hS ls hl
      have eg4_0 := hinv4
      subst eg4_0
      have hcn := cn_le (fun d => !decide (tG d = -1) && decide (tS d = 114)) i4
      refine lv_iload_n hx hb dX4_removedInSegments_4 rfl (lv_at hl 0 rfl) ?_
      refine lv_aload_n hx hb dX4_removedInSegments_5 rfl (lv_at hl 2 rfl) ?_
      refine va_get (D := D) (ci := 7) (v := .int (nI nd)) (C := RX4) (T := TX4) (N := 4) hx hb hts inAX4 hown hK hP 0 rfl rfl 2 (by decide) (hts _ q243) (fun _ h9 => h9) rfl dX4_removedInSegments_6 ?_
      refine lv_icmp_ge (tgt := 43) hx hb dX4_removedInSegments_9 (by decide) (fun c1 => ?_) (fun c1 => ?_)
      · replace c1 := (nI_leI (a := nd) (b := i4) (by omega) (by omega)).mp c1
        obtain rfl : nd = i4 := (by omega)
        replace hP : va_P D vwCl [(z 0, .inr (7, [.ref (z 1), .ref (z 3), .int (nI nd), .int (nI nsg)])), (z 1, .inr (5, [.ref (z 2)])), (z 2, .inl (dA 0, 30, .inl tS)), (z 3, .inr (5, [.ref (z 4)])), (z 4, .inl (dA 0, 30, .inl tG))] H := hP
        replace hD : va_D A [(z 0, .inr (7, [.ref (z 1), .ref (z 3), .int (nI nd), .int (nI nsg)])), (z 1, .inr (5, [.ref (z 2)])), (z 2, .inl (dA 0, 30, .inl tS)), (z 3, .inr (5, [.ref (z 4)])), (z 4, .inl (dA 0, 30, .inl tG))] := hD
        refine lv_iload_n hx hb dX4_removedInSegments_43 rfl (lv_at hl 1 rfl) ?_
        refine W.widen (k := 0) (n := 0) (Nat.le_of_ble_eq_true rfl) (Nat.le_of_ble_eq_true rfl) ?_
        have hP9 := hP.sub (ws' := [(z 0, .inr (7, [.ref (z 1), .ref (z 3), .int (nI nd), .int (nI nsg)])), (z 1, .inr (5, [.ref (z 2)])), (z 2, .inl (dA 0, 30, .inl tS)), (z 3, .inr (5, [.ref (z 4)])), (z 4, .inl (dA 0, 30, .inl tG))]) [0, 1, 2, 3, 4] rfl
        have hD9 := hD.sub (ws' := [(z 0, .inr (7, [.ref (z 1), .ref (z 3), .int (nI nd), .int (nI nsg)])), (z 1, .inr (5, [.ref (z 2)])), (z 2, .inl (dA 0, 30, .inl tS)), (z 3, .inr (5, [.ref (z 4)])), (z 4, .inl (dA 0, 30, .inl tG))]) [0, 1, 2, 3, 4] (by decide) rfl
        exact W.iret (v := (nI (cn (fun d => !decide (tG d = -1) && decide (tS d = 114)) nd))) hx hb hr (fun t ht hW => ⟨⟨(nI (cn (fun d => !decide (tG d = -1) && decide (tS d = 114)) nd)), (), rfl, rfl, ⟨by rw [ht]; exact hP9, hD9⟩⟩, hS.F ht⟩) hS.2.2 dX4_removedInSegments_44
      · replace c1 := mt (nI_leI (a := nd) (b := i4) (by omega) (by omega)).mpr c1
        refine lv_aload_n hx hb dX4_removedInSegments_12 rfl (lv_at hl 2 rfl) ?_
        refine va_get (D := D) (ci := 7) (v := .ref (z 3)) (C := RX4) (T := TX4) (N := 4) hx hb hts inAX4 hown hK hP 0 rfl rfl 1 (by decide) (hts _ q244) (fun _ h9 => h9) rfl dX4_removedInSegments_13 ?_
        refine lv_iload_n hx hb dX4_removedInSegments_16 rfl (lv_at hl 0 rfl) ?_
        replace hPc := hP.sub (ws' := [(z 3, .inr (5, [.ref (z 4)])), (z 4, .inl (dA 0, 30, .inl tG))]) [3, 4] rfl
        replace hDc := hD.sub (ws' := [(z 3, .inr (5, [.ref (z 4)])), (z 4, .inl (dA 0, 30, .inl tG))]) [3, 4] (by decide) rfl
        replace hFc := va_free (wc := [(z 3, .inr (5, [.ref (z 4)])), (z 4, .inl (dA 0, 30, .inl tG))]) hD hS hA [3, 4] rfl
        refine va_calli (va_runV (As := [.int (nI i4)]) (rest := []) ⟨hx, hb, hml, hown, hts⟩ (t_getN l D dA E (z 3) (z 4) 30 tG i4 H.size  (by omega) (by decide)) (cwV 1 hts (ga_V q236 q203 q200 q204 q201) rfl rfl rfl (by decide +kernel) ⟨(Nat.le_of_ble_eq_true rfl), (Nat.le_of_ble_eq_true rfl)⟩) ⟨pb_blind, va_recv hK hPc (ci := 5) (q0 := 0) rfl rfl, pb_pre hK hPc hDc hZ hS hFc _⟩ rfl rfl hl.1 rfl (lv_room (Nat.le_of_ble_eq_true rfl)) dX4_removedInSegments_17 ⟨(Nat.le_of_ble_eq_true rfl), (Nat.le_of_ble_eq_true rfl)⟩) hS (fun q _ h => hFc q h) hFc (fun r u t H1 locs ht hvm hw hB hz1 hk1 hS => ?_)
        refine W.widen (k := 0) (n := 0) (Nat.le_of_ble_eq_true rfl) (Nat.le_of_ble_eq_true rfl) ?_
        obtain ⟨r2, rfl⟩ : ∃ z, z = r := ⟨_, rfl⟩
        obtain ⟨u3, rfl⟩ : ∃ z, z = u := ⟨_, rfl⟩
        have hw4 := hw
        clear hw
        obtain ⟨hP1, hD1⟩ := hB
        rw [ht] at hP1
        obtain ⟨hP, hD⟩ := va_join (wr := [(z 0, .inr (7, [.ref (z 1), .ref (z 3), .int (nI nd), .int (nI nsg)])), (z 1, .inr (5, [.ref (z 2)])), (z 2, .inl (dA 0, 30, .inl tS))]) (w1 := [(z 3, .inr (5, [.ref (z 4)])), (z 4, .inl (dA 0, 30, .inl tG))]) hP hD [3, 4] [0, 1, 2] rfl rfl (by decide) (by decide) hk1 hFc hP1 hD1
        generalize H1 = H at hP hS ⊢
        replace hP : va_P D vwCl [(z 0, .inr (7, [.ref (z 1), .ref (z 3), .int (nI nd), .int (nI nsg)])), (z 1, .inr (5, [.ref (z 2)])), (z 2, .inl (dA 0, 30, .inl tS)), (z 3, .inr (5, [.ref (z 4)])), (z 4, .inl (dA 0, 30, .inl tG))] H := hP
        replace hD : va_D A [(z 0, .inr (7, [.ref (z 1), .ref (z 3), .int (nI nd), .int (nI nsg)])), (z 1, .inr (5, [.ref (z 2)])), (z 2, .inl (dA 0, 30, .inl tS)), (z 3, .inr (5, [.ref (z 4)])), (z 4, .inl (dA 0, 30, .inl tG))] := hD
        obtain rfl : r2 = tG i4 := hw4
        refine lv_iconst (v := (-1)) hx hb dX4_removedInSegments_20 (by decide) ?_
        refine lv_icmp_eq (tgt := 37) hx hb dX4_removedInSegments_21 (by decide) (fun c5 => ?_) (fun c5 => ?_)
        · refine lv_iinc (v := nI (i4 + 1)) (lv' := [(2, .int (nI (i4 + 1))), (1, .int (nI (cn (fun d => !decide (tG d = -1) && decide (tS d = 114)) i4))), (0, .ref (z 0))]) hx hb dX4_removedInSegments_37 hl (k := 0) rfl (nI_add i4 1) (by decide) rfl (fun ls hl => ?_)
          refine lv_goto (tgt := 4) hx hb dX4_removedInSegments_40 (by decide) ?_
          exact ih4 (i4 + 1) (nI (cn (fun d => !decide (tG d = -1) && decide (tS d = 114)) i4)) (by omega) (by omega) (by omega) (cn_n' (f := (fun d => !decide (tG d = -1) && decide (tS d = 114))) (by simp [c5])) _ _ hP hD hS ls (lv_sub hl [0, 1, 2] rfl)
        · refine lv_aload_n hx hb dX4_removedInSegments_24 rfl (lv_at hl 2 rfl) ?_
          refine lv_iload_n hx hb dX4_removedInSegments_25 rfl (lv_at hl 0 rfl) ?_
          replace hPc := hP.sub (ws' := [(z 0, .inr (7, [.ref (z 1), .ref (z 3), .int (nI nd), .int (nI nsg)])), (z 1, .inr (5, [.ref (z 2)])), (z 2, .inl (dA 0, 30, .inl tS)), (z 3, .inr (5, [.ref (z 4)])), (z 4, .inl (dA 0, 30, .inl tG))]) [0, 1, 2, 3, 4] rfl
          replace hDc := hD.sub (ws' := [(z 0, .inr (7, [.ref (z 1), .ref (z 3), .int (nI nd), .int (nI nsg)])), (z 1, .inr (5, [.ref (z 2)])), (z 2, .inl (dA 0, 30, .inl tS)), (z 3, .inr (5, [.ref (z 4)])), (z 4, .inl (dA 0, 30, .inl tG))]) [0, 1, 2, 3, 4] (by decide) rfl
          replace hFc := va_free (wc := [(z 0, .inr (7, [.ref (z 1), .ref (z 3), .int (nI nd), .int (nI nsg)])), (z 1, .inr (5, [.ref (z 2)])), (z 2, .inl (dA 0, 30, .inl tS)), (z 3, .inr (5, [.ref (z 4)])), (z 4, .inl (dA 0, 30, .inl tG))]) hD hS hA [0, 1, 2, 3, 4] rfl
          refine va_calli (va_runV (As := [.int (nI i4)]) (rest := []) ⟨hx, hb, hml, hown, hts⟩ (s_stateOf l D dA E z tS tG nd nsg i4 H.size  (by omega) (by omega) (by omega) hAC) (cwV 1 hts (ga_V q239 q240 q237 q241 q238) rfl rfl rfl (by decide +kernel) ⟨(Nat.le_of_ble_eq_true rfl), (Nat.le_of_ble_eq_true rfl)⟩) ⟨pb_blind, va_recv hK hPc (ci := 7) (q0 := 0) rfl rfl, pb_pre hK hPc hDc hZ hS hFc _⟩ rfl rfl hl.1 rfl (lv_room (Nat.le_of_ble_eq_true rfl)) dX4_removedInSegments_26 ⟨(Nat.le_of_ble_eq_true rfl), (Nat.le_of_ble_eq_true rfl)⟩) hS (fun q _ h => hFc q h) hFc (fun r u t H1 locs ht hvm hw hB hz1 hk1 hS => ?_)
          refine W.widen (k := 0) (n := 0) (Nat.le_of_ble_eq_true rfl) (Nat.le_of_ble_eq_true rfl) ?_
          obtain ⟨r6, rfl⟩ : ∃ z, z = r := ⟨_, rfl⟩
          obtain ⟨u7, rfl⟩ : ∃ z, z = u := ⟨_, rfl⟩
          have hw8 := hw
          clear hw
          obtain ⟨hP1, hD1⟩ := hB
          rw [ht] at hP1
          obtain ⟨hP, hD⟩ := va_join (wr := []) (w1 := [(z 0, .inr (7, [.ref (z 1), .ref (z 3), .int (nI nd), .int (nI nsg)])), (z 1, .inr (5, [.ref (z 2)])), (z 2, .inl (dA 0, 30, .inl tS)), (z 3, .inr (5, [.ref (z 4)])), (z 4, .inl (dA 0, 30, .inl tG))]) hP hD [0, 1, 2, 3, 4] [] rfl rfl (by decide) (by decide) hk1 hFc hP1 hD1
          generalize H1 = H at hP hS ⊢
          replace hP : va_P D vwCl [(z 0, .inr (7, [.ref (z 1), .ref (z 3), .int (nI nd), .int (nI nsg)])), (z 1, .inr (5, [.ref (z 2)])), (z 2, .inl (dA 0, 30, .inl tS)), (z 3, .inr (5, [.ref (z 4)])), (z 4, .inl (dA 0, 30, .inl tG))] H := hP
          replace hD : va_D A [(z 0, .inr (7, [.ref (z 1), .ref (z 3), .int (nI nd), .int (nI nsg)])), (z 1, .inr (5, [.ref (z 2)])), (z 2, .inl (dA 0, 30, .inl tS)), (z 3, .inr (5, [.ref (z 4)])), (z 4, .inl (dA 0, 30, .inl tG))] := hD
          obtain rfl : r6 = tS i4 := hw8
          refine lv_bipush (v := 114) hx hb dX4_removedInSegments_29 (by decide) ?_
          refine lv_icmp_ne (tgt := 37) hx hb dX4_removedInSegments_31 (by decide) (fun c9 => ?_) (fun c9 => ?_)
          · refine lv_iinc (v := nI (i4 + 1)) (lv' := [(2, .int (nI (i4 + 1))), (1, .int (nI (cn (fun d => !decide (tG d = -1) && decide (tS d = 114)) i4))), (0, .ref (z 0))]) hx hb dX4_removedInSegments_37 hl (k := 0) rfl (nI_add i4 1) (by decide) rfl (fun ls hl => ?_)
            refine lv_goto (tgt := 4) hx hb dX4_removedInSegments_40 (by decide) ?_
            exact ih4 (i4 + 1) (nI (cn (fun d => !decide (tG d = -1) && decide (tS d = 114)) i4)) (by omega) (by omega) (by omega) (cn_n' (f := (fun d => !decide (tG d = -1) && decide (tS d = 114))) (by simp [c5, c9])) _ _ hP hD hS ls (lv_sub hl [0, 1, 2] rfl)
          · refine lv_iinc (v := nI ((cn (fun d => !decide (tG d = -1) && decide (tS d = 114)) i4) + 1)) (lv' := [(1, .int (nI ((cn (fun d => !decide (tG d = -1) && decide (tS d = 114)) i4) + 1))), (2, .int (nI i4)), (0, .ref (z 0))]) hx hb dX4_removedInSegments_34 hl (k := 1) rfl (nI_add (cn (fun d => !decide (tG d = -1) && decide (tS d = 114)) i4) 1) (by decide) rfl (fun ls hl => ?_)
            refine lv_iinc (v := nI (i4 + 1)) (lv' := [(2, .int (nI (i4 + 1))), (1, .int (nI ((cn (fun d => !decide (tG d = -1) && decide (tS d = 114)) i4) + 1))), (0, .ref (z 0))]) hx hb dX4_removedInSegments_37 hl (k := 1) rfl (nI_add i4 1) (by decide) rfl (fun ls hl => ?_)
            refine lv_goto (tgt := 4) hx hb dX4_removedInSegments_40 (by decide) ?_
            exact ih4 (i4 + 1) (nI ((cn (fun d => !decide (tG d = -1) && decide (tS d = 114)) i4) + 1)) (by omega) (by omega) (by omega) (cn_y (f := (fun d => !decide (tG d = -1) && decide (tS d = 114))) (by simp [c5, c9])) _ _ hP hD hS ls (lv_sub hl [0, 1, 2] rfl)
  exact K4 (nd + 1) 0 0 (by omega) (by omega) (by omega) rfl _ _ hP hD hS ls hl
