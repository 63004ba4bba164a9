/-! CONTRACTS, general -/
set_option maxHeartbeats 4000000 in
set_option maxRecDepth 100000 in
theorem s_writeBuffer (l : Launch) (D : va_G) (dA : Nat → ClassId) (E : Nat) (z : Nat → Nat) (tS tG : Nat → Int32) (nd nsg : Nat) (sz : Nat) (hnd : nd ≤ 30) (hnsg : nsg ≤ 1000) (hAC : AC tS)  : Met l yX4_writeBuffer (wq (.code yX4_writeBuffer cX4_writeBuffer 3 (some .int))) { frames := 2, cells := 0, slots := 0, locals := 42 } (va_Pc [.ref (z 0)] (PcB D dA E [(z 0, .inr (7, [.ref (z 1), .ref (z 3), .int (nI nd), .int (nI nsg)])), (z 1, .inr (5, [.ref (z 2)])), (z 2, .inl (dA 0, 30, .inl tS)), (z 3, .inr (5, [.ref (z 4)])), (z 4, .inl (dA 0, 30, .inl tG))] sz)) (va_Qi (fun (r : Int32) (u : Nat) => r = nI (wrN tS nd) ∧ u = (if 0 < wrN tS nd then 1 else 0)) (fun u t => va_P D vwCl [(z 0, .inr (7, [.ref (z 1), .ref (z 3), .int (nI nd), .int (nI (nsg + u))])), (z 1, .inr (5, [.ref (z 2)])), (z 2, .inl (dA 0, 30, .inl (fl (wrS tS) tS nd))), (z 3, .inr (5, [.ref (z 4)])), (z 4, .inl (dA 0, 30, .inl (fl (wrG tS tG nsg) tG nd)))] t.heap ∧ va_D (va_A [(z 0, .inr (7, [.ref (z 1), .ref (z 3), .int (nI nd), .int (nI nsg)])), (z 1, .inr (5, [.ref (z 2)])), (z 2, .inl (dA 0, 30, .inl tS)), (z 3, .inr (5, [.ref (z 4)])), (z 4, .inl (dA 0, 30, .inl tG))] sz) [(z 0, .inr (7, [.ref (z 1), .ref (z 3), .int (nI nd), .int (nI (nsg + u))])), (z 1, .inr (5, [.ref (z 2)])), (z 2, .inl (dA 0, 30, .inl (fl (wrS tS) tS nd))), (z 3, .inr (5, [.ref (z 4)])), (z 4, .inl (dA 0, 30, .inl (fl (wrG tS tG nsg) tG nd)))]) (va_A [(z 0, .inr (7, [.ref (z 1), .ref (z 3), .int (nI nd), .int (nI nsg)])), (z 1, .inr (5, [.ref (z 2)])), (z 2, .inl (dA 0, 30, .inl tS)), (z 3, .inr (5, [.ref (z 4)])), (z 4, .inl (dA 0, 30, .inl tG))] sz)) 0 0 (va_A [(z 0, .inr (7, [.ref (z 1), .ref (z 3), .int (nI nd), .int (nI nsg)])), (z 1, .inr (5, [.ref (z 2)])), (z 2, .inl (dA 0, 30, .inl tS)), (z 3, .inr (5, [.ref (z 4)])), (z 4, .inl (dA 0, 30, .inl tG))] sz) := by
  refine mb_of (Qc := fun A => va_Qi (fun (r : Int32) (u : Nat) => r = nI (wrN tS nd) ∧ u = (if 0 < wrN tS nd then 1 else 0)) (fun u t => va_P D vwCl [(z 0, .inr (7, [.ref (z 1), .ref (z 3), .int (nI nd), .int (nI (nsg + u))])), (z 1, .inr (5, [.ref (z 2)])), (z 2, .inl (dA 0, 30, .inl (fl (wrS tS) tS nd))), (z 3, .inr (5, [.ref (z 4)])), (z 4, .inl (dA 0, 30, .inl (fl (wrG tS tG nsg) tG nd)))] t.heap ∧ va_D A [(z 0, .inr (7, [.ref (z 1), .ref (z 3), .int (nI nd), .int (nI (nsg + u))])), (z 1, .inr (5, [.ref (z 2)])), (z 2, .inl (dA 0, 30, .inl (fl (wrS tS) tS nd))), (z 3, .inr (5, [.ref (z 4)])), (z 4, .inl (dA 0, 30, .inl (fl (wrG tS tG nsg) tG nd)))]) A) RX4 rfl (by decide) (Nat.le_of_ble_eq_true rfl) ?_
  intro p e s m args below meth c hae hx hb hr hts hown hlocks hml hnm hP hK A hAe hD hZ hS hA ls hl
  replace hl : lv_has ls 3 [(0, .ref (z 0))] := hl
  refine lv_iconst (v := 0) hx hb dX4_writeBuffer_0 (by decide) ?_
  refine lv_istore_n (lv' := [(1, .int 0), (0, .ref (z 0))]) hx hb dX4_writeBuffer_1 rfl hl (by decide) rfl (fun ls hl => ?_)
  refine lv_iconst (v := 0) hx hb dX4_writeBuffer_2 (by decide) ?_
  refine lv_istore_n (lv' := [(2, .int 0), (1, .int 0), (0, .ref (z 0))]) hx hb dX4_writeBuffer_3 rfl hl (by decide) rfl (fun ls hl => ?_)
  have K4 : ∀ (k4 i4 : Nat) (g4_0 : Nat → Int32) (g4_1 : Nat → Int32) (g4_2 : Int32), 0 ≤ i4 → i4 ≤ nd → nd < i4 + k4 → (g4_0 = fl (wrS tS) tS i4) ∧ (g4_1 = fl (wrG tS tG nsg) tG i4) ∧ (g4_2 = nI (cn (fun d => decide (tS d = 98)) i4)) → ∀ (H : Heap) (locs : List Loc), va_P D vwCl [(z 0, .inr (7, [.ref (z 1), .ref (z 3), .int (nI nd), .int (nI nsg)])), (z 1, .inr (5, [.ref (z 2)])), (z 2, .inl (dA 0, 30, .inl g4_0)), (z 3, .inr (5, [.ref (z 4)])), (z 4, .inl (dA 0, 30, .inl g4_1))] H → va_D A [(z 0, .inr (7, [.ref (z 1), .ref (z 3), .int (nI nd), .int (nI nsg)])), (z 1, .inr (5, [.ref (z 2)])), (z 2, .inl (dA 0, 30, .inl g4_0)), (z 3, .inr (5, [.ref (z 4)])), (z 4, .inl (dA 0, 30, .inl g4_1))] → va_S A s.heap H locs → ∀ ls : Array Slot, lv_has ls 3 [(2, .int (nI i4)), (1, .int g4_2), (0, .ref (z 0))] → W p l e { frames := 2, cells := 0, slots := 0, locals := 42 } s m args below meth c H locs 0 0 (MQ below (va_Qi (fun (r : Int32) (u : Nat) => r = nI (wrN tS nd) ∧ u = (if 0 < wrN tS nd then 1 else 0)) (fun u t => va_P D vwCl [(z 0, .inr (7, [.ref (z 1), .ref (z 3), .int (nI nd), .int (nI (nsg + u))])), (z 1, .inr (5, [.ref (z 2)])), (z 2, .inl (dA 0, 30, .inl (fl (wrS tS) tS nd))), (z 3, .inr (5, [.ref (z 4)])), (z 4, .inl (dA 0, 30, .inl (fl (wrG tS tG nsg) tG nd)))] t.heap ∧ va_D A [(z 0, .inr (7, [.ref (z 1), .ref (z 3), .int (nI nd), .int (nI (nsg + u))])), (z 1, .inr (5, [.ref (z 2)])), (z 2, .inl (dA 0, 30, .inl (fl (wrS tS) tS nd))), (z 3, .inr (5, [.ref (z 4)])), (z 4, .inl (dA 0, 30, .inl (fl (wrG tS tG nsg) tG nd)))]) A) args s 0 0 A) (F0 m 4 ls []) := by
    intro k4
    induction k4 with
    | zero => intro i4 g4_0 g4_1 g4_2 h1 h2 h3; exact absurd h3 (by omega)
    | succ k4 ih4 =>
      intro i4 g4_0 g4_1 g4_2 hlo4 hhi4 hms4 hinv4 H locs hP hD hS ls hl
      obtain ⟨eg4_0, eg4_1, eg4_2⟩ := hinv4
      subst eg4_0
      subst eg4_1
      subst eg4_2
      have hcn := cn_le (fun d => decide (tS d = 98)) i4
      refine lv_iload_n hx hb dX4_writeBuffer_4 rfl (lv_at hl 0 rfl) ?_
      refine lv_aload_n hx hb dX4_writeBuffer_5 rfl (lv_at hl 2 rfl) ?_
      refine va_get (D := D) (ci := 7) (v := .int (nI nd)) (C := RX4) (T := TX4) (N := 4) hx hb hts inAX4 hown hK hP 0 rfl rfl 2 (by decide) (hts _ q243) (fun _ h9 => h9) rfl dX4_writeBuffer_6 ?_
      refine lv_icmp_ge (tgt := 56) hx hb dX4_writeBuffer_9 (by decide) (fun c1 => ?_) (fun c1 => ?_)
      · replace c1 := (nI_leI (a := nd) (b := i4) (by omega) (by omega)).mp c1
        obtain rfl : nd = i4 := (by omega)
        replace hP : va_P D vwCl [(z 0, .inr (7, [.ref (z 1), .ref (z 3), .int (nI nd), .int (nI nsg)])), (z 1, .inr (5, [.ref (z 2)])), (z 2, .inl (dA 0, 30, .inl (fl (wrS tS) tS nd))), (z 3, .inr (5, [.ref (z 4)])), (z 4, .inl (dA 0, 30, .inl (fl (wrG tS tG nsg) tG nd)))] H := hP
        replace hD : va_D A [(z 0, .inr (7, [.ref (z 1), .ref (z 3), .int (nI nd), .int (nI nsg)])), (z 1, .inr (5, [.ref (z 2)])), (z 2, .inl (dA 0, 30, .inl (fl (wrS tS) tS nd))), (z 3, .inr (5, [.ref (z 4)])), (z 4, .inl (dA 0, 30, .inl (fl (wrG tS tG nsg) tG nd)))] := hD
        refine lv_iload_n hx hb dX4_writeBuffer_56 rfl (lv_at hl 1 rfl) ?_
        refine lv_if_le (tgt := 70) hx hb dX4_writeBuffer_57 (by decide) (fun c2 => ?_) (fun c2 => ?_)
        · replace c2 := (nI_leI (a := (cn (fun d => decide (tS d = 98)) nd)) (b := 0) (by omega) (by omega)).mp c2
          refine lv_iload_n hx hb dX4_writeBuffer_70 rfl (lv_at hl 1 rfl) ?_
          refine W.widen (k := 0) (n := 0) (Nat.le_of_ble_eq_true rfl) (Nat.le_of_ble_eq_true rfl) ?_
          have hP9 := hP.sub (ws' := [(z 0, .inr (7, [.ref (z 1), .ref (z 3), .int (nI nd), .int (nI nsg)])), (z 1, .inr (5, [.ref (z 2)])), (z 2, .inl (dA 0, 30, .inl (fl (wrS tS) tS nd))), (z 3, .inr (5, [.ref (z 4)])), (z 4, .inl (dA 0, 30, .inl (fl (wrG tS tG nsg) tG nd)))]) [0, 1, 2, 3, 4] rfl
          have hD9 := hD.sub (ws' := [(z 0, .inr (7, [.ref (z 1), .ref (z 3), .int (nI nd), .int (nI nsg)])), (z 1, .inr (5, [.ref (z 2)])), (z 2, .inl (dA 0, 30, .inl (fl (wrS tS) tS nd))), (z 3, .inr (5, [.ref (z 4)])), (z 4, .inl (dA 0, 30, .inl (fl (wrG tS tG nsg) tG nd)))]) [0, 1, 2, 3, 4] (by decide) rfl
          exact W.iret (v := (nI (cn (fun d => decide (tS d = 98)) nd))) hx hb hr (fun t ht hW => ⟨⟨(nI (cn (fun d => decide (tS d = 98)) nd)), 0, rfl, ⟨rfl, (if_neg (by show ¬ 0 < cn (fun d => decide (tS d = 98)) nd; omega)).symm⟩, ⟨by rw [ht]; exact hP9, hD9⟩⟩, hS.F ht⟩) hS.2.2 dX4_writeBuffer_71
        · replace c2 := mt (nI_leI (a := (cn (fun d => decide (tS d = 98)) nd)) (b := 0) (by omega) (by omega)).mpr c2
          refine lv_aload_n hx hb dX4_writeBuffer_60 rfl (lv_at hl 2 rfl) ?_
          refine lv_dup hx hb dX4_writeBuffer_61 rfl ?_
          refine va_get (D := D) (ci := 7) (v := .int (nI nsg)) (C := RX4) (T := TX4) (N := 4) hx hb hts inAX4 hown hK hP 0 rfl rfl 3 (by decide) (hts _ q245) (fun _ h9 => h9) rfl dX4_writeBuffer_62 ?_
          refine lv_iconst (v := 1) hx hb dX4_writeBuffer_65 (by decide) ?_
          refine lv_iadd hx hb dX4_writeBuffer_66 ?_
          refine lv_topi (fun x3 ex3 => ?_)
          obtain rfl : x3 = nI (nsg + 1) := ex3.trans (nI_add nsg 1)
          refine va_put (D := D) (ci := 7) (v := .int (nI (nsg + 1))) (ty := .int) (C := RX4) (T := TX4) (N := 4) hx hb hts inAX4 tyX4 tyX4_ok nmX4 hown hK hP hD hS 0 rfl rfl 3 (by decide) (hts _ q245) (fun _ h9 => h9) rfl (tyX4_ok 3 (by decide)) rfl rfl (Nat.le_of_ble_eq_true rfl) dX4_writeBuffer_67 (fun H locs hP hD hS => ?_)
          replace hP : va_P D vwCl [(z 0, .inr (7, [.ref (z 1), .ref (z 3), .int (nI nd), .int (nI (nsg + 1))])), (z 1, .inr (5, [.ref (z 2)])), (z 2, .inl (dA 0, 30, .inl (fl (wrS tS) tS nd))), (z 3, .inr (5, [.ref (z 4)])), (z 4, .inl (dA 0, 30, .inl (fl (wrG tS tG nsg) tG nd)))] H := hP
          replace hD : va_D A [(z 0, .inr (7, [.ref (z 1), .ref (z 3), .int (nI nd), .int (nI (nsg + 1))])), (z 1, .inr (5, [.ref (z 2)])), (z 2, .inl (dA 0, 30, .inl (fl (wrS tS) tS nd))), (z 3, .inr (5, [.ref (z 4)])), (z 4, .inl (dA 0, 30, .inl (fl (wrG tS tG nsg) tG nd)))] := hD
          refine lv_iload_n hx hb dX4_writeBuffer_70 rfl (lv_at hl 1 rfl) ?_
          refine W.widen (k := 0) (n := 0) (Nat.le_of_ble_eq_true rfl) (Nat.le_of_ble_eq_true rfl) ?_
          have hP9 := hP.sub (ws' := [(z 0, .inr (7, [.ref (z 1), .ref (z 3), .int (nI nd), .int (nI (nsg + 1))])), (z 1, .inr (5, [.ref (z 2)])), (z 2, .inl (dA 0, 30, .inl (fl (wrS tS) tS nd))), (z 3, .inr (5, [.ref (z 4)])), (z 4, .inl (dA 0, 30, .inl (fl (wrG tS tG nsg) tG nd)))]) [0, 1, 2, 3, 4] rfl
          have hD9 := hD.sub (ws' := [(z 0, .inr (7, [.ref (z 1), .ref (z 3), .int (nI nd), .int (nI (nsg + 1))])), (z 1, .inr (5, [.ref (z 2)])), (z 2, .inl (dA 0, 30, .inl (fl (wrS tS) tS nd))), (z 3, .inr (5, [.ref (z 4)])), (z 4, .inl (dA 0, 30, .inl (fl (wrG tS tG nsg) tG nd)))]) [0, 1, 2, 3, 4] (by decide) rfl
          exact W.iret (v := (nI (cn (fun d => decide (tS d = 98)) nd))) hx hb hr (fun t ht hW => ⟨⟨(nI (cn (fun d => decide (tS d = 98)) nd)), 1, rfl, ⟨rfl, (if_pos (by show 0 < cn (fun d => decide (tS d = 98)) nd; omega)).symm⟩, ⟨by rw [ht]; exact hP9, hD9⟩⟩, hS.F ht⟩) hS.2.2 dX4_writeBuffer_71
      · replace c1 := mt (nI_leI (a := nd) (b := i4) (by omega) (by omega)).mpr c1
        refine lv_aload_n hx hb dX4_writeBuffer_12 rfl (lv_at hl 2 rfl) ?_
        refine lv_iload_n hx hb dX4_writeBuffer_13 rfl (lv_at hl 0 rfl) ?_
        replace hPc := hP.sub (ws' := [(z 0, .inr (7, [.ref (z 1), .ref (z 3), .int (nI nd), .int (nI nsg)])), (z 1, .inr (5, [.ref (z 2)])), (z 2, .inl (dA 0, 30, .inl (fl (wrS tS) tS i4))), (z 3, .inr (5, [.ref (z 4)])), (z 4, .inl (dA 0, 30, .inl (fl (wrG tS tG nsg) tG i4)))]) [0, 1, 2, 3, 4] rfl
        replace hDc := hD.sub (ws' := [(z 0, .inr (7, [.ref (z 1), .ref (z 3), .int (nI nd), .int (nI nsg)])), (z 1, .inr (5, [.ref (z 2)])), (z 2, .inl (dA 0, 30, .inl (fl (wrS tS) tS i4))), (z 3, .inr (5, [.ref (z 4)])), (z 4, .inl (dA 0, 30, .inl (fl (wrG tS tG nsg) tG i4)))]) [0, 1, 2, 3, 4] (by decide) rfl
        replace hFc := va_free (wc := [(z 0, .inr (7, [.ref (z 1), .ref (z 3), .int (nI nd), .int (nI nsg)])), (z 1, .inr (5, [.ref (z 2)])), (z 2, .inl (dA 0, 30, .inl (fl (wrS tS) tS i4))), (z 3, .inr (5, [.ref (z 4)])), (z 4, .inl (dA 0, 30, .inl (fl (wrG tS tG nsg) tG i4)))]) hD hS hA [0, 1, 2, 3, 4] rfl
        refine va_calli (va_runV (As := [.int (nI i4)]) (rest := []) ⟨hx, hb, hml, hown, hts⟩ (s_stateOf l D dA E z (fl (wrS tS) tS i4) (fl (wrG tS tG nsg) tG i4) nd nsg i4 H.size  (by omega) (by omega) (by omega) (AC_fl hAC (AC_wr hAC))) (cwV 1 hts (ga_V q239 q240 q237 q241 q238) rfl rfl rfl (by decide +kernel) ⟨(Nat.le_of_ble_eq_true rfl), (Nat.le_of_ble_eq_true rfl)⟩) ⟨pb_blind, va_recv hK hPc (ci := 7) (q0 := 0) rfl rfl, pb_pre hK hPc hDc hZ hS hFc _⟩ rfl rfl hl.1 rfl (lv_room (Nat.le_of_ble_eq_true rfl)) dX4_writeBuffer_14 ⟨(Nat.le_of_ble_eq_true rfl), (Nat.le_of_ble_eq_true rfl)⟩) hS (fun q _ h => hFc q h) hFc (fun r u t H1 locs ht hvm hw hB hz1 hk1 hS => ?_)
        refine W.widen (k := 0) (n := 0) (Nat.le_of_ble_eq_true rfl) (Nat.le_of_ble_eq_true rfl) ?_
        obtain ⟨r4, rfl⟩ : ∃ z, z = r := ⟨_, rfl⟩
        obtain ⟨u5, rfl⟩ : ∃ z, z = u := ⟨_, rfl⟩
        have hw6 := hw
        clear hw
        obtain ⟨hP1, hD1⟩ := hB
        rw [ht] at hP1
        obtain ⟨hP, hD⟩ := va_join (wr := []) (w1 := [(z 0, .inr (7, [.ref (z 1), .ref (z 3), .int (nI nd), .int (nI nsg)])), (z 1, .inr (5, [.ref (z 2)])), (z 2, .inl (dA 0, 30, .inl (fl (wrS tS) tS i4))), (z 3, .inr (5, [.ref (z 4)])), (z 4, .inl (dA 0, 30, .inl (fl (wrG tS tG nsg) tG i4)))]) hP hD [0, 1, 2, 3, 4] [] rfl rfl (by decide) (by decide) hk1 hFc hP1 hD1
        generalize H1 = H at hP hS ⊢
        replace hP : va_P D vwCl [(z 0, .inr (7, [.ref (z 1), .ref (z 3), .int (nI nd), .int (nI nsg)])), (z 1, .inr (5, [.ref (z 2)])), (z 2, .inl (dA 0, 30, .inl (fl (wrS tS) tS i4))), (z 3, .inr (5, [.ref (z 4)])), (z 4, .inl (dA 0, 30, .inl (fl (wrG tS tG nsg) tG i4)))] H := hP
        replace hD : va_D A [(z 0, .inr (7, [.ref (z 1), .ref (z 3), .int (nI nd), .int (nI nsg)])), (z 1, .inr (5, [.ref (z 2)])), (z 2, .inl (dA 0, 30, .inl (fl (wrS tS) tS i4))), (z 3, .inr (5, [.ref (z 4)])), (z 4, .inl (dA 0, 30, .inl (fl (wrG tS tG nsg) tG i4)))] := hD
        obtain rfl : r4 = tS i4 := (show r4 = (fl (wrS tS) tS i4) i4 from hw6).trans (fl_out (Nat.le_refl _))
        refine lv_bipush (v := 98) hx hb dX4_writeBuffer_17 (by decide) ?_
        refine lv_icmp_eq (tgt := 25) hx hb dX4_writeBuffer_19 (by decide) (fun c7 => ?_) (fun c7 => ?_)
        · refine lv_aload_n hx hb dX4_writeBuffer_25 rfl (lv_at hl 2 rfl) ?_
          refine va_get (D := D) (ci := 7) (v := .ref (z 1)) (C := RX4) (T := TX4) (N := 4) hx hb hts inAX4 hown hK hP 0 rfl rfl 0 (by decide) (hts _ q235) (fun _ h9 => h9) rfl dX4_writeBuffer_26 ?_
          refine lv_iload_n hx hb dX4_writeBuffer_29 rfl (lv_at hl 0 rfl) ?_
          refine lv_bipush (v := 115) hx hb dX4_writeBuffer_30 (by decide) ?_
          replace hPc := hP.sub (ws' := [(z 1, .inr (5, [.ref (z 2)])), (z 2, .inl (dA 0, 30, .inl (fl (wrS tS) tS i4)))]) [1, 2] rfl
          replace hDc := hD.sub (ws' := [(z 1, .inr (5, [.ref (z 2)])), (z 2, .inl (dA 0, 30, .inl (fl (wrS tS) tS i4)))]) [1, 2] (by decide) rfl
          replace hFc := va_free (wc := [(z 1, .inr (5, [.ref (z 2)])), (z 2, .inl (dA 0, 30, .inl (fl (wrS tS) tS i4)))]) hD hS hA [1, 2] rfl
          refine va_callv (va_runV (As := [.int (nI i4), .int 115]) (rest := []) ⟨hx, hb, hml, hown, hts⟩ (t_putN l D dA E (z 1) (z 2) 30 (fl (wrS tS) tS i4) i4 115 H.size  (by omega) (by decide)) (cwV 2 hts (ga_V q242 q210 q207 q204 q208) rfl rfl rfl (by decide +kernel) ⟨(Nat.le_of_ble_eq_true rfl), (Nat.le_of_ble_eq_true rfl)⟩) ⟨pb_blind, va_recv hK hPc (ci := 5) (q0 := 0) rfl rfl, pb_pre hK hPc hDc hZ hS hFc _⟩ rfl rfl hl.1 rfl (lv_room (Nat.le_of_ble_eq_true rfl)) dX4_writeBuffer_32 ⟨(Nat.le_of_ble_eq_true rfl), (Nat.le_of_ble_eq_true rfl)⟩) hS (fun q _ h => hFc q h) hFc (fun u t H1 locs ht hvm hw hB hz1 hk1 hS => ?_)
          refine W.widen (k := 0) (n := 0) (Nat.le_of_ble_eq_true rfl) (Nat.le_of_ble_eq_true rfl) ?_
          obtain ⟨u8, rfl⟩ : ∃ z, z = u := ⟨_, rfl⟩
          have hw9 := hw
          clear hw
          obtain ⟨hP1, hD1⟩ := hB
          rw [ht] at hP1
          obtain ⟨hP, hD⟩ := va_join (wr := [(z 0, .inr (7, [.ref (z 1), .ref (z 3), .int (nI nd), .int (nI nsg)])), (z 3, .inr (5, [.ref (z 4)])), (z 4, .inl (dA 0, 30, .inl (fl (wrG tS tG nsg) tG i4)))]) (w1 := [(z 1, .inr (5, [.ref (z 2)])), (z 2, .inl (dA 0, 30, .inl (upd (fl (wrS tS) tS i4) i4 115)))]) hP hD [1, 2] [0, 3, 4] rfl rfl (by decide) (by decide) hk1 hFc hP1 hD1
          generalize H1 = H at hP hS ⊢
          replace hP : va_P D vwCl [(z 0, .inr (7, [.ref (z 1), .ref (z 3), .int (nI nd), .int (nI nsg)])), (z 3, .inr (5, [.ref (z 4)])), (z 4, .inl (dA 0, 30, .inl (fl (wrG tS tG nsg) tG i4))), (z 1, .inr (5, [.ref (z 2)])), (z 2, .inl (dA 0, 30, .inl (upd (fl (wrS tS) tS i4) i4 115)))] H := hP
          replace hD : va_D A [(z 0, .inr (7, [.ref (z 1), .ref (z 3), .int (nI nd), .int (nI nsg)])), (z 3, .inr (5, [.ref (z 4)])), (z 4, .inl (dA 0, 30, .inl (fl (wrG tS tG nsg) tG i4))), (z 1, .inr (5, [.ref (z 2)])), (z 2, .inl (dA 0, 30, .inl (upd (fl (wrS tS) tS i4) i4 115)))] := hD
          refine lv_aload_n hx hb dX4_writeBuffer_35 rfl (lv_at hl 2 rfl) ?_
          refine va_get (D := D) (ci := 7) (v := .ref (z 3)) (C := RX4) (T := TX4) (N := 4) hx hb hts inAX4 hown hK hP 0 rfl rfl 1 (by decide) (hts _ q244) (fun _ h9 => h9) rfl dX4_writeBuffer_36 ?_
          refine lv_iload_n hx hb dX4_writeBuffer_39 rfl (lv_at hl 0 rfl) ?_
          refine lv_aload_n hx hb dX4_writeBuffer_40 rfl (lv_at hl 2 rfl) ?_
          refine va_get (D := D) (ci := 7) (v := .int (nI nsg)) (C := RX4) (T := TX4) (N := 4) hx hb hts inAX4 hown hK hP 0 rfl rfl 3 (by decide) (hts _ q245) (fun _ h9 => h9) rfl dX4_writeBuffer_41 ?_
          replace hPc := hP.sub (ws' := [(z 3, .inr (5, [.ref (z 4)])), (z 4, .inl (dA 0, 30, .inl (fl (wrG tS tG nsg) tG i4)))]) [1, 2] rfl
          replace hDc := hD.sub (ws' := [(z 3, .inr (5, [.ref (z 4)])), (z 4, .inl (dA 0, 30, .inl (fl (wrG tS tG nsg) tG i4)))]) [1, 2] (by decide) rfl
          replace hFc := va_free (wc := [(z 3, .inr (5, [.ref (z 4)])), (z 4, .inl (dA 0, 30, .inl (fl (wrG tS tG nsg) tG i4)))]) hD hS hA [1, 2] rfl
          refine va_callv (va_runV (As := [.int (nI i4), .int (nI nsg)]) (rest := []) ⟨hx, hb, hml, hown, hts⟩ (t_putN l D dA E (z 3) (z 4) 30 (fl (wrG tS tG nsg) tG i4) i4 (nI nsg) H.size  (by omega) (by decide)) (cwV 2 hts (ga_V q242 q210 q207 q204 q208) rfl rfl rfl (by decide +kernel) ⟨(Nat.le_of_ble_eq_true rfl), (Nat.le_of_ble_eq_true rfl)⟩) ⟨pb_blind, va_recv hK hPc (ci := 5) (q0 := 0) rfl rfl, pb_pre hK hPc hDc hZ hS hFc _⟩ rfl rfl hl.1 rfl (lv_room (Nat.le_of_ble_eq_true rfl)) dX4_writeBuffer_44 ⟨(Nat.le_of_ble_eq_true rfl), (Nat.le_of_ble_eq_true rfl)⟩) hS (fun q _ h => hFc q h) hFc (fun u t H1 locs ht hvm hw hB hz1 hk1 hS => ?_)
          refine W.widen (k := 0) (n := 0) (Nat.le_of_ble_eq_true rfl) (Nat.le_of_ble_eq_true rfl) ?_
          obtain ⟨u10, rfl⟩ : ∃ z, z = u := ⟨_, rfl⟩
          have hw11 := hw
          clear hw
          obtain ⟨hP1, hD1⟩ := hB
          rw [ht] at hP1
          obtain ⟨hP, hD⟩ := va_join (wr := [(z 0, .inr (7, [.ref (z 1), .ref (z 3), .int (nI nd), .int (nI nsg)])), (z 1, .inr (5, [.ref (z 2)])), (z 2, .inl (dA 0, 30, .inl (upd (fl (wrS tS) tS i4) i4 115)))]) (w1 := [(z 3, .inr (5, [.ref (z 4)])), (z 4, .inl (dA 0, 30, .inl (upd (fl (wrG tS tG nsg) tG i4) i4 (nI nsg))))]) hP hD [1, 2] [0, 3, 4] rfl rfl (by decide) (by decide) hk1 hFc hP1 hD1
          generalize H1 = H at hP hS ⊢
          replace hP : va_P D vwCl [(z 0, .inr (7, [.ref (z 1), .ref (z 3), .int (nI nd), .int (nI nsg)])), (z 1, .inr (5, [.ref (z 2)])), (z 2, .inl (dA 0, 30, .inl (upd (fl (wrS tS) tS i4) i4 115))), (z 3, .inr (5, [.ref (z 4)])), (z 4, .inl (dA 0, 30, .inl (upd (fl (wrG tS tG nsg) tG i4) i4 (nI nsg))))] H := hP
          replace hD : va_D A [(z 0, .inr (7, [.ref (z 1), .ref (z 3), .int (nI nd), .int (nI nsg)])), (z 1, .inr (5, [.ref (z 2)])), (z 2, .inl (dA 0, 30, .inl (upd (fl (wrS tS) tS i4) i4 115))), (z 3, .inr (5, [.ref (z 4)])), (z 4, .inl (dA 0, 30, .inl (upd (fl (wrG tS tG nsg) tG i4) i4 (nI nsg))))] := hD
          refine lv_iinc (v := nI ((cn (fun d => decide (tS d = 98)) i4) + 1)) (lv' := [(1, .int (nI ((cn (fun d => decide (tS d = 98)) i4) + 1))), (2, .int (nI i4)), (0, .ref (z 0))]) hx hb dX4_writeBuffer_47 hl (k := 1) rfl (nI_add (cn (fun d => decide (tS d = 98)) i4) 1) (by decide) rfl (fun ls hl => ?_)
          refine lv_iinc (v := nI (i4 + 1)) (lv' := [(2, .int (nI (i4 + 1))), (1, .int (nI ((cn (fun d => decide (tS d = 98)) i4) + 1))), (0, .ref (z 0))]) hx hb dX4_writeBuffer_50 hl (k := 1) rfl (nI_add i4 1) (by decide) rfl (fun ls hl => ?_)
          refine lv_goto (tgt := 4) hx hb dX4_writeBuffer_53 (by decide) ?_
          exact ih4 (i4 + 1) (upd (fl (wrS tS) tS i4) i4 115) (upd (fl (wrG tS tG nsg) tG i4) i4 (nI nsg)) (nI ((cn (fun d => decide (tS d = 98)) i4) + 1)) (by omega) (by omega) (by omega) ⟨(fl_succ (by show _ = wrS _ _; rw [wrS, if_pos c7])), (fl_succ (by show _ = wrG _ _ _ _; rw [wrG, if_pos c7])), (cn_y (f := fun d => decide (tS d = 98)) (dec_1 c7))⟩ _ _ hP hD hS ls (lv_sub hl [0, 1, 2] rfl)
        · refine lv_goto (tgt := 50) hx hb dX4_writeBuffer_22 (by decide) ?_
          refine lv_iinc (v := nI (i4 + 1)) (lv' := [(2, .int (nI (i4 + 1))), (1, .int (nI (cn (fun d => decide (tS d = 98)) i4))), (0, .ref (z 0))]) hx hb dX4_writeBuffer_50 hl (k := 0) rfl (nI_add i4 1) (by decide) rfl (fun ls hl => ?_)
          refine lv_goto (tgt := 4) hx hb dX4_writeBuffer_53 (by decide) ?_
          exact ih4 (i4 + 1) (fl (wrS tS) tS i4) (fl (wrG tS tG nsg) tG i4) (nI (cn (fun d => decide (tS d = 98)) i4)) (by omega) (by omega) (by omega) ⟨(fl_keep (by rw [wrS, if_neg c7])), (fl_keep (by rw [wrG, if_neg c7])), (cn_n' (f := fun d => decide (tS d = 98)) (dec_0 c7))⟩ _ _ hP hD hS ls (lv_sub hl [0, 1, 2] rfl)
  exact K4 (nd + 1) 0 tS tG 0 (by omega) (by omega) (by omega) ⟨fl_0.symm, fl_0.symm, rfl⟩ _ _ hP hD hS ls hl
