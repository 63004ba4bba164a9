/-! CONTRACTS, general -/
set_option maxHeartbeats 4000000 in
set_option maxRecDepth 100000 in
theorem t_lower (l : Launch) (D : va_G) (dA : Nat → ClassId) (E : Nat) (tt : Nat → Nat) (tw tp tx : Nat → Int32) (nm : Nat) (sz : Nat) (hnm : nm ≤ 84)  : Met l yX6_lower (wq (.code yX6_lower cX6_lower 3 none)) { frames := 1, cells := 0, slots := 0, locals := 22 } (va_Pc [.ref (tt 0)] (PcB D dA E [(tt 0, .inr (9, [.ref (tt 1), .ref (tt 3), .ref (tt 5), .int (nI nm)])), (tt 1, .inr (5, [.ref (tt 2)])), (tt 2, .inl (dA 0, 84, .inl tw)), (tt 3, .inr (5, [.ref (tt 4)])), (tt 4, .inl (dA 0, 84, .inl tp)), (tt 5, .inr (5, [.ref (tt 6)])), (tt 6, .inl (dA 0, 84, .inl tx))] sz)) (va_Qv (fun (u : Unit) => True) (fun u t => va_P D vwCl [(tt 0, .inr (9, [.ref (tt 1), .ref (tt 3), .ref (tt 5), .int (nI nm)])), (tt 1, .inr (5, [.ref (tt 2)])), (tt 2, .inl (dA 0, 84, .inl (fl (fun j => lowF 108 (tw j)) tw nm))), (tt 3, .inr (5, [.ref (tt 4)])), (tt 4, .inl (dA 0, 84, .inl tp)), (tt 5, .inr (5, [.ref (tt 6)])), (tt 6, .inl (dA 0, 84, .inl tx))] t.heap ∧ va_D (va_A [(tt 0, .inr (9, [.ref (tt 1), .ref (tt 3), .ref (tt 5), .int (nI nm)])), (tt 1, .inr (5, [.ref (tt 2)])), (tt 2, .inl (dA 0, 84, .inl tw)), (tt 3, .inr (5, [.ref (tt 4)])), (tt 4, .inl (dA 0, 84, .inl tp)), (tt 5, .inr (5, [.ref (tt 6)])), (tt 6, .inl (dA 0, 84, .inl tx))] sz) [(tt 0, .inr (9, [.ref (tt 1), .ref (tt 3), .ref (tt 5), .int (nI nm)])), (tt 1, .inr (5, [.ref (tt 2)])), (tt 2, .inl (dA 0, 84, .inl (fl (fun j => lowF 108 (tw j)) tw nm))), (tt 3, .inr (5, [.ref (tt 4)])), (tt 4, .inl (dA 0, 84, .inl tp)), (tt 5, .inr (5, [.ref (tt 6)])), (tt 6, .inl (dA 0, 84, .inl tx))]) (va_A [(tt 0, .inr (9, [.ref (tt 1), .ref (tt 3), .ref (tt 5), .int (nI nm)])), (tt 1, .inr (5, [.ref (tt 2)])), (tt 2, .inl (dA 0, 84, .inl tw)), (tt 3, .inr (5, [.ref (tt 4)])), (tt 4, .inl (dA 0, 84, .inl tp)), (tt 5, .inr (5, [.ref (tt 6)])), (tt 6, .inl (dA 0, 84, .inl tx))] sz)) 0 0 (va_A [(tt 0, .inr (9, [.ref (tt 1), .ref (tt 3), .ref (tt 5), .int (nI nm)])), (tt 1, .inr (5, [.ref (tt 2)])), (tt 2, .inl (dA 0, 84, .inl tw)), (tt 3, .inr (5, [.ref (tt 4)])), (tt 4, .inl (dA 0, 84, .inl tp)), (tt 5, .inr (5, [.ref (tt 6)])), (tt 6, .inl (dA 0, 84, .inl tx))] sz) := by
  refine mb_of (Qc := fun A => va_Qv (fun (u : Unit) => True) (fun u t => va_P D vwCl [(tt 0, .inr (9, [.ref (tt 1), .ref (tt 3), .ref (tt 5), .int (nI nm)])), (tt 1, .inr (5, [.ref (tt 2)])), (tt 2, .inl (dA 0, 84, .inl (fl (fun j => lowF 108 (tw j)) tw nm))), (tt 3, .inr (5, [.ref (tt 4)])), (tt 4, .inl (dA 0, 84, .inl tp)), (tt 5, .inr (5, [.ref (tt 6)])), (tt 6, .inl (dA 0, 84, .inl tx))] t.heap ∧ va_D A [(tt 0, .inr (9, [.ref (tt 1), .ref (tt 3), .ref (tt 5), .int (nI nm)])), (tt 1, .inr (5, [.ref (tt 2)])), (tt 2, .inl (dA 0, 84, .inl (fl (fun j => lowF 108 (tw j)) tw nm))), (tt 3, .inr (5, [.ref (tt 4)])), (tt 4, .inl (dA 0, 84, .inl tp)), (tt 5, .inr (5, [.ref (tt 6)])), (tt 6, .inl (dA 0, 84, .inl tx))]) A) RX6 rfl (by decide) (Nat.le_of_ble_eq_true rfl) ?_
  intro p e s m args below meth c hae hx hb hr hts hown hlocks hml hnm hP hK A hAe hD hZ hS hA ls hl
  replace hl : lv_has ls 3 [(0, .ref (tt 0))] := hl
  refine lv_iconst (v := 0) hx hb dX6_lower_0 (by decide) ?_
  refine lv_istore_n (lv' := [(1, .int 0), (0, .ref (tt 0))]) hx hb dX6_lower_1 rfl hl (by decide) rfl (fun ls hl => ?_)
  have K2 : ∀ (k2 i2 : Nat) (g2_0 : Nat → Int32), 0 ≤ i2 → i2 ≤ nm → nm < i2 + k2 → (g2_0 = fl (fun j => lowF 108 (tw j)) tw i2) → ∀ (H : Heap) (locs : List Loc), va_P D vwCl [(tt 0, .inr (9, [.ref (tt 1), .ref (tt 3), .ref (tt 5), .int (nI nm)])), (tt 1, .inr (5, [.ref (tt 2)])), (tt 2, .inl (dA 0, 84, .inl g2_0)), (tt 3, .inr (5, [.ref (tt 4)])), (tt 4, .inl (dA 0, 84, .inl tp)), (tt 5, .inr (5, [.ref (tt 6)])), (tt 6, .inl (dA 0, 84, .inl tx))] H → va_D A [(tt 0, .inr (9, [.ref (tt 1), .ref (tt 3), .ref (tt 5), .int (nI nm)])), (tt 1, .inr (5, [.ref (tt 2)])), (tt 2, .inl (dA 0, 84, .inl g2_0)), (tt 3, .inr (5, [.ref (tt 4)])), (tt 4, .inl (dA 0, 84, .inl tp)), (tt 5, .inr (5, [.ref (tt 6)])), (tt 6, .inl (dA 0, 84, .inl tx))] → va_S A s.heap H locs → ∀ ls : Array Slot, lv_has ls 3 [(1, .int (nI i2)), (0, .ref (tt 0))] → W p l e { frames := 1, cells := 0, slots := 0, locals := 22 } s m args below meth c H locs 0 0 (MQ below (va_Qv (fun (u : Unit) => True) (fun u t => va_P D vwCl [(tt 0, .inr (9, [.ref (tt 1), .ref (tt 3), .ref (tt 5), .int (nI nm)])), (tt 1, .inr (5, [.ref (tt 2)])), (tt 2, .inl (dA 0, 84, .inl (fl (fun j => lowF 108 (tw j)) tw nm))), (tt 3, .inr (5, [.ref (tt 4)])), (tt 4, .inl (dA 0, 84, .inl tp)), (tt 5, .inr (5, [.ref (tt 6)])), (tt 6, .inl (dA 0, 84, .inl tx))] t.heap ∧ va_D A [(tt 0, .inr (9, [.ref (tt 1), .ref (tt 3), .ref (tt 5), .int (nI nm)])), (tt 1, .inr (5, [.ref (tt 2)])), (tt 2, .inl (dA 0, 84, .inl (fl (fun j => lowF 108 (tw j)) tw nm))), (tt 3, .inr (5, [.ref (tt 4)])), (tt 4, .inl (dA 0, 84, .inl tp)), (tt 5, .inr (5, [.ref (tt 6)])), (tt 6, .inl (dA 0, 84, .inl tx))]) A) args s 0 0 A) (F0 m 2 ls []) := by
    intro k2
    induction k2 with
    | zero => intro i2 g2_0 h1 h2 h3; exact absurd h3 (by omega)
    | succ k2 ih2 =>
      intro i2 g2_0 hlo2 hhi2 hms2 hinv2 H locs hP hD hS ls hl
      have eg2_0 := hinv2
      subst eg2_0
      refine lv_iload_n hx hb dX6_lower_2 rfl (lv_at hl 0 rfl) ?_
      refine lv_aload_n hx hb dX6_lower_3 rfl (lv_at hl 1 rfl) ?_
      refine va_get (D := D) (ci := 9) (v := .int (nI nm)) (C := RX6) (T := TX6) (N := 4) hx hb hts inAX6 hown hK hP 0 rfl rfl 3 (by decide) (hts _ q205) (fun _ h9 => h9) rfl dX6_lower_4 ?_
      refine lv_icmp_ge (tgt := 43) hx hb dX6_lower_7 (by decide) (fun c1 => ?_) (fun c1 => ?_)
      · replace c1 := (nI_leI (a := nm) (b := i2) (by omega) (by omega)).mp c1
        obtain rfl : nm = i2 := (by omega)
        replace hP : va_P D vwCl [(tt 0, .inr (9, [.ref (tt 1), .ref (tt 3), .ref (tt 5), .int (nI nm)])), (tt 1, .inr (5, [.ref (tt 2)])), (tt 2, .inl (dA 0, 84, .inl (fl (fun j => lowF 108 (tw j)) tw nm))), (tt 3, .inr (5, [.ref (tt 4)])), (tt 4, .inl (dA 0, 84, .inl tp)), (tt 5, .inr (5, [.ref (tt 6)])), (tt 6, .inl (dA 0, 84, .inl tx))] H := hP
        replace hD : va_D A [(tt 0, .inr (9, [.ref (tt 1), .ref (tt 3), .ref (tt 5), .int (nI nm)])), (tt 1, .inr (5, [.ref (tt 2)])), (tt 2, .inl (dA 0, 84, .inl (fl (fun j => lowF 108 (tw j)) tw nm))), (tt 3, .inr (5, [.ref (tt 4)])), (tt 4, .inl (dA 0, 84, .inl tp)), (tt 5, .inr (5, [.ref (tt 6)])), (tt 6, .inl (dA 0, 84, .inl tx))] := hD
        refine W.widen (k := 0) (n := 0) (Nat.le_of_ble_eq_true rfl) (Nat.le_of_ble_eq_true rfl) ?_
        have hP9 := hP.sub (ws' := [(tt 0, .inr (9, [.ref (tt 1), .ref (tt 3), .ref (tt 5), .int (nI nm)])), (tt 1, .inr (5, [.ref (tt 2)])), (tt 2, .inl (dA 0, 84, .inl (fl (fun j => lowF 108 (tw j)) tw nm))), (tt 3, .inr (5, [.ref (tt 4)])), (tt 4, .inl (dA 0, 84, .inl tp)), (tt 5, .inr (5, [.ref (tt 6)])), (tt 6, .inl (dA 0, 84, .inl tx))]) [0, 1, 2, 3, 4, 5, 6] rfl
        have hD9 := hD.sub (ws' := [(tt 0, .inr (9, [.ref (tt 1), .ref (tt 3), .ref (tt 5), .int (nI nm)])), (tt 1, .inr (5, [.ref (tt 2)])), (tt 2, .inl (dA 0, 84, .inl (fl (fun j => lowF 108 (tw j)) tw nm))), (tt 3, .inr (5, [.ref (tt 4)])), (tt 4, .inl (dA 0, 84, .inl tp)), (tt 5, .inr (5, [.ref (tt 6)])), (tt 6, .inl (dA 0, 84, .inl tx))]) [0, 1, 2, 3, 4, 5, 6] (by decide) rfl
        exact W.vret hx hb hr (fun t ht hW => ⟨⟨(), rfl, trivial, ⟨by rw [ht]; exact hP9, hD9⟩⟩, hS.F ht⟩) hS.2.2 dX6_lower_43
      · replace c1 := mt (nI_leI (a := nm) (b := i2) (by omega) (by omega)).mpr c1
        refine lv_aload_n hx hb dX6_lower_10 rfl (lv_at hl 1 rfl) ?_
        refine va_get (D := D) (ci := 9) (v := .ref (tt 1)) (C := RX6) (T := TX6) (N := 4) hx hb hts inAX6 hown hK hP 0 rfl rfl 0 (by decide) (hts _ q206) (fun _ h9 => h9) rfl dX6_lower_11 ?_
        refine lv_iload_n hx hb dX6_lower_14 rfl (lv_at hl 0 rfl) ?_
        replace hPc := hP.sub (ws' := [(tt 1, .inr (5, [.ref (tt 2)])), (tt 2, .inl (dA 0, 84, .inl (fl (fun j => lowF 108 (tw j)) tw i2)))]) [1, 2] rfl
        replace hDc := hD.sub (ws' := [(tt 1, .inr (5, [.ref (tt 2)])), (tt 2, .inl (dA 0, 84, .inl (fl (fun j => lowF 108 (tw j)) tw i2)))]) [1, 2] (by decide) rfl
        replace hFc := va_free (wc := [(tt 1, .inr (5, [.ref (tt 2)])), (tt 2, .inl (dA 0, 84, .inl (fl (fun j => lowF 108 (tw j)) tw i2)))]) hD hS hA [1, 2] rfl
        refine va_calli (va_runV (As := [.int (nI i2)]) (rest := []) ⟨hx, hb, hml, hown, hts⟩ (t_getN l D dA E (tt 1) (tt 2) 84 (fl (fun j => lowF 108 (tw j)) tw i2) i2 H.size  (by omega) (by decide)) (cwV 1 hts (ga_V q213 q203 q200 q204 q201) rfl rfl rfl (by decide +kernel) ⟨(Nat.le_of_ble_eq_true rfl), (Nat.le_of_ble_eq_true rfl)⟩) ⟨pb_blind, va_recv hK hPc (ci := 5) (q0 := 0) rfl rfl, pb_pre hK hPc hDc hZ hS hFc _⟩ rfl rfl hl.1 rfl (lv_room (Nat.le_of_ble_eq_true rfl)) dX6_lower_15 ⟨(Nat.le_of_ble_eq_true rfl), (Nat.le_of_ble_eq_true rfl)⟩) hS (fun q _ h => hFc q h) hFc (fun r u t H1 locs ht hvm hw hB hz1 hk1 hS => ?_)
        refine W.widen (k := 0) (n := 0) (Nat.le_of_ble_eq_true rfl) (Nat.le_of_ble_eq_true rfl) ?_
        obtain ⟨r2, rfl⟩ : ∃ z, z = r := ⟨_, rfl⟩
        obtain ⟨u3, rfl⟩ : ∃ z, z = u := ⟨_, rfl⟩
        have hw4 := hw
        clear hw
        obtain ⟨hP1, hD1⟩ := hB
        rw [ht] at hP1
        obtain ⟨hP, hD⟩ := va_join (wr := [(tt 0, .inr (9, [.ref (tt 1), .ref (tt 3), .ref (tt 5), .int (nI nm)])), (tt 3, .inr (5, [.ref (tt 4)])), (tt 4, .inl (dA 0, 84, .inl tp)), (tt 5, .inr (5, [.ref (tt 6)])), (tt 6, .inl (dA 0, 84, .inl tx))]) (w1 := [(tt 1, .inr (5, [.ref (tt 2)])), (tt 2, .inl (dA 0, 84, .inl (fl (fun j => lowF 108 (tw j)) tw i2)))]) hP hD [1, 2] [0, 3, 4, 5, 6] rfl rfl (by decide) (by decide) hk1 hFc hP1 hD1
        generalize H1 = H at hP hS ⊢
        replace hP : va_P D vwCl [(tt 0, .inr (9, [.ref (tt 1), .ref (tt 3), .ref (tt 5), .int (nI nm)])), (tt 3, .inr (5, [.ref (tt 4)])), (tt 4, .inl (dA 0, 84, .inl tp)), (tt 5, .inr (5, [.ref (tt 6)])), (tt 6, .inl (dA 0, 84, .inl tx)), (tt 1, .inr (5, [.ref (tt 2)])), (tt 2, .inl (dA 0, 84, .inl (fl (fun j => lowF 108 (tw j)) tw i2)))] H := hP
        replace hD : va_D A [(tt 0, .inr (9, [.ref (tt 1), .ref (tt 3), .ref (tt 5), .int (nI nm)])), (tt 3, .inr (5, [.ref (tt 4)])), (tt 4, .inl (dA 0, 84, .inl tp)), (tt 5, .inr (5, [.ref (tt 6)])), (tt 6, .inl (dA 0, 84, .inl tx)), (tt 1, .inr (5, [.ref (tt 2)])), (tt 2, .inl (dA 0, 84, .inl (fl (fun j => lowF 108 (tw j)) tw i2)))] := hD
        obtain rfl : r2 = tw i2 := (show r2 = (fl (fun j => lowF 108 (tw j)) tw i2) i2 from hw4).trans (fl_out (Nat.le_refl _))
        refine lv_istore_n (lv' := [(2, .int (tw i2)), (1, .int (nI i2)), (0, .ref (tt 0))]) hx hb dX6_lower_18 rfl hl (by decide) rfl (fun ls hl => ?_)
        refine lv_iload_n hx hb dX6_lower_19 rfl (lv_at hl 0 rfl) ?_
        refine lv_bipush (v := 30) hx hb dX6_lower_20 (by decide) ?_
        refine lv_icmp_lt (tgt := 37) hx hb dX6_lower_22 (by decide) (fun c5 => ?_) (fun c5 => ?_)
        · refine lv_iinc (v := nI (i2 + 1)) (lv' := [(1, .int (nI (i2 + 1))), (2, .int (tw i2)), (0, .ref (tt 0))]) hx hb dX6_lower_37 hl (k := 1) rfl (nI_add i2 1) (by decide) rfl (fun ls hl => ?_)
          refine lv_goto (tgt := 2) hx hb dX6_lower_40 (by decide) ?_
          replace hP := hP.sub (ws' := [(tt 0, .inr (9, [.ref (tt 1), .ref (tt 3), .ref (tt 5), .int (nI nm)])), (tt 1, .inr (5, [.ref (tt 2)])), (tt 2, .inl (dA 0, 84, .inl (fl (fun j => lowF 108 (tw j)) tw i2))), (tt 3, .inr (5, [.ref (tt 4)])), (tt 4, .inl (dA 0, 84, .inl tp)), (tt 5, .inr (5, [.ref (tt 6)])), (tt 6, .inl (dA 0, 84, .inl tx))]) [0, 5, 6, 1, 2, 3, 4] rfl
          replace hD := hD.sub (ws' := [(tt 0, .inr (9, [.ref (tt 1), .ref (tt 3), .ref (tt 5), .int (nI nm)])), (tt 1, .inr (5, [.ref (tt 2)])), (tt 2, .inl (dA 0, 84, .inl (fl (fun j => lowF 108 (tw j)) tw i2))), (tt 3, .inr (5, [.ref (tt 4)])), (tt 4, .inl (dA 0, 84, .inl tp)), (tt 5, .inr (5, [.ref (tt 6)])), (tt 6, .inl (dA 0, 84, .inl tx))]) [0, 5, 6, 1, 2, 3, 4] (by decide) rfl
          exact ih2 (i2 + 1) (fl (fun j => lowF 108 (tw j)) tw i2) (by omega) (by omega) (by omega) (fl_keep (by show lowF 108 (tw i2) = tw i2; simp [lowF, c5])) _ _ hP hD hS ls (lv_sub hl [0, 2] rfl)
        · refine lv_aload_n hx hb dX6_lower_25 rfl (lv_at hl 2 rfl) ?_
          refine va_get (D := D) (ci := 9) (v := .ref (tt 1)) (C := RX6) (T := TX6) (N := 4) hx hb hts inAX6 hown hK hP 0 rfl rfl 0 (by decide) (hts _ q206) (fun _ h9 => h9) rfl dX6_lower_26 ?_
          refine lv_iload_n hx hb dX6_lower_29 rfl (lv_at hl 1 rfl) ?_
          refine lv_iload_n hx hb dX6_lower_30 rfl (lv_at hl 0 rfl) ?_
          refine lv_bipush (v := 30) hx hb dX6_lower_31 (by decide) ?_
          refine lv_isub hx hb dX6_lower_33 ?_
          replace hPc := hP.sub (ws' := [(tt 1, .inr (5, [.ref (tt 2)])), (tt 2, .inl (dA 0, 84, .inl (fl (fun j => lowF 108 (tw j)) tw i2)))]) [5, 6] rfl
          replace hDc := hD.sub (ws' := [(tt 1, .inr (5, [.ref (tt 2)])), (tt 2, .inl (dA 0, 84, .inl (fl (fun j => lowF 108 (tw j)) tw i2)))]) [5, 6] (by decide) rfl
          replace hFc := va_free (wc := [(tt 1, .inr (5, [.ref (tt 2)])), (tt 2, .inl (dA 0, 84, .inl (fl (fun j => lowF 108 (tw j)) tw i2)))]) hD hS hA [5, 6] rfl
          refine va_callv (va_runV (As := [.int (nI i2), .int ((tw i2) - 30)]) (rest := []) ⟨hx, hb, hml, hown, hts⟩ (t_putN l D dA E (tt 1) (tt 2) 84 (fl (fun j => lowF 108 (tw j)) tw i2) i2 ((tw i2) - 30) H.size  (by omega) (by decide)) (cwV 2 hts (ga_V q209 q210 q207 q204 q208) rfl rfl rfl (by decide +kernel) ⟨(Nat.le_of_ble_eq_true rfl), (Nat.le_of_ble_eq_true rfl)⟩) ⟨pb_blind, va_recv hK hPc (ci := 5) (q0 := 0) rfl rfl, pb_pre hK hPc hDc hZ hS hFc _⟩ rfl rfl hl.1 rfl (lv_room (Nat.le_of_ble_eq_true rfl)) dX6_lower_34 ⟨(Nat.le_of_ble_eq_true rfl), (Nat.le_of_ble_eq_true rfl)⟩) hS (fun q _ h => hFc q h) hFc (fun u t H1 locs ht hvm hw hB hz1 hk1 hS => ?_)
          refine W.widen (k := 0) (n := 0) (Nat.le_of_ble_eq_true rfl) (Nat.le_of_ble_eq_true rfl) ?_
          obtain ⟨u6, rfl⟩ : ∃ z, z = u := ⟨_, rfl⟩
          have hw7 := hw
          clear hw
          obtain ⟨hP1, hD1⟩ := hB
          rw [ht] at hP1
          obtain ⟨hP, hD⟩ := va_join (wr := [(tt 0, .inr (9, [.ref (tt 1), .ref (tt 3), .ref (tt 5), .int (nI nm)])), (tt 3, .inr (5, [.ref (tt 4)])), (tt 4, .inl (dA 0, 84, .inl tp)), (tt 5, .inr (5, [.ref (tt 6)])), (tt 6, .inl (dA 0, 84, .inl tx))]) (w1 := [(tt 1, .inr (5, [.ref (tt 2)])), (tt 2, .inl (dA 0, 84, .inl (upd (fl (fun j => lowF 108 (tw j)) tw i2) i2 ((tw i2) - 30))))]) hP hD [5, 6] [0, 1, 2, 3, 4] rfl rfl (by decide) (by decide) hk1 hFc hP1 hD1
          generalize H1 = H at hP hS ⊢
          replace hP : va_P D vwCl [(tt 0, .inr (9, [.ref (tt 1), .ref (tt 3), .ref (tt 5), .int (nI nm)])), (tt 3, .inr (5, [.ref (tt 4)])), (tt 4, .inl (dA 0, 84, .inl tp)), (tt 5, .inr (5, [.ref (tt 6)])), (tt 6, .inl (dA 0, 84, .inl tx)), (tt 1, .inr (5, [.ref (tt 2)])), (tt 2, .inl (dA 0, 84, .inl (upd (fl (fun j => lowF 108 (tw j)) tw i2) i2 ((tw i2) - 30))))] H := hP
          replace hD : va_D A [(tt 0, .inr (9, [.ref (tt 1), .ref (tt 3), .ref (tt 5), .int (nI nm)])), (tt 3, .inr (5, [.ref (tt 4)])), (tt 4, .inl (dA 0, 84, .inl tp)), (tt 5, .inr (5, [.ref (tt 6)])), (tt 6, .inl (dA 0, 84, .inl tx)), (tt 1, .inr (5, [.ref (tt 2)])), (tt 2, .inl (dA 0, 84, .inl (upd (fl (fun j => lowF 108 (tw j)) tw i2) i2 ((tw i2) - 30))))] := hD
          refine lv_iinc (v := nI (i2 + 1)) (lv' := [(1, .int (nI (i2 + 1))), (2, .int (tw i2)), (0, .ref (tt 0))]) hx hb dX6_lower_37 hl (k := 1) rfl (nI_add i2 1) (by decide) rfl (fun ls hl => ?_)
          refine lv_goto (tgt := 2) hx hb dX6_lower_40 (by decide) ?_
          replace hP := hP.sub (ws' := [(tt 0, .inr (9, [.ref (tt 1), .ref (tt 3), .ref (tt 5), .int (nI nm)])), (tt 1, .inr (5, [.ref (tt 2)])), (tt 2, .inl (dA 0, 84, .inl (upd (fl (fun j => lowF 108 (tw j)) tw i2) i2 ((tw i2) - 30)))), (tt 3, .inr (5, [.ref (tt 4)])), (tt 4, .inl (dA 0, 84, .inl tp)), (tt 5, .inr (5, [.ref (tt 6)])), (tt 6, .inl (dA 0, 84, .inl tx))]) [0, 5, 6, 1, 2, 3, 4] rfl
          replace hD := hD.sub (ws' := [(tt 0, .inr (9, [.ref (tt 1), .ref (tt 3), .ref (tt 5), .int (nI nm)])), (tt 1, .inr (5, [.ref (tt 2)])), (tt 2, .inl (dA 0, 84, .inl (upd (fl (fun j => lowF 108 (tw j)) tw i2) i2 ((tw i2) - 30)))), (tt 3, .inr (5, [.ref (tt 4)])), (tt 4, .inl (dA 0, 84, .inl tp)), (tt 5, .inr (5, [.ref (tt 6)])), (tt 6, .inl (dA 0, 84, .inl tx))]) [0, 5, 6, 1, 2, 3, 4] (by decide) rfl
          exact ih2 (i2 + 1) (upd (fl (fun j => lowF 108 (tw j)) tw i2) i2 ((tw i2) - 30)) (by omega) (by omega) (by omega) (fl_succ (by show _ = lowF 108 (tw i2); simp [lowF, c5])) _ _ hP hD hS ls (lv_sub hl [0, 2] rfl)
  exact K2 (nm + 1) 0 tw (by omega) (by omega) (by omega) fl_0.symm _ _ hP hD hS ls hl
