/-! CONTRACTS, general -/
set_option maxHeartbeats 4000000 in
set_option maxRecDepth 100000 in
theorem t_firstIndexAt (l : Launch) (D : va_G) (dA : Nat → ClassId) (E : Nat) (tt : Nat → Nat) (tw tp tx : Nat → Int32) (nm : Nat) (p0 p1 : Int32) (sz : Nat) (hnm : nm ≤ 84)  : Met l yX6_firstIndexAt (wq (.code yX6_firstIndexAt cX6_firstIndexAt 6 (some .int))) { frames := 1, cells := 0, slots := 0, locals := 21 } (va_Pc [.ref (tt 0), .int p0, .int p1] (PcB D dA E [(tt 0, .inr (9, [.ref (tt 1), .ref (tt 3), .ref (tt 5), .int (nI nm)])), (tt 1, .inr (5, [.ref (tt 2)])), (tt 2, .inl (dA 0, 84, .inl tw)), (tt 3, .inr (5, [.ref (tt 4)])), (tt 4, .inl (dA 0, 84, .inl tp)), (tt 5, .inr (5, [.ref (tt 6)])), (tt 6, .inl (dA 0, 84, .inl tx))] sz)) (va_Qi (fun (r : Int32) (u : Unit) => True) (fun u t => va_P D vwCl [(tt 0, .inr (9, [.ref (tt 1), .ref (tt 3), .ref (tt 5), .int (nI nm)])), (tt 1, .inr (5, [.ref (tt 2)])), (tt 2, .inl (dA 0, 84, .inl tw)), (tt 3, .inr (5, [.ref (tt 4)])), (tt 4, .inl (dA 0, 84, .inl tp)), (tt 5, .inr (5, [.ref (tt 6)])), (tt 6, .inl (dA 0, 84, .inl tx))] t.heap ∧ va_D (va_A [(tt 0, .inr (9, [.ref (tt 1), .ref (tt 3), .ref (tt 5), .int (nI nm)])), (tt 1, .inr (5, [.ref (tt 2)])), (tt 2, .inl (dA 0, 84, .inl tw)), (tt 3, .inr (5, [.ref (tt 4)])), (tt 4, .inl (dA 0, 84, .inl tp)), (tt 5, .inr (5, [.ref (tt 6)])), (tt 6, .inl (dA 0, 84, .inl tx))] sz) [(tt 0, .inr (9, [.ref (tt 1), .ref (tt 3), .ref (tt 5), .int (nI nm)])), (tt 1, .inr (5, [.ref (tt 2)])), (tt 2, .inl (dA 0, 84, .inl tw)), (tt 3, .inr (5, [.ref (tt 4)])), (tt 4, .inl (dA 0, 84, .inl tp)), (tt 5, .inr (5, [.ref (tt 6)])), (tt 6, .inl (dA 0, 84, .inl tx))]) (va_A [(tt 0, .inr (9, [.ref (tt 1), .ref (tt 3), .ref (tt 5), .int (nI nm)])), (tt 1, .inr (5, [.ref (tt 2)])), (tt 2, .inl (dA 0, 84, .inl tw)), (tt 3, .inr (5, [.ref (tt 4)])), (tt 4, .inl (dA 0, 84, .inl tp)), (tt 5, .inr (5, [.ref (tt 6)])), (tt 6, .inl (dA 0, 84, .inl tx))] sz)) 0 0 (va_A [(tt 0, .inr (9, [.ref (tt 1), .ref (tt 3), .ref (tt 5), .int (nI nm)])), (tt 1, .inr (5, [.ref (tt 2)])), (tt 2, .inl (dA 0, 84, .inl tw)), (tt 3, .inr (5, [.ref (tt 4)])), (tt 4, .inl (dA 0, 84, .inl tp)), (tt 5, .inr (5, [.ref (tt 6)])), (tt 6, .inl (dA 0, 84, .inl tx))] sz) := by
  refine mb_of (Qc := fun A => va_Qi (fun (r : Int32) (u : Unit) => True) (fun u t => va_P D vwCl [(tt 0, .inr (9, [.ref (tt 1), .ref (tt 3), .ref (tt 5), .int (nI nm)])), (tt 1, .inr (5, [.ref (tt 2)])), (tt 2, .inl (dA 0, 84, .inl tw)), (tt 3, .inr (5, [.ref (tt 4)])), (tt 4, .inl (dA 0, 84, .inl tp)), (tt 5, .inr (5, [.ref (tt 6)])), (tt 6, .inl (dA 0, 84, .inl tx))] t.heap ∧ va_D A [(tt 0, .inr (9, [.ref (tt 1), .ref (tt 3), .ref (tt 5), .int (nI nm)])), (tt 1, .inr (5, [.ref (tt 2)])), (tt 2, .inl (dA 0, 84, .inl tw)), (tt 3, .inr (5, [.ref (tt 4)])), (tt 4, .inl (dA 0, 84, .inl tp)), (tt 5, .inr (5, [.ref (tt 6)])), (tt 6, .inl (dA 0, 84, .inl tx))]) A) RX6 rfl (by decide) (Nat.le_of_ble_eq_true rfl) ?_
  intro p e s m args below meth c hae hx hb hr hts hown hlocks hml hnm hP hK A hAe hD hZ hS hA ls hl
  replace hl : lv_has ls 6 [(0, .ref (tt 0)), (1, .int p0), (2, .int p1)] := hl
  refine lv_bipush (v := 12) hx hb dX6_firstIndexAt_0 (by decide) ?_
  refine lv_istore_n (lv' := [(3, .int 12), (0, .ref (tt 0)), (1, .int p0), (2, .int p1)]) hx hb dX6_firstIndexAt_2 rfl hl (by decide) rfl (fun ls hl => ?_)
  refine lv_iconst (v := 0) hx hb dX6_firstIndexAt_3 (by decide) ?_
  refine lv_istore (lv' := [(4, .int 0), (3, .int 12), (0, .ref (tt 0)), (1, .int p0), (2, .int p1)]) hx hb dX6_firstIndexAt_4 hl (by decide) rfl (fun ls hl => ?_)
  have K6 : ∀ (k6 i6 : Nat) (g6_0 : Int32), 0 ≤ i6 → i6 ≤ nm → nm < i6 + k6 → True → ∀ (H : Heap) (locs : List Loc), va_P D vwCl [(tt 0, .inr (9, [.ref (tt 1), .ref (tt 3), .ref (tt 5), .int (nI nm)])), (tt 1, .inr (5, [.ref (tt 2)])), (tt 2, .inl (dA 0, 84, .inl tw)), (tt 3, .inr (5, [.ref (tt 4)])), (tt 4, .inl (dA 0, 84, .inl tp)), (tt 5, .inr (5, [.ref (tt 6)])), (tt 6, .inl (dA 0, 84, .inl tx))] H → va_D A [(tt 0, .inr (9, [.ref (tt 1), .ref (tt 3), .ref (tt 5), .int (nI nm)])), (tt 1, .inr (5, [.ref (tt 2)])), (tt 2, .inl (dA 0, 84, .inl tw)), (tt 3, .inr (5, [.ref (tt 4)])), (tt 4, .inl (dA 0, 84, .inl tp)), (tt 5, .inr (5, [.ref (tt 6)])), (tt 6, .inl (dA 0, 84, .inl tx))] → va_S A s.heap H locs → ∀ ls : Array Slot, lv_has ls 6 [(4, .int (nI i6)), (3, .int g6_0), (0, .ref (tt 0)), (1, .int p0), (2, .int p1)] → W p l e { frames := 1, cells := 0, slots := 0, locals := 21 } s m args below meth c H locs 0 0 (MQ below (va_Qi (fun (r : Int32) (u : Unit) => True) (fun u t => va_P D vwCl [(tt 0, .inr (9, [.ref (tt 1), .ref (tt 3), .ref (tt 5), .int (nI nm)])), (tt 1, .inr (5, [.ref (tt 2)])), (tt 2, .inl (dA 0, 84, .inl tw)), (tt 3, .inr (5, [.ref (tt 4)])), (tt 4, .inl (dA 0, 84, .inl tp)), (tt 5, .inr (5, [.ref (tt 6)])), (tt 6, .inl (dA 0, 84, .inl tx))] t.heap ∧ va_D A [(tt 0, .inr (9, [.ref (tt 1), .ref (tt 3), .ref (tt 5), .int (nI nm)])), (tt 1, .inr (5, [.ref (tt 2)])), (tt 2, .inl (dA 0, 84, .inl tw)), (tt 3, .inr (5, [.ref (tt 4)])), (tt 4, .inl (dA 0, 84, .inl tp)), (tt 5, .inr (5, [.ref (tt 6)])), (tt 6, .inl (dA 0, 84, .inl tx))]) A) args s 0 0 A) (F0 m 6 ls []) := by
    intro k6
    induction k6 with
    | zero => intro i6 g6_0 h1 h2 h3; exact absurd h3 (by omega)
    | succ k6 ih6 =>
      intro i6 g6_0 hlo6 hhi6 hms6 hinv6 H locs hP hD hS ls hl
      refine lv_iload hx hb dX6_firstIndexAt_6 (lv_at hl 0 rfl) ?_
      refine lv_aload_n hx hb dX6_firstIndexAt_8 rfl (lv_at hl 2 rfl) ?_
      refine va_get (D := D) (ci := 9) (v := .int (nI nm)) (C := RX6) (T := TX6) (N := 4) hx hb hts inAX6 hown hK hP 0 rfl rfl 3 (by decide) (hts _ q205) (fun _ h9 => h9) rfl dX6_firstIndexAt_9 ?_
      refine lv_icmp_ge (tgt := 82) hx hb dX6_firstIndexAt_12 (by decide) (fun c1 => ?_) (fun c1 => ?_)
      · replace c1 := (nI_leI (a := nm) (b := i6) (by omega) (by omega)).mp c1
        obtain rfl : nm = i6 := (by omega)
        replace hP : va_P D vwCl [(tt 0, .inr (9, [.ref (tt 1), .ref (tt 3), .ref (tt 5), .int (nI nm)])), (tt 1, .inr (5, [.ref (tt 2)])), (tt 2, .inl (dA 0, 84, .inl tw)), (tt 3, .inr (5, [.ref (tt 4)])), (tt 4, .inl (dA 0, 84, .inl tp)), (tt 5, .inr (5, [.ref (tt 6)])), (tt 6, .inl (dA 0, 84, .inl tx))] H := hP
        replace hD : va_D A [(tt 0, .inr (9, [.ref (tt 1), .ref (tt 3), .ref (tt 5), .int (nI nm)])), (tt 1, .inr (5, [.ref (tt 2)])), (tt 2, .inl (dA 0, 84, .inl tw)), (tt 3, .inr (5, [.ref (tt 4)])), (tt 4, .inl (dA 0, 84, .inl tp)), (tt 5, .inr (5, [.ref (tt 6)])), (tt 6, .inl (dA 0, 84, .inl tx))] := hD
        refine lv_iload_n hx hb dX6_firstIndexAt_82 rfl (lv_at hl 1 rfl) ?_
        refine W.widen (k := 0) (n := 0) (Nat.le_of_ble_eq_true rfl) (Nat.le_of_ble_eq_true rfl) ?_
        have hP9 := hP.sub (ws' := [(tt 0, .inr (9, [.ref (tt 1), .ref (tt 3), .ref (tt 5), .int (nI nm)])), (tt 1, .inr (5, [.ref (tt 2)])), (tt 2, .inl (dA 0, 84, .inl tw)), (tt 3, .inr (5, [.ref (tt 4)])), (tt 4, .inl (dA 0, 84, .inl tp)), (tt 5, .inr (5, [.ref (tt 6)])), (tt 6, .inl (dA 0, 84, .inl tx))]) [0, 1, 2, 3, 4, 5, 6] rfl
        have hD9 := hD.sub (ws' := [(tt 0, .inr (9, [.ref (tt 1), .ref (tt 3), .ref (tt 5), .int (nI nm)])), (tt 1, .inr (5, [.ref (tt 2)])), (tt 2, .inl (dA 0, 84, .inl tw)), (tt 3, .inr (5, [.ref (tt 4)])), (tt 4, .inl (dA 0, 84, .inl tp)), (tt 5, .inr (5, [.ref (tt 6)])), (tt 6, .inl (dA 0, 84, .inl tx))]) [0, 1, 2, 3, 4, 5, 6] (by decide) rfl
        exact W.iret (v := g6_0) hx hb hr (fun t ht hW => ⟨⟨g6_0, (), rfl, trivial, ⟨by rw [ht]; exact hP9, hD9⟩⟩, hS.F ht⟩) hS.2.2 dX6_firstIndexAt_83
      · replace c1 := mt (nI_leI (a := nm) (b := i6) (by omega) (by omega)).mpr c1
        refine lv_aload_n hx hb dX6_firstIndexAt_15 rfl (lv_at hl 2 rfl) ?_
        refine va_get (D := D) (ci := 9) (v := .ref (tt 1)) (C := RX6) (T := TX6) (N := 4) hx hb hts inAX6 hown hK hP 0 rfl rfl 0 (by decide) (hts _ q206) (fun _ h9 => h9) rfl dX6_firstIndexAt_16 ?_
        refine lv_iload hx hb dX6_firstIndexAt_19 (lv_at hl 0 rfl) ?_
        replace hPc := hP.sub (ws' := [(tt 1, .inr (5, [.ref (tt 2)])), (tt 2, .inl (dA 0, 84, .inl tw))]) [1, 2] rfl
        replace hDc := hD.sub (ws' := [(tt 1, .inr (5, [.ref (tt 2)])), (tt 2, .inl (dA 0, 84, .inl tw))]) [1, 2] (by decide) rfl
        replace hFc := va_free (wc := [(tt 1, .inr (5, [.ref (tt 2)])), (tt 2, .inl (dA 0, 84, .inl tw))]) hD hS hA [1, 2] rfl
        refine va_calli (va_runV (As := [.int (nI i6)]) (rest := []) ⟨hx, hb, hml, hown, hts⟩ (t_getN l D dA E (tt 1) (tt 2) 84 tw i6 H.size  (by omega) (by decide)) (cwV 1 hts (ga_V q213 q203 q200 q204 q201) rfl rfl rfl (by decide +kernel) ⟨(Nat.le_of_ble_eq_true rfl), (Nat.le_of_ble_eq_true rfl)⟩) ⟨pb_blind, va_recv hK hPc (ci := 5) (q0 := 0) rfl rfl, pb_pre hK hPc hDc hZ hS hFc _⟩ rfl rfl hl.1 rfl (lv_room (Nat.le_of_ble_eq_true rfl)) dX6_firstIndexAt_21 ⟨(Nat.le_of_ble_eq_true rfl), (Nat.le_of_ble_eq_true rfl)⟩) hS (fun q _ h => hFc q h) hFc (fun r u t H1 locs ht hvm hw hB hz1 hk1 hS => ?_)
        refine W.widen (k := 0) (n := 0) (Nat.le_of_ble_eq_true rfl) (Nat.le_of_ble_eq_true rfl) ?_
        obtain ⟨r2, rfl⟩ : ∃ z, z = r := ⟨_, rfl⟩
        obtain ⟨u3, rfl⟩ : ∃ z, z = u := ⟨_, rfl⟩
        have hw4 := hw
        clear hw
        obtain ⟨hP1, hD1⟩ := hB
        rw [ht] at hP1
        obtain ⟨hP, hD⟩ := va_join (wr := [(tt 0, .inr (9, [.ref (tt 1), .ref (tt 3), .ref (tt 5), .int (nI nm)])), (tt 3, .inr (5, [.ref (tt 4)])), (tt 4, .inl (dA 0, 84, .inl tp)), (tt 5, .inr (5, [.ref (tt 6)])), (tt 6, .inl (dA 0, 84, .inl tx))]) (w1 := [(tt 1, .inr (5, [.ref (tt 2)])), (tt 2, .inl (dA 0, 84, .inl tw))]) hP hD [1, 2] [0, 3, 4, 5, 6] rfl rfl (by decide) (by decide) hk1 hFc hP1 hD1
        generalize H1 = H at hP hS ⊢
        replace hP : va_P D vwCl [(tt 0, .inr (9, [.ref (tt 1), .ref (tt 3), .ref (tt 5), .int (nI nm)])), (tt 3, .inr (5, [.ref (tt 4)])), (tt 4, .inl (dA 0, 84, .inl tp)), (tt 5, .inr (5, [.ref (tt 6)])), (tt 6, .inl (dA 0, 84, .inl tx)), (tt 1, .inr (5, [.ref (tt 2)])), (tt 2, .inl (dA 0, 84, .inl tw))] H := hP
        replace hD : va_D A [(tt 0, .inr (9, [.ref (tt 1), .ref (tt 3), .ref (tt 5), .int (nI nm)])), (tt 3, .inr (5, [.ref (tt 4)])), (tt 4, .inl (dA 0, 84, .inl tp)), (tt 5, .inr (5, [.ref (tt 6)])), (tt 6, .inl (dA 0, 84, .inl tx)), (tt 1, .inr (5, [.ref (tt 2)])), (tt 2, .inl (dA 0, 84, .inl tw))] := hD
        obtain rfl : r2 = tw i6 := hw4
        refine lv_iload_n hx hb dX6_firstIndexAt_24 rfl (lv_at hl 4 rfl) ?_
        refine lv_icmp_ne (tgt := 45) hx hb dX6_firstIndexAt_25 (by decide) (fun c5 => ?_) (fun c5 => ?_)
        · refine lv_iconst (v := 0) hx hb dX6_firstIndexAt_45 (by decide) ?_
          refine lv_istore (lv' := [(5, .int 0), (4, .int (nI i6)), (3, .int g6_0), (0, .ref (tt 0)), (1, .int p0), (2, .int p1)]) hx hb dX6_firstIndexAt_46 hl (by decide) rfl (fun ls hl => ?_)
          refine lv_iload hx hb dX6_firstIndexAt_48 (lv_at hl 0 rfl) ?_
          refine lv_if_eq (tgt := 76) hx hb dX6_firstIndexAt_50 (by decide) (fun _ => ?_) (fun c6 => absurd (by decide) c6)
          refine lv_iinc (v := nI (i6 + 1)) (lv' := [(4, .int (nI (i6 + 1))), (5, .int 0), (3, .int g6_0), (0, .ref (tt 0)), (1, .int p0), (2, .int p1)]) hx hb dX6_firstIndexAt_76 hl (k := 1) rfl (nI_add i6 1) (by decide) rfl (fun ls hl => ?_)
          refine lv_goto (tgt := 6) hx hb dX6_firstIndexAt_79 (by decide) ?_
          replace hP := hP.sub (ws' := [(tt 0, .inr (9, [.ref (tt 1), .ref (tt 3), .ref (tt 5), .int (nI nm)])), (tt 1, .inr (5, [.ref (tt 2)])), (tt 2, .inl (dA 0, 84, .inl tw)), (tt 3, .inr (5, [.ref (tt 4)])), (tt 4, .inl (dA 0, 84, .inl tp)), (tt 5, .inr (5, [.ref (tt 6)])), (tt 6, .inl (dA 0, 84, .inl tx))]) [0, 5, 6, 1, 2, 3, 4] rfl
          replace hD := hD.sub (ws' := [(tt 0, .inr (9, [.ref (tt 1), .ref (tt 3), .ref (tt 5), .int (nI nm)])), (tt 1, .inr (5, [.ref (tt 2)])), (tt 2, .inl (dA 0, 84, .inl tw)), (tt 3, .inr (5, [.ref (tt 4)])), (tt 4, .inl (dA 0, 84, .inl tp)), (tt 5, .inr (5, [.ref (tt 6)])), (tt 6, .inl (dA 0, 84, .inl tx))]) [0, 5, 6, 1, 2, 3, 4] (by decide) rfl
          exact ih6 (i6 + 1) g6_0 (by omega) (by omega) (by omega) trivial _ _ hP hD hS ls (lv_sub hl [0, 2, 3, 4, 5] rfl)
        · refine lv_aload_n hx hb dX6_firstIndexAt_28 rfl (lv_at hl 2 rfl) ?_
          refine va_get (D := D) (ci := 9) (v := .ref (tt 3)) (C := RX6) (T := TX6) (N := 4) hx hb hts inAX6 hown hK hP 0 rfl rfl 1 (by decide) (hts _ q211) (fun _ h9 => h9) rfl dX6_firstIndexAt_29 ?_
          refine lv_iload hx hb dX6_firstIndexAt_32 (lv_at hl 0 rfl) ?_
          replace hPc := hP.sub (ws' := [(tt 3, .inr (5, [.ref (tt 4)])), (tt 4, .inl (dA 0, 84, .inl tp))]) [1, 2] rfl
          replace hDc := hD.sub (ws' := [(tt 3, .inr (5, [.ref (tt 4)])), (tt 4, .inl (dA 0, 84, .inl tp))]) [1, 2] (by decide) rfl
          replace hFc := va_free (wc := [(tt 3, .inr (5, [.ref (tt 4)])), (tt 4, .inl (dA 0, 84, .inl tp))]) hD hS hA [1, 2] rfl
          refine va_calli (va_runV (As := [.int (nI i6)]) (rest := []) ⟨hx, hb, hml, hown, hts⟩ (t_getN l D dA E (tt 3) (tt 4) 84 tp i6 H.size  (by omega) (by decide)) (cwV 1 hts (ga_V q213 q203 q200 q204 q201) rfl rfl rfl (by decide +kernel) ⟨(Nat.le_of_ble_eq_true rfl), (Nat.le_of_ble_eq_true rfl)⟩) ⟨pb_blind, va_recv hK hPc (ci := 5) (q0 := 0) rfl rfl, pb_pre hK hPc hDc hZ hS hFc _⟩ rfl rfl hl.1 rfl (lv_room (Nat.le_of_ble_eq_true rfl)) dX6_firstIndexAt_34 ⟨(Nat.le_of_ble_eq_true rfl), (Nat.le_of_ble_eq_true rfl)⟩) hS (fun q _ h => hFc q h) hFc (fun r u t H1 locs ht hvm hw hB hz1 hk1 hS => ?_)
          refine W.widen (k := 0) (n := 0) (Nat.le_of_ble_eq_true rfl) (Nat.le_of_ble_eq_true rfl) ?_
          obtain ⟨r7, rfl⟩ : ∃ z, z = r := ⟨_, rfl⟩
          obtain ⟨u8, rfl⟩ : ∃ z, z = u := ⟨_, rfl⟩
          have hw9 := hw
          clear hw
          obtain ⟨hP1, hD1⟩ := hB
          rw [ht] at hP1
          obtain ⟨hP, hD⟩ := va_join (wr := [(tt 0, .inr (9, [.ref (tt 1), .ref (tt 3), .ref (tt 5), .int (nI nm)])), (tt 5, .inr (5, [.ref (tt 6)])), (tt 6, .inl (dA 0, 84, .inl tx)), (tt 1, .inr (5, [.ref (tt 2)])), (tt 2, .inl (dA 0, 84, .inl tw))]) (w1 := [(tt 3, .inr (5, [.ref (tt 4)])), (tt 4, .inl (dA 0, 84, .inl tp))]) hP hD [1, 2] [0, 3, 4, 5, 6] rfl rfl (by decide) (by decide) hk1 hFc hP1 hD1
          generalize H1 = H at hP hS ⊢
          replace hP : va_P D vwCl [(tt 0, .inr (9, [.ref (tt 1), .ref (tt 3), .ref (tt 5), .int (nI nm)])), (tt 5, .inr (5, [.ref (tt 6)])), (tt 6, .inl (dA 0, 84, .inl tx)), (tt 1, .inr (5, [.ref (tt 2)])), (tt 2, .inl (dA 0, 84, .inl tw)), (tt 3, .inr (5, [.ref (tt 4)])), (tt 4, .inl (dA 0, 84, .inl tp))] H := hP
          replace hD : va_D A [(tt 0, .inr (9, [.ref (tt 1), .ref (tt 3), .ref (tt 5), .int (nI nm)])), (tt 5, .inr (5, [.ref (tt 6)])), (tt 6, .inl (dA 0, 84, .inl tx)), (tt 1, .inr (5, [.ref (tt 2)])), (tt 2, .inl (dA 0, 84, .inl tw)), (tt 3, .inr (5, [.ref (tt 4)])), (tt 4, .inl (dA 0, 84, .inl tp))] := hD
          obtain rfl : r7 = tp i6 := hw9
          refine lv_iload_n hx hb dX6_firstIndexAt_37 rfl (lv_at hl 3 rfl) ?_
          refine lv_icmp_ne (tgt := 45) hx hb dX6_firstIndexAt_38 (by decide) (fun c10 => ?_) (fun c10 => ?_)
          · refine lv_iconst (v := 0) hx hb dX6_firstIndexAt_45 (by decide) ?_
            refine lv_istore (lv' := [(5, .int 0), (4, .int (nI i6)), (3, .int g6_0), (0, .ref (tt 0)), (1, .int p0), (2, .int p1)]) hx hb dX6_firstIndexAt_46 hl (by decide) rfl (fun ls hl => ?_)
            refine lv_iload hx hb dX6_firstIndexAt_48 (lv_at hl 0 rfl) ?_
            refine lv_if_eq (tgt := 76) hx hb dX6_firstIndexAt_50 (by decide) (fun _ => ?_) (fun c11 => absurd (by decide) c11)
            refine lv_iinc (v := nI (i6 + 1)) (lv' := [(4, .int (nI (i6 + 1))), (5, .int 0), (3, .int g6_0), (0, .ref (tt 0)), (1, .int p0), (2, .int p1)]) hx hb dX6_firstIndexAt_76 hl (k := 1) rfl (nI_add i6 1) (by decide) rfl (fun ls hl => ?_)
            refine lv_goto (tgt := 6) hx hb dX6_firstIndexAt_79 (by decide) ?_
            replace hP := hP.sub (ws' := [(tt 0, .inr (9, [.ref (tt 1), .ref (tt 3), .ref (tt 5), .int (nI nm)])), (tt 1, .inr (5, [.ref (tt 2)])), (tt 2, .inl (dA 0, 84, .inl tw)), (tt 3, .inr (5, [.ref (tt 4)])), (tt 4, .inl (dA 0, 84, .inl tp)), (tt 5, .inr (5, [.ref (tt 6)])), (tt 6, .inl (dA 0, 84, .inl tx))]) [0, 3, 4, 5, 6, 1, 2] rfl
            replace hD := hD.sub (ws' := [(tt 0, .inr (9, [.ref (tt 1), .ref (tt 3), .ref (tt 5), .int (nI nm)])), (tt 1, .inr (5, [.ref (tt 2)])), (tt 2, .inl (dA 0, 84, .inl tw)), (tt 3, .inr (5, [.ref (tt 4)])), (tt 4, .inl (dA 0, 84, .inl tp)), (tt 5, .inr (5, [.ref (tt 6)])), (tt 6, .inl (dA 0, 84, .inl tx))]) [0, 3, 4, 5, 6, 1, 2] (by decide) rfl
            exact ih6 (i6 + 1) g6_0 (by omega) (by omega) (by omega) trivial _ _ hP hD hS ls (lv_sub hl [0, 2, 3, 4, 5] rfl)
          · refine lv_iconst (v := 1) hx hb dX6_firstIndexAt_41 (by decide) ?_
            refine lv_goto (tgt := 46) hx hb dX6_firstIndexAt_42 (by decide) ?_
            refine lv_istore (lv' := [(5, .int 1), (4, .int (nI i6)), (3, .int g6_0), (0, .ref (tt 0)), (1, .int p0), (2, .int p1)]) hx hb dX6_firstIndexAt_46 hl (by decide) rfl (fun ls hl => ?_)
            refine lv_iload hx hb dX6_firstIndexAt_48 (lv_at hl 0 rfl) ?_
            refine lv_if_eq (tgt := 76) hx hb dX6_firstIndexAt_50 (by decide) (fun c12 => absurd c12 (by decide)) (fun _ => ?_)
            refine lv_aload_n hx hb dX6_firstIndexAt_53 rfl (lv_at hl 3 rfl) ?_
            refine va_get (D := D) (ci := 9) (v := .ref (tt 5)) (C := RX6) (T := TX6) (N := 4) hx hb hts inAX6 hown hK hP 0 rfl rfl 2 (by decide) (hts _ q212) (fun _ h9 => h9) rfl dX6_firstIndexAt_54 ?_
            refine lv_iload hx hb dX6_firstIndexAt_57 (lv_at hl 1 rfl) ?_
            replace hPc := hP.sub (ws' := [(tt 5, .inr (5, [.ref (tt 6)])), (tt 6, .inl (dA 0, 84, .inl tx))]) [1, 2] rfl
            replace hDc := hD.sub (ws' := [(tt 5, .inr (5, [.ref (tt 6)])), (tt 6, .inl (dA 0, 84, .inl tx))]) [1, 2] (by decide) rfl
            replace hFc := va_free (wc := [(tt 5, .inr (5, [.ref (tt 6)])), (tt 6, .inl (dA 0, 84, .inl tx))]) hD hS hA [1, 2] rfl
            refine va_calli (va_runV (As := [.int (nI i6)]) (rest := []) ⟨hx, hb, hml, hown, hts⟩ (t_getN l D dA E (tt 5) (tt 6) 84 tx i6 H.size  (by omega) (by decide)) (cwV 1 hts (ga_V q213 q203 q200 q204 q201) rfl rfl rfl (by decide +kernel) ⟨(Nat.le_of_ble_eq_true rfl), (Nat.le_of_ble_eq_true rfl)⟩) ⟨pb_blind, va_recv hK hPc (ci := 5) (q0 := 0) rfl rfl, pb_pre hK hPc hDc hZ hS hFc _⟩ rfl rfl hl.1 rfl (lv_room (Nat.le_of_ble_eq_true rfl)) dX6_firstIndexAt_59 ⟨(Nat.le_of_ble_eq_true rfl), (Nat.le_of_ble_eq_true rfl)⟩) hS (fun q _ h => hFc q h) hFc (fun r u t H1 locs ht hvm hw hB hz1 hk1 hS => ?_)
            refine W.widen (k := 0) (n := 0) (Nat.le_of_ble_eq_true rfl) (Nat.le_of_ble_eq_true rfl) ?_
            obtain ⟨r13, rfl⟩ : ∃ z, z = r := ⟨_, rfl⟩
            obtain ⟨u14, rfl⟩ : ∃ z, z = u := ⟨_, rfl⟩
            have hw15 := hw
            clear hw
            obtain ⟨hP1, hD1⟩ := hB
            rw [ht] at hP1
            obtain ⟨hP, hD⟩ := va_join (wr := [(tt 0, .inr (9, [.ref (tt 1), .ref (tt 3), .ref (tt 5), .int (nI nm)])), (tt 1, .inr (5, [.ref (tt 2)])), (tt 2, .inl (dA 0, 84, .inl tw)), (tt 3, .inr (5, [.ref (tt 4)])), (tt 4, .inl (dA 0, 84, .inl tp))]) (w1 := [(tt 5, .inr (5, [.ref (tt 6)])), (tt 6, .inl (dA 0, 84, .inl tx))]) hP hD [1, 2] [0, 3, 4, 5, 6] rfl rfl (by decide) (by decide) hk1 hFc hP1 hD1
            generalize H1 = H at hP hS ⊢
            replace hP : va_P D vwCl [(tt 0, .inr (9, [.ref (tt 1), .ref (tt 3), .ref (tt 5), .int (nI nm)])), (tt 1, .inr (5, [.ref (tt 2)])), (tt 2, .inl (dA 0, 84, .inl tw)), (tt 3, .inr (5, [.ref (tt 4)])), (tt 4, .inl (dA 0, 84, .inl tp)), (tt 5, .inr (5, [.ref (tt 6)])), (tt 6, .inl (dA 0, 84, .inl tx))] H := hP
            replace hD : va_D A [(tt 0, .inr (9, [.ref (tt 1), .ref (tt 3), .ref (tt 5), .int (nI nm)])), (tt 1, .inr (5, [.ref (tt 2)])), (tt 2, .inl (dA 0, 84, .inl tw)), (tt 3, .inr (5, [.ref (tt 4)])), (tt 4, .inl (dA 0, 84, .inl tp)), (tt 5, .inr (5, [.ref (tt 6)])), (tt 6, .inl (dA 0, 84, .inl tx))] := hD
            obtain rfl : r13 = tx i6 := hw15
            refine lv_iload_n hx hb dX6_firstIndexAt_62 rfl (lv_at hl 2 rfl) ?_
            refine lv_icmp_ge (tgt := 76) hx hb dX6_firstIndexAt_63 (by decide) (fun c16 => ?_) (fun c16 => ?_)
            · refine lv_iinc (v := nI (i6 + 1)) (lv' := [(4, .int (nI (i6 + 1))), (5, .int 1), (3, .int g6_0), (0, .ref (tt 0)), (1, .int p0), (2, .int p1)]) hx hb dX6_firstIndexAt_76 hl (k := 1) rfl (nI_add i6 1) (by decide) rfl (fun ls hl => ?_)
              refine lv_goto (tgt := 6) hx hb dX6_firstIndexAt_79 (by decide) ?_
              exact ih6 (i6 + 1) g6_0 (by omega) (by omega) (by omega) trivial _ _ hP hD hS ls (lv_sub hl [0, 2, 3, 4, 5] rfl)
            · refine lv_aload_n hx hb dX6_firstIndexAt_66 rfl (lv_at hl 3 rfl) ?_
              refine va_get (D := D) (ci := 9) (v := .ref (tt 5)) (C := RX6) (T := TX6) (N := 4) hx hb hts inAX6 hown hK hP 0 rfl rfl 2 (by decide) (hts _ q212) (fun _ h9 => h9) rfl dX6_firstIndexAt_67 ?_
              refine lv_iload hx hb dX6_firstIndexAt_70 (lv_at hl 1 rfl) ?_
              replace hPc := hP.sub (ws' := [(tt 5, .inr (5, [.ref (tt 6)])), (tt 6, .inl (dA 0, 84, .inl tx))]) [5, 6] rfl
              replace hDc := hD.sub (ws' := [(tt 5, .inr (5, [.ref (tt 6)])), (tt 6, .inl (dA 0, 84, .inl tx))]) [5, 6] (by decide) rfl
              replace hFc := va_free (wc := [(tt 5, .inr (5, [.ref (tt 6)])), (tt 6, .inl (dA 0, 84, .inl tx))]) hD hS hA [5, 6] rfl
              refine va_calli (va_runV (As := [.int (nI i6)]) (rest := []) ⟨hx, hb, hml, hown, hts⟩ (t_getN l D dA E (tt 5) (tt 6) 84 tx i6 H.size  (by omega) (by decide)) (cwV 1 hts (ga_V q213 q203 q200 q204 q201) rfl rfl rfl (by decide +kernel) ⟨(Nat.le_of_ble_eq_true rfl), (Nat.le_of_ble_eq_true rfl)⟩) ⟨pb_blind, va_recv hK hPc (ci := 5) (q0 := 0) rfl rfl, pb_pre hK hPc hDc hZ hS hFc _⟩ rfl rfl hl.1 rfl (lv_room (Nat.le_of_ble_eq_true rfl)) dX6_firstIndexAt_72 ⟨(Nat.le_of_ble_eq_true rfl), (Nat.le_of_ble_eq_true rfl)⟩) hS (fun q _ h => hFc q h) hFc (fun r u t H1 locs ht hvm hw hB hz1 hk1 hS => ?_)
              refine W.widen (k := 0) (n := 0) (Nat.le_of_ble_eq_true rfl) (Nat.le_of_ble_eq_true rfl) ?_
              obtain ⟨r17, rfl⟩ : ∃ z, z = r := ⟨_, rfl⟩
              obtain ⟨u18, rfl⟩ : ∃ z, z = u := ⟨_, rfl⟩
              have hw19 := hw
              clear hw
              obtain ⟨hP1, hD1⟩ := hB
              rw [ht] at hP1
              obtain ⟨hP, hD⟩ := va_join (wr := [(tt 0, .inr (9, [.ref (tt 1), .ref (tt 3), .ref (tt 5), .int (nI nm)])), (tt 1, .inr (5, [.ref (tt 2)])), (tt 2, .inl (dA 0, 84, .inl tw)), (tt 3, .inr (5, [.ref (tt 4)])), (tt 4, .inl (dA 0, 84, .inl tp))]) (w1 := [(tt 5, .inr (5, [.ref (tt 6)])), (tt 6, .inl (dA 0, 84, .inl tx))]) hP hD [5, 6] [0, 1, 2, 3, 4] rfl rfl (by decide) (by decide) hk1 hFc hP1 hD1
              generalize H1 = H at hP hS ⊢
              replace hP : va_P D vwCl [(tt 0, .inr (9, [.ref (tt 1), .ref (tt 3), .ref (tt 5), .int (nI nm)])), (tt 1, .inr (5, [.ref (tt 2)])), (tt 2, .inl (dA 0, 84, .inl tw)), (tt 3, .inr (5, [.ref (tt 4)])), (tt 4, .inl (dA 0, 84, .inl tp)), (tt 5, .inr (5, [.ref (tt 6)])), (tt 6, .inl (dA 0, 84, .inl tx))] H := hP
              replace hD : va_D A [(tt 0, .inr (9, [.ref (tt 1), .ref (tt 3), .ref (tt 5), .int (nI nm)])), (tt 1, .inr (5, [.ref (tt 2)])), (tt 2, .inl (dA 0, 84, .inl tw)), (tt 3, .inr (5, [.ref (tt 4)])), (tt 4, .inl (dA 0, 84, .inl tp)), (tt 5, .inr (5, [.ref (tt 6)])), (tt 6, .inl (dA 0, 84, .inl tx))] := hD
              obtain rfl : r17 = tx i6 := hw19
              refine lv_istore_n (lv' := [(3, .int (tx i6)), (5, .int 1), (4, .int (nI i6)), (0, .ref (tt 0)), (1, .int p0), (2, .int p1)]) hx hb dX6_firstIndexAt_75 rfl hl (by decide) rfl (fun ls hl => ?_)
              refine lv_iinc (v := nI (i6 + 1)) (lv' := [(4, .int (nI (i6 + 1))), (3, .int (tx i6)), (5, .int 1), (0, .ref (tt 0)), (1, .int p0), (2, .int p1)]) hx hb dX6_firstIndexAt_76 hl (k := 2) rfl (nI_add i6 1) (by decide) rfl (fun ls hl => ?_)
              refine lv_goto (tgt := 6) hx hb dX6_firstIndexAt_79 (by decide) ?_
              exact ih6 (i6 + 1) (tx i6) (by omega) (by omega) (by omega) trivial _ _ hP hD hS ls (lv_sub hl [0, 1, 3, 4, 5] rfl)
  exact K6 (nm + 1) 0 12 (by omega) (by omega) (by omega) trivial _ _ hP hD hS ls hl
