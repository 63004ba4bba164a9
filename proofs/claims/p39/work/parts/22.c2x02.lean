/-! CONTRACTS -/
set_option maxHeartbeats 4000000 in
set_option maxRecDepth 100000 in
theorem t_closeUp (l : Launch) (D : va_G) (dA : Nat → ClassId) (E : Nat) (tt : Nat → Nat) (tw tp tx : Nat → Int32) (nm : Nat) (p0 : Int32) (sz : Nat) (hnm : nm ≤ 84)  : Met l yX6_closeUp (wq (.code yX6_closeUp cX6_closeUp 4 none)) { frames := 2, cells := 0, slots := 0, locals := 45 } (va_Pc [.ref (tt 0), .int p0] (PcB D dA E [(tt 0, .inr (9, [.ref (tt 1), .ref (tt 3), .ref (tt 5), .int (nI nm)])), (tt 1, .inr (5, [.ref (tt 2)])), (tt 2, .inl (dA 0, 84, .inl tw)), (tt 3, .inr (5, [.ref (tt 4)])), (tt 4, .inl (dA 0, 84, .inl tp)), (tt 5, .inr (5, [.ref (tt 6)])), (tt 6, .inl (dA 0, 84, .inl tx))] sz)) (va_Qv (fun (u : Unit) => True) (fun u t => va_P D vwCl [(tt 0, .inr (9, [.ref (tt 1), .ref (tt 3), .ref (tt 5), .int (nI (kpt tw p0 nm))])), (tt 1, .inr (5, [.ref (tt 2)])), (tt 2, .inl (dA 0, 84, .inl (cmp tw p0 tw tw nm))), (tt 3, .inr (5, [.ref (tt 4)])), (tt 4, .inl (dA 0, 84, .inl (cmp tw p0 (fl (clF tw tp p0 nm) tp nm) (fl (clF tw tp p0 nm) tp nm) nm))), (tt 5, .inr (5, [.ref (tt 6)])), (tt 6, .inl (dA 0, 84, .inl (cmp tw p0 tx tx nm)))] t.heap ∧ va_D (va_A [(tt 0, .inr (9, [.ref (tt 1), .ref (tt 3), .ref (tt 5), .int (nI nm)])), (tt 1, .inr (5, [.ref (tt 2)])), (tt 2, .inl (dA 0, 84, .inl tw)), (tt 3, .inr (5, [.ref (tt 4)])), (tt 4, .inl (dA 0, 84, .inl tp)), (tt 5, .inr (5, [.ref (tt 6)])), (tt 6, .inl (dA 0, 84, .inl tx))] sz) [(tt 0, .inr (9, [.ref (tt 1), .ref (tt 3), .ref (tt 5), .int (nI (kpt tw p0 nm))])), (tt 1, .inr (5, [.ref (tt 2)])), (tt 2, .inl (dA 0, 84, .inl (cmp tw p0 tw tw nm))), (tt 3, .inr (5, [.ref (tt 4)])), (tt 4, .inl (dA 0, 84, .inl (cmp tw p0 (fl (clF tw tp p0 nm) tp nm) (fl (clF tw tp p0 nm) tp nm) nm))), (tt 5, .inr (5, [.ref (tt 6)])), (tt 6, .inl (dA 0, 84, .inl (cmp tw p0 tx tx nm)))]) (va_A [(tt 0, .inr (9, [.ref (tt 1), .ref (tt 3), .ref (tt 5), .int (nI nm)])), (tt 1, .inr (5, [.ref (tt 2)])), (tt 2, .inl (dA 0, 84, .inl tw)), (tt 3, .inr (5, [.ref (tt 4)])), (tt 4, .inl (dA 0, 84, .inl tp)), (tt 5, .inr (5, [.ref (tt 6)])), (tt 6, .inl (dA 0, 84, .inl tx))] sz)) 0 0 (va_A [(tt 0, .inr (9, [.ref (tt 1), .ref (tt 3), .ref (tt 5), .int (nI nm)])), (tt 1, .inr (5, [.ref (tt 2)])), (tt 2, .inl (dA 0, 84, .inl tw)), (tt 3, .inr (5, [.ref (tt 4)])), (tt 4, .inl (dA 0, 84, .inl tp)), (tt 5, .inr (5, [.ref (tt 6)])), (tt 6, .inl (dA 0, 84, .inl tx))] sz) := by
  refine mb_of (Qc := fun A => va_Qv (fun (u : Unit) => True) (fun u t => va_P D vwCl [(tt 0, .inr (9, [.ref (tt 1), .ref (tt 3), .ref (tt 5), .int (nI (kpt tw p0 nm))])), (tt 1, .inr (5, [.ref (tt 2)])), (tt 2, .inl (dA 0, 84, .inl (cmp tw p0 tw tw nm))), (tt 3, .inr (5, [.ref (tt 4)])), (tt 4, .inl (dA 0, 84, .inl (cmp tw p0 (fl (clF tw tp p0 nm) tp nm) (fl (clF tw tp p0 nm) tp nm) nm))), (tt 5, .inr (5, [.ref (tt 6)])), (tt 6, .inl (dA 0, 84, .inl (cmp tw p0 tx tx nm)))] t.heap ∧ va_D A [(tt 0, .inr (9, [.ref (tt 1), .ref (tt 3), .ref (tt 5), .int (nI (kpt tw p0 nm))])), (tt 1, .inr (5, [.ref (tt 2)])), (tt 2, .inl (dA 0, 84, .inl (cmp tw p0 tw tw nm))), (tt 3, .inr (5, [.ref (tt 4)])), (tt 4, .inl (dA 0, 84, .inl (cmp tw p0 (fl (clF tw tp p0 nm) tp nm) (fl (clF tw tp p0 nm) tp nm) nm))), (tt 5, .inr (5, [.ref (tt 6)])), (tt 6, .inl (dA 0, 84, .inl (cmp tw p0 tx tx nm)))]) A) RX6 rfl (by decide) (Nat.le_of_ble_eq_true rfl) ?_
  intro p e s m args below meth c hae hx hb hr hts hown hlocks hml hnm hP hK A hAe hD hZ hS hA ls hl
  replace hl : lv_has ls 4 [(0, .ref (tt 0)), (1, .int p0)] := hl
  refine lv_iconst (v := 0) hx hb dX6_closeUp_0 (by decide) ?_
  refine lv_istore_n (lv' := [(2, .int 0), (0, .ref (tt 0)), (1, .int p0)]) hx hb dX6_closeUp_1 rfl hl (by decide) rfl (fun ls hl => ?_)
  have K2 : ∀ (k2 i2 : Nat) (g2_0 : Nat → Int32), 0 ≤ i2 → i2 ≤ nm → nm < i2 + k2 → (g2_0 = fl (clF tw tp p0 nm) tp i2) → ∀ (H : Heap) (locs : List Loc), va_P D vwCl [(tt 0, .inr (9, [.ref (tt 1), .ref (tt 3), .ref (tt 5), .int (nI nm)])), (tt 1, .inr (5, [.ref (tt 2)])), (tt 2, .inl (dA 0, 84, .inl tw)), (tt 3, .inr (5, [.ref (tt 4)])), (tt 4, .inl (dA 0, 84, .inl g2_0)), (tt 5, .inr (5, [.ref (tt 6)])), (tt 6, .inl (dA 0, 84, .inl tx))] H → va_D A [(tt 0, .inr (9, [.ref (tt 1), .ref (tt 3), .ref (tt 5), .int (nI nm)])), (tt 1, .inr (5, [.ref (tt 2)])), (tt 2, .inl (dA 0, 84, .inl tw)), (tt 3, .inr (5, [.ref (tt 4)])), (tt 4, .inl (dA 0, 84, .inl g2_0)), (tt 5, .inr (5, [.ref (tt 6)])), (tt 6, .inl (dA 0, 84, .inl tx))] → va_S A s.heap H locs → ∀ ls : Array Slot, lv_has ls 4 [(2, .int (nI i2)), (0, .ref (tt 0)), (1, .int p0)] → W p l e { frames := 2, cells := 0, slots := 0, locals := 45 } s m args below meth c H locs 0 0 (MQ below (va_Qv (fun (u : Unit) => True) (fun u t => va_P D vwCl [(tt 0, .inr (9, [.ref (tt 1), .ref (tt 3), .ref (tt 5), .int (nI (kpt tw p0 nm))])), (tt 1, .inr (5, [.ref (tt 2)])), (tt 2, .inl (dA 0, 84, .inl (cmp tw p0 tw tw nm))), (tt 3, .inr (5, [.ref (tt 4)])), (tt 4, .inl (dA 0, 84, .inl (cmp tw p0 (fl (clF tw tp p0 nm) tp nm) (fl (clF tw tp p0 nm) tp nm) nm))), (tt 5, .inr (5, [.ref (tt 6)])), (tt 6, .inl (dA 0, 84, .inl (cmp tw p0 tx tx nm)))] t.heap ∧ va_D A [(tt 0, .inr (9, [.ref (tt 1), .ref (tt 3), .ref (tt 5), .int (nI (kpt tw p0 nm))])), (tt 1, .inr (5, [.ref (tt 2)])), (tt 2, .inl (dA 0, 84, .inl (cmp tw p0 tw tw nm))), (tt 3, .inr (5, [.ref (tt 4)])), (tt 4, .inl (dA 0, 84, .inl (cmp tw p0 (fl (clF tw tp p0 nm) tp nm) (fl (clF tw tp p0 nm) tp nm) nm))), (tt 5, .inr (5, [.ref (tt 6)])), (tt 6, .inl (dA 0, 84, .inl (cmp tw p0 tx tx nm)))]) A) args s 0 0 A) (F0 m 2 ls []) := by
    intro k2
    induction k2 with
    | zero => intro i2 g2_0 h1 h2 h3; exact absurd h3 (by omega)
    | succ k2 ih2 =>
      intro i2 g2_0 hlo2 hhi2 hms2 hinv2 H locs hP hD hS ls hl
      have eg2_0 := hinv2
      subst eg2_0
      refine lv_iload_n hx hb dX6_closeUp_2 rfl (lv_at hl 0 rfl) ?_
      refine lv_aload_n hx hb dX6_closeUp_3 rfl (lv_at hl 1 rfl) ?_
      refine va_get (D := D) (ci := 9) (v := .int (nI nm)) (C := RX6) (T := TX6) (N := 4) hx hb hts inAX6 hown hK hP 0 rfl rfl 3 (by decide) (hts _ q205) (fun _ h9 => h9) rfl dX6_closeUp_4 ?_
      refine lv_icmp_ge (tgt := 53) hx hb dX6_closeUp_7 (by decide) (fun c1 => ?_) (fun c1 => ?_)
      · replace c1 := (nI_leI (a := nm) (b := i2) (by omega) (by omega)).mp c1
        obtain rfl : nm = i2 := (by omega)
        replace hP : va_P D vwCl [(tt 0, .inr (9, [.ref (tt 1), .ref (tt 3), .ref (tt 5), .int (nI nm)])), (tt 1, .inr (5, [.ref (tt 2)])), (tt 2, .inl (dA 0, 84, .inl tw)), (tt 3, .inr (5, [.ref (tt 4)])), (tt 4, .inl (dA 0, 84, .inl (fl (clF tw tp p0 nm) tp nm))), (tt 5, .inr (5, [.ref (tt 6)])), (tt 6, .inl (dA 0, 84, .inl tx))] H := hP
        replace hD : va_D A [(tt 0, .inr (9, [.ref (tt 1), .ref (tt 3), .ref (tt 5), .int (nI nm)])), (tt 1, .inr (5, [.ref (tt 2)])), (tt 2, .inl (dA 0, 84, .inl tw)), (tt 3, .inr (5, [.ref (tt 4)])), (tt 4, .inl (dA 0, 84, .inl (fl (clF tw tp p0 nm) tp nm))), (tt 5, .inr (5, [.ref (tt 6)])), (tt 6, .inl (dA 0, 84, .inl tx))] := hD
        refine lv_aload_n hx hb dX6_closeUp_53 rfl (lv_at hl 1 rfl) ?_
        refine lv_iload_n hx hb dX6_closeUp_54 rfl (lv_at hl 2 rfl) ?_
        replace hPc := hP.sub (ws' := [(tt 0, .inr (9, [.ref (tt 1), .ref (tt 3), .ref (tt 5), .int (nI nm)])), (tt 1, .inr (5, [.ref (tt 2)])), (tt 2, .inl (dA 0, 84, .inl tw)), (tt 3, .inr (5, [.ref (tt 4)])), (tt 4, .inl (dA 0, 84, .inl (fl (clF tw tp p0 nm) tp nm))), (tt 5, .inr (5, [.ref (tt 6)])), (tt 6, .inl (dA 0, 84, .inl tx))]) [0, 1, 2, 3, 4, 5, 6] rfl
        replace hDc := hD.sub (ws' := [(tt 0, .inr (9, [.ref (tt 1), .ref (tt 3), .ref (tt 5), .int (nI nm)])), (tt 1, .inr (5, [.ref (tt 2)])), (tt 2, .inl (dA 0, 84, .inl tw)), (tt 3, .inr (5, [.ref (tt 4)])), (tt 4, .inl (dA 0, 84, .inl (fl (clF tw tp p0 nm) tp nm))), (tt 5, .inr (5, [.ref (tt 6)])), (tt 6, .inl (dA 0, 84, .inl tx))]) [0, 1, 2, 3, 4, 5, 6] (by decide) rfl
        replace hFc := va_free (wc := [(tt 0, .inr (9, [.ref (tt 1), .ref (tt 3), .ref (tt 5), .int (nI nm)])), (tt 1, .inr (5, [.ref (tt 2)])), (tt 2, .inl (dA 0, 84, .inl tw)), (tt 3, .inr (5, [.ref (tt 4)])), (tt 4, .inl (dA 0, 84, .inl (fl (clF tw tp p0 nm) tp nm))), (tt 5, .inr (5, [.ref (tt 6)])), (tt 6, .inl (dA 0, 84, .inl tx))]) hD hS hA [0, 1, 2, 3, 4, 5, 6] rfl
        refine va_callv (va_runV (As := [.int p0]) (rest := []) ⟨hx, hb, hml, hown, hts⟩ (t_takeOut l D dA E tt tw (fl (clF tw tp p0 nm) tp nm) tx nm p0 H.size  (by omega)) (cwV 1 hts (ga_V q216 q217 q214 q218 q215) rfl rfl rfl (by decide +kernel) ⟨(Nat.le_of_ble_eq_true rfl), (Nat.le_of_ble_eq_true rfl)⟩) ⟨pb_blind, va_recv hK hPc (ci := 9) (q0 := 0) rfl rfl, pb_pre hK hPc hDc hZ hS hFc _⟩ rfl rfl hl.1 rfl (lv_room (Nat.le_of_ble_eq_true rfl)) dX6_closeUp_55 ⟨(Nat.le_of_ble_eq_true rfl), (Nat.le_of_ble_eq_true rfl)⟩) hS (fun q _ h => hFc q h) hFc (fun u t H1 locs ht hvm hw hB hz1 hk1 hS => ?_)
        refine W.widen (k := 0) (n := 0) (Nat.le_of_ble_eq_true rfl) (Nat.le_of_ble_eq_true rfl) ?_
        obtain ⟨u2, rfl⟩ : ∃ z, z = u := ⟨_, rfl⟩
        have hw3 := hw
        clear hw
        obtain ⟨hP1, hD1⟩ := hB
        rw [ht] at hP1
        obtain ⟨hP, hD⟩ := va_join (wr := []) (w1 := [(tt 0, .inr (9, [.ref (tt 1), .ref (tt 3), .ref (tt 5), .int (nI (kpt tw p0 nm))])), (tt 1, .inr (5, [.ref (tt 2)])), (tt 2, .inl (dA 0, 84, .inl (cmp tw p0 tw tw nm))), (tt 3, .inr (5, [.ref (tt 4)])), (tt 4, .inl (dA 0, 84, .inl (cmp tw p0 (fl (clF tw tp p0 nm) tp nm) (fl (clF tw tp p0 nm) tp nm) nm))), (tt 5, .inr (5, [.ref (tt 6)])), (tt 6, .inl (dA 0, 84, .inl (cmp tw p0 tx tx nm)))]) hP hD [0, 1, 2, 3, 4, 5, 6] [] rfl rfl (by decide) (by decide) hk1 hFc hP1 hD1
        generalize H1 = H at hP hS ⊢
        replace hP : va_P D vwCl [(tt 0, .inr (9, [.ref (tt 1), .ref (tt 3), .ref (tt 5), .int (nI (kpt tw p0 nm))])), (tt 1, .inr (5, [.ref (tt 2)])), (tt 2, .inl (dA 0, 84, .inl (cmp tw p0 tw tw nm))), (tt 3, .inr (5, [.ref (tt 4)])), (tt 4, .inl (dA 0, 84, .inl (cmp tw p0 (fl (clF tw tp p0 nm) tp nm) (fl (clF tw tp p0 nm) tp nm) nm))), (tt 5, .inr (5, [.ref (tt 6)])), (tt 6, .inl (dA 0, 84, .inl (cmp tw p0 tx tx nm)))] H := hP
        replace hD : va_D A [(tt 0, .inr (9, [.ref (tt 1), .ref (tt 3), .ref (tt 5), .int (nI (kpt tw p0 nm))])), (tt 1, .inr (5, [.ref (tt 2)])), (tt 2, .inl (dA 0, 84, .inl (cmp tw p0 tw tw nm))), (tt 3, .inr (5, [.ref (tt 4)])), (tt 4, .inl (dA 0, 84, .inl (cmp tw p0 (fl (clF tw tp p0 nm) tp nm) (fl (clF tw tp p0 nm) tp nm) nm))), (tt 5, .inr (5, [.ref (tt 6)])), (tt 6, .inl (dA 0, 84, .inl (cmp tw p0 tx tx nm)))] := hD
        refine W.widen (k := 0) (n := 0) (Nat.le_of_ble_eq_true rfl) (Nat.le_of_ble_eq_true rfl) ?_
        have hP9 := hP.sub (ws' := [(tt 0, .inr (9, [.ref (tt 1), .ref (tt 3), .ref (tt 5), .int (nI (kpt tw p0 nm))])), (tt 1, .inr (5, [.ref (tt 2)])), (tt 2, .inl (dA 0, 84, .inl (cmp tw p0 tw tw nm))), (tt 3, .inr (5, [.ref (tt 4)])), (tt 4, .inl (dA 0, 84, .inl (cmp tw p0 (fl (clF tw tp p0 nm) tp nm) (fl (clF tw tp p0 nm) tp nm) nm))), (tt 5, .inr (5, [.ref (tt 6)])), (tt 6, .inl (dA 0, 84, .inl (cmp tw p0 tx tx nm)))]) [0, 1, 2, 3, 4, 5, 6] rfl
        have hD9 := hD.sub (ws' := [(tt 0, .inr (9, [.ref (tt 1), .ref (tt 3), .ref (tt 5), .int (nI (kpt tw p0 nm))])), (tt 1, .inr (5, [.ref (tt 2)])), (tt 2, .inl (dA 0, 84, .inl (cmp tw p0 tw tw nm))), (tt 3, .inr (5, [.ref (tt 4)])), (tt 4, .inl (dA 0, 84, .inl (cmp tw p0 (fl (clF tw tp p0 nm) tp nm) (fl (clF tw tp p0 nm) tp nm) nm))), (tt 5, .inr (5, [.ref (tt 6)])), (tt 6, .inl (dA 0, 84, .inl (cmp tw p0 tx tx nm)))]) [0, 1, 2, 3, 4, 5, 6] (by decide) rfl
        exact W.vret hx hb hr (fun t ht hW => ⟨⟨(), rfl, trivial, ⟨by rw [ht]; exact hP9, hD9⟩⟩, hS.F ht⟩) hS.2.2 dX6_closeUp_58
      · replace c1 := mt (nI_leI (a := nm) (b := i2) (by omega) (by omega)).mpr c1
        refine lv_aload_n hx hb dX6_closeUp_10 rfl (lv_at hl 1 rfl) ?_
        refine va_get (D := D) (ci := 9) (v := .ref (tt 3)) (C := RX6) (T := TX6) (N := 4) hx hb hts inAX6 hown hK hP 0 rfl rfl 1 (by decide) (hts _ q211) (fun _ h9 => h9) rfl dX6_closeUp_11 ?_
        refine lv_iload_n hx hb dX6_closeUp_14 rfl (lv_at hl 0 rfl) ?_
        replace hPc := hP.sub (ws' := [(tt 3, .inr (5, [.ref (tt 4)])), (tt 4, .inl (dA 0, 84, .inl (fl (clF tw tp p0 nm) tp i2)))]) [3, 4] rfl
        replace hDc := hD.sub (ws' := [(tt 3, .inr (5, [.ref (tt 4)])), (tt 4, .inl (dA 0, 84, .inl (fl (clF tw tp p0 nm) tp i2)))]) [3, 4] (by decide) rfl
        replace hFc := va_free (wc := [(tt 3, .inr (5, [.ref (tt 4)])), (tt 4, .inl (dA 0, 84, .inl (fl (clF tw tp p0 nm) tp i2)))]) hD hS hA [3, 4] rfl
        refine va_calli (va_runV (As := [.int (nI i2)]) (rest := []) ⟨hx, hb, hml, hown, hts⟩ (t_getN l D dA E (tt 3) (tt 4) 84 (fl (clF tw tp p0 nm) tp i2) i2 H.size  (by omega) (by decide)) (cwV 1 hts (ga_V q213 q203 q200 q204 q201) rfl rfl rfl (by decide +kernel) ⟨(Nat.le_of_ble_eq_true rfl), (Nat.le_of_ble_eq_true rfl)⟩) ⟨pb_blind, va_recv hK hPc (ci := 5) (q0 := 0) rfl rfl, pb_pre hK hPc hDc hZ hS hFc _⟩ rfl rfl hl.1 rfl (lv_room (Nat.le_of_ble_eq_true rfl)) dX6_closeUp_15 ⟨(Nat.le_of_ble_eq_true rfl), (Nat.le_of_ble_eq_true rfl)⟩) hS (fun q _ h => hFc q h) hFc (fun r u t H1 locs ht hvm hw hB hz1 hk1 hS => ?_)
        refine W.widen (k := 0) (n := 0) (Nat.le_of_ble_eq_true rfl) (Nat.le_of_ble_eq_true rfl) ?_
        obtain ⟨r4, rfl⟩ : ∃ z, z = r := ⟨_, rfl⟩
        obtain ⟨u5, rfl⟩ : ∃ z, z = u := ⟨_, rfl⟩
        have hw6 := hw
        clear hw
        obtain ⟨hP1, hD1⟩ := hB
        rw [ht] at hP1
        obtain ⟨hP, hD⟩ := va_join (wr := [(tt 0, .inr (9, [.ref (tt 1), .ref (tt 3), .ref (tt 5), .int (nI nm)])), (tt 1, .inr (5, [.ref (tt 2)])), (tt 2, .inl (dA 0, 84, .inl tw)), (tt 5, .inr (5, [.ref (tt 6)])), (tt 6, .inl (dA 0, 84, .inl tx))]) (w1 := [(tt 3, .inr (5, [.ref (tt 4)])), (tt 4, .inl (dA 0, 84, .inl (fl (clF tw tp p0 nm) tp i2)))]) hP hD [3, 4] [0, 1, 2, 5, 6] rfl rfl (by decide) (by decide) hk1 hFc hP1 hD1
        generalize H1 = H at hP hS ⊢
        replace hP : va_P D vwCl [(tt 0, .inr (9, [.ref (tt 1), .ref (tt 3), .ref (tt 5), .int (nI nm)])), (tt 1, .inr (5, [.ref (tt 2)])), (tt 2, .inl (dA 0, 84, .inl tw)), (tt 5, .inr (5, [.ref (tt 6)])), (tt 6, .inl (dA 0, 84, .inl tx)), (tt 3, .inr (5, [.ref (tt 4)])), (tt 4, .inl (dA 0, 84, .inl (fl (clF tw tp p0 nm) tp i2)))] H := hP
        replace hD : va_D A [(tt 0, .inr (9, [.ref (tt 1), .ref (tt 3), .ref (tt 5), .int (nI nm)])), (tt 1, .inr (5, [.ref (tt 2)])), (tt 2, .inl (dA 0, 84, .inl tw)), (tt 5, .inr (5, [.ref (tt 6)])), (tt 6, .inl (dA 0, 84, .inl tx)), (tt 3, .inr (5, [.ref (tt 4)])), (tt 4, .inl (dA 0, 84, .inl (fl (clF tw tp p0 nm) tp i2)))] := hD
        obtain rfl : r4 = tp i2 := (show r4 = (fl (clF tw tp p0 nm) tp i2) i2 from hw6).trans (fl_out (Nat.le_refl _))
        refine lv_istore_n (lv' := [(3, .int (tp i2)), (2, .int (nI i2)), (0, .ref (tt 0)), (1, .int p0)]) hx hb dX6_closeUp_18 rfl hl (by decide) rfl (fun ls hl => ?_)
        refine lv_aload_n hx hb dX6_closeUp_19 rfl (lv_at hl 2 rfl) ?_
        refine va_get (D := D) (ci := 9) (v := .ref (tt 1)) (C := RX6) (T := TX6) (N := 4) hx hb hts inAX6 hown hK hP 0 rfl rfl 0 (by decide) (hts _ q206) (fun _ h9 => h9) rfl dX6_closeUp_20 ?_
        refine lv_iload_n hx hb dX6_closeUp_23 rfl (lv_at hl 1 rfl) ?_
        replace hPc := hP.sub (ws' := [(tt 1, .inr (5, [.ref (tt 2)])), (tt 2, .inl (dA 0, 84, .inl tw))]) [1, 2] rfl
        replace hDc := hD.sub (ws' := [(tt 1, .inr (5, [.ref (tt 2)])), (tt 2, .inl (dA 0, 84, .inl tw))]) [1, 2] (by decide) rfl
        replace hFc := va_free (wc := [(tt 1, .inr (5, [.ref (tt 2)])), (tt 2, .inl (dA 0, 84, .inl tw))]) hD hS hA [1, 2] rfl
        refine va_calli (va_runV (As := [.int (nI i2)]) (rest := []) ⟨hx, hb, hml, hown, hts⟩ (t_getN l D dA E (tt 1) (tt 2) 84 tw i2 H.size  (by omega) (by decide)) (cwV 1 hts (ga_V q213 q203 q200 q204 q201) rfl rfl rfl (by decide +kernel) ⟨(Nat.le_of_ble_eq_true rfl), (Nat.le_of_ble_eq_true rfl)⟩) ⟨pb_blind, va_recv hK hPc (ci := 5) (q0 := 0) rfl rfl, pb_pre hK hPc hDc hZ hS hFc _⟩ rfl rfl hl.1 rfl (lv_room (Nat.le_of_ble_eq_true rfl)) dX6_closeUp_24 ⟨(Nat.le_of_ble_eq_true rfl), (Nat.le_of_ble_eq_true rfl)⟩) hS (fun q _ h => hFc q h) hFc (fun r u t H1 locs ht hvm hw hB hz1 hk1 hS => ?_)
        refine W.widen (k := 0) (n := 0) (Nat.le_of_ble_eq_true rfl) (Nat.le_of_ble_eq_true rfl) ?_
        obtain ⟨r7, rfl⟩ : ∃ z, z = r := ⟨_, rfl⟩
        obtain ⟨u8, rfl⟩ : ∃ z, z = u := ⟨_, rfl⟩
        have hw9 := hw
        clear hw
        obtain ⟨hP1, hD1⟩ := hB
        rw [ht] at hP1
        obtain ⟨hP, hD⟩ := va_join (wr := [(tt 0, .inr (9, [.ref (tt 1), .ref (tt 3), .ref (tt 5), .int (nI nm)])), (tt 5, .inr (5, [.ref (tt 6)])), (tt 6, .inl (dA 0, 84, .inl tx)), (tt 3, .inr (5, [.ref (tt 4)])), (tt 4, .inl (dA 0, 84, .inl (fl (clF tw tp p0 nm) tp i2)))]) (w1 := [(tt 1, .inr (5, [.ref (tt 2)])), (tt 2, .inl (dA 0, 84, .inl tw))]) hP hD [1, 2] [0, 3, 4, 5, 6] rfl rfl (by decide) (by decide) hk1 hFc hP1 hD1
        generalize H1 = H at hP hS ⊢
        replace hP : va_P D vwCl [(tt 0, .inr (9, [.ref (tt 1), .ref (tt 3), .ref (tt 5), .int (nI nm)])), (tt 5, .inr (5, [.ref (tt 6)])), (tt 6, .inl (dA 0, 84, .inl tx)), (tt 3, .inr (5, [.ref (tt 4)])), (tt 4, .inl (dA 0, 84, .inl (fl (clF tw tp p0 nm) tp i2))), (tt 1, .inr (5, [.ref (tt 2)])), (tt 2, .inl (dA 0, 84, .inl tw))] H := hP
        replace hD : va_D A [(tt 0, .inr (9, [.ref (tt 1), .ref (tt 3), .ref (tt 5), .int (nI nm)])), (tt 5, .inr (5, [.ref (tt 6)])), (tt 6, .inl (dA 0, 84, .inl tx)), (tt 3, .inr (5, [.ref (tt 4)])), (tt 4, .inl (dA 0, 84, .inl (fl (clF tw tp p0 nm) tp i2))), (tt 1, .inr (5, [.ref (tt 2)])), (tt 2, .inl (dA 0, 84, .inl tw))] := hD
        obtain rfl : r7 = tw i2 := hw9
        refine lv_iload_n hx hb dX6_closeUp_27 rfl (lv_at hl 3 rfl) ?_
        refine lv_icmp_eq (tgt := 47) hx hb dX6_closeUp_28 (by decide) (fun c10 => ?_) (fun c10 => ?_)
        · refine lv_iinc (v := nI (i2 + 1)) (lv' := [(2, .int (nI (i2 + 1))), (3, .int (tp i2)), (0, .ref (tt 0)), (1, .int p0)]) hx hb dX6_closeUp_47 hl (k := 1) rfl (nI_add i2 1) (by decide) rfl (fun ls hl => ?_)
          refine lv_goto (tgt := 2) hx hb dX6_closeUp_50 (by decide) ?_
          replace hP := hP.sub (ws' := [(tt 0, .inr (9, [.ref (tt 1), .ref (tt 3), .ref (tt 5), .int (nI nm)])), (tt 1, .inr (5, [.ref (tt 2)])), (tt 2, .inl (dA 0, 84, .inl tw)), (tt 3, .inr (5, [.ref (tt 4)])), (tt 4, .inl (dA 0, 84, .inl (fl (clF tw tp p0 nm) tp i2))), (tt 5, .inr (5, [.ref (tt 6)])), (tt 6, .inl (dA 0, 84, .inl tx))]) [0, 5, 6, 3, 4, 1, 2] rfl
          replace hD := hD.sub (ws' := [(tt 0, .inr (9, [.ref (tt 1), .ref (tt 3), .ref (tt 5), .int (nI nm)])), (tt 1, .inr (5, [.ref (tt 2)])), (tt 2, .inl (dA 0, 84, .inl tw)), (tt 3, .inr (5, [.ref (tt 4)])), (tt 4, .inl (dA 0, 84, .inl (fl (clF tw tp p0 nm) tp i2))), (tt 5, .inr (5, [.ref (tt 6)])), (tt 6, .inl (dA 0, 84, .inl tx))]) [0, 5, 6, 3, 4, 1, 2] (by decide) rfl
          exact ih2 (i2 + 1) (fl (clF tw tp p0 nm) tp i2) (by omega) (by omega) (by omega) (fl_keep (cl_n c10)) _ _ hP hD hS ls (lv_sub hl [0, 2, 3] rfl)
        · refine lv_aload_n hx hb dX6_closeUp_31 rfl (lv_at hl 2 rfl) ?_
          refine va_get (D := D) (ci := 9) (v := .ref (tt 3)) (C := RX6) (T := TX6) (N := 4) hx hb hts inAX6 hown hK hP 0 rfl rfl 1 (by decide) (hts _ q211) (fun _ h9 => h9) rfl dX6_closeUp_32 ?_
          refine lv_iload_n hx hb dX6_closeUp_35 rfl (lv_at hl 1 rfl) ?_
          refine lv_iload_n hx hb dX6_closeUp_36 rfl (lv_at hl 0 rfl) ?_
          refine lv_aload_n hx hb dX6_closeUp_37 rfl (lv_at hl 2 rfl) ?_
          refine lv_iload_n hx hb dX6_closeUp_38 rfl (lv_at hl 0 rfl) ?_
          refine lv_iload_n hx hb dX6_closeUp_39 rfl (lv_at hl 3 rfl) ?_
          replace hPc := hP.sub (ws' := [(tt 0, .inr (9, [.ref (tt 1), .ref (tt 3), .ref (tt 5), .int (nI nm)])), (tt 1, .inr (5, [.ref (tt 2)])), (tt 2, .inl (dA 0, 84, .inl tw)), (tt 3, .inr (5, [.ref (tt 4)])), (tt 4, .inl (dA 0, 84, .inl (fl (clF tw tp p0 nm) tp i2))), (tt 5, .inr (5, [.ref (tt 6)])), (tt 6, .inl (dA 0, 84, .inl tx))]) [0, 5, 6, 3, 4, 1, 2] rfl
          replace hDc := hD.sub (ws' := [(tt 0, .inr (9, [.ref (tt 1), .ref (tt 3), .ref (tt 5), .int (nI nm)])), (tt 1, .inr (5, [.ref (tt 2)])), (tt 2, .inl (dA 0, 84, .inl tw)), (tt 3, .inr (5, [.ref (tt 4)])), (tt 4, .inl (dA 0, 84, .inl (fl (clF tw tp p0 nm) tp i2))), (tt 5, .inr (5, [.ref (tt 6)])), (tt 6, .inl (dA 0, 84, .inl tx))]) [0, 5, 6, 3, 4, 1, 2] (by decide) rfl
          replace hFc := va_free (wc := [(tt 0, .inr (9, [.ref (tt 1), .ref (tt 3), .ref (tt 5), .int (nI nm)])), (tt 1, .inr (5, [.ref (tt 2)])), (tt 2, .inl (dA 0, 84, .inl tw)), (tt 3, .inr (5, [.ref (tt 4)])), (tt 4, .inl (dA 0, 84, .inl (fl (clF tw tp p0 nm) tp i2))), (tt 5, .inr (5, [.ref (tt 6)])), (tt 6, .inl (dA 0, 84, .inl tx))]) hD hS hA [0, 5, 6, 3, 4, 1, 2] rfl
          refine va_calli (va_runV (As := [.int (tp i2), .int p0]) (rest := [.int (tp i2), .int (nI i2), .ref (tt 3)]) ⟨hx, hb, hml, hown, hts⟩ (t_timesAhead l D dA E tt tw (fl (clF tw tp p0 nm) tp i2) tx nm (tp i2) p0 H.size  (by omega)) (cwV 2 hts (ga_V q221 q222 q219 q218 q220) rfl rfl rfl (by decide +kernel) ⟨(Nat.le_of_ble_eq_true rfl), (Nat.le_of_ble_eq_true rfl)⟩) ⟨pb_blind, va_recv hK hPc (ci := 9) (q0 := 0) rfl rfl, pb_pre hK hPc hDc hZ hS hFc _⟩ rfl rfl hl.1 rfl (lv_room (Nat.le_of_ble_eq_true rfl)) dX6_closeUp_40 ⟨(Nat.le_of_ble_eq_true rfl), (Nat.le_of_ble_eq_true rfl)⟩) hS (fun q _ h => hFc q h) hFc (fun r u t H1 locs ht hvm hw hB hz1 hk1 hS => ?_)
          refine W.widen (k := 0) (n := 0) (Nat.le_of_ble_eq_true rfl) (Nat.le_of_ble_eq_true rfl) ?_
          obtain ⟨r11, rfl⟩ : ∃ z, z = r := ⟨_, rfl⟩
          obtain ⟨u12, rfl⟩ : ∃ z, z = u := ⟨_, rfl⟩
          have hw13 := hw
          clear hw
          obtain ⟨hP1, hD1⟩ := hB
          rw [ht] at hP1
          obtain ⟨hP, hD⟩ := va_join (wr := []) (w1 := [(tt 0, .inr (9, [.ref (tt 1), .ref (tt 3), .ref (tt 5), .int (nI nm)])), (tt 1, .inr (5, [.ref (tt 2)])), (tt 2, .inl (dA 0, 84, .inl tw)), (tt 3, .inr (5, [.ref (tt 4)])), (tt 4, .inl (dA 0, 84, .inl (fl (clF tw tp p0 nm) tp i2))), (tt 5, .inr (5, [.ref (tt 6)])), (tt 6, .inl (dA 0, 84, .inl tx))]) hP hD [0, 5, 6, 3, 4, 1, 2] [] rfl rfl (by decide) (by decide) hk1 hFc hP1 hD1
          generalize H1 = H at hP hS ⊢
          replace hP : va_P D vwCl [(tt 0, .inr (9, [.ref (tt 1), .ref (tt 3), .ref (tt 5), .int (nI nm)])), (tt 1, .inr (5, [.ref (tt 2)])), (tt 2, .inl (dA 0, 84, .inl tw)), (tt 3, .inr (5, [.ref (tt 4)])), (tt 4, .inl (dA 0, 84, .inl (fl (clF tw tp p0 nm) tp i2))), (tt 5, .inr (5, [.ref (tt 6)])), (tt 6, .inl (dA 0, 84, .inl tx))] H := hP
          replace hD : va_D A [(tt 0, .inr (9, [.ref (tt 1), .ref (tt 3), .ref (tt 5), .int (nI nm)])), (tt 1, .inr (5, [.ref (tt 2)])), (tt 2, .inl (dA 0, 84, .inl tw)), (tt 3, .inr (5, [.ref (tt 4)])), (tt 4, .inl (dA 0, 84, .inl (fl (clF tw tp p0 nm) tp i2))), (tt 5, .inr (5, [.ref (tt 6)])), (tt 6, .inl (dA 0, 84, .inl tx))] := hD
          obtain rfl : r11 = nI (cntA tw (fl (clF tw tp p0 nm) tp i2) p0 (tp i2) nm) := hw13
          refine lv_isub hx hb dX6_closeUp_43 ?_
          replace hPc := hP.sub (ws' := [(tt 3, .inr (5, [.ref (tt 4)])), (tt 4, .inl (dA 0, 84, .inl (fl (clF tw tp p0 nm) tp i2)))]) [3, 4] rfl
          replace hDc := hD.sub (ws' := [(tt 3, .inr (5, [.ref (tt 4)])), (tt 4, .inl (dA 0, 84, .inl (fl (clF tw tp p0 nm) tp i2)))]) [3, 4] (by decide) rfl
          replace hFc := va_free (wc := [(tt 3, .inr (5, [.ref (tt 4)])), (tt 4, .inl (dA 0, 84, .inl (fl (clF tw tp p0 nm) tp i2)))]) hD hS hA [3, 4] rfl
          refine va_callv (va_runV (As := [.int (nI i2), .int ((tp i2) - (nI (cntA tw (fl (clF tw tp p0 nm) tp i2) p0 (tp i2) nm)))]) (rest := []) ⟨hx, hb, hml, hown, hts⟩ (t_putN l D dA E (tt 3) (tt 4) 84 (fl (clF tw tp p0 nm) tp i2) i2 ((tp i2) - (nI (cntA tw (fl (clF tw tp p0 nm) tp i2) p0 (tp i2) nm))) H.size  (by omega) (by decide)) (cwV 2 hts (ga_V q209 q210 q207 q204 q208) rfl rfl rfl (by decide +kernel) ⟨(Nat.le_of_ble_eq_true rfl), (Nat.le_of_ble_eq_true rfl)⟩) ⟨pb_blind, va_recv hK hPc (ci := 5) (q0 := 0) rfl rfl, pb_pre hK hPc hDc hZ hS hFc _⟩ rfl rfl hl.1 rfl (lv_room (Nat.le_of_ble_eq_true rfl)) dX6_closeUp_44 ⟨(Nat.le_of_ble_eq_true rfl), (Nat.le_of_ble_eq_true rfl)⟩) hS (fun q _ h => hFc q h) hFc (fun u t H1 locs ht hvm hw hB hz1 hk1 hS => ?_)
          refine W.widen (k := 0) (n := 0) (Nat.le_of_ble_eq_true rfl) (Nat.le_of_ble_eq_true rfl) ?_
          obtain ⟨u14, rfl⟩ : ∃ z, z = u := ⟨_, rfl⟩
          have hw15 := hw
          clear hw
          obtain ⟨hP1, hD1⟩ := hB
          rw [ht] at hP1
          obtain ⟨hP, hD⟩ := va_join (wr := [(tt 0, .inr (9, [.ref (tt 1), .ref (tt 3), .ref (tt 5), .int (nI nm)])), (tt 1, .inr (5, [.ref (tt 2)])), (tt 2, .inl (dA 0, 84, .inl tw)), (tt 5, .inr (5, [.ref (tt 6)])), (tt 6, .inl (dA 0, 84, .inl tx))]) (w1 := [(tt 3, .inr (5, [.ref (tt 4)])), (tt 4, .inl (dA 0, 84, .inl (upd (fl (clF tw tp p0 nm) tp i2) i2 ((tp i2) - (nI (cntA tw (fl (clF tw tp p0 nm) tp i2) p0 (tp i2) nm))))))]) hP hD [3, 4] [0, 1, 2, 5, 6] rfl rfl (by decide) (by decide) hk1 hFc hP1 hD1
          generalize H1 = H at hP hS ⊢
          replace hP : va_P D vwCl [(tt 0, .inr (9, [.ref (tt 1), .ref (tt 3), .ref (tt 5), .int (nI nm)])), (tt 1, .inr (5, [.ref (tt 2)])), (tt 2, .inl (dA 0, 84, .inl tw)), (tt 5, .inr (5, [.ref (tt 6)])), (tt 6, .inl (dA 0, 84, .inl tx)), (tt 3, .inr (5, [.ref (tt 4)])), (tt 4, .inl (dA 0, 84, .inl (upd (fl (clF tw tp p0 nm) tp i2) i2 ((tp i2) - (nI (cntA tw (fl (clF tw tp p0 nm) tp i2) p0 (tp i2) nm))))))] H := hP
          replace hD : va_D A [(tt 0, .inr (9, [.ref (tt 1), .ref (tt 3), .ref (tt 5), .int (nI nm)])), (tt 1, .inr (5, [.ref (tt 2)])), (tt 2, .inl (dA 0, 84, .inl tw)), (tt 5, .inr (5, [.ref (tt 6)])), (tt 6, .inl (dA 0, 84, .inl tx)), (tt 3, .inr (5, [.ref (tt 4)])), (tt 4, .inl (dA 0, 84, .inl (upd (fl (clF tw tp p0 nm) tp i2) i2 ((tp i2) - (nI (cntA tw (fl (clF tw tp p0 nm) tp i2) p0 (tp i2) nm))))))] := hD
          refine lv_iinc (v := nI (i2 + 1)) (lv' := [(2, .int (nI (i2 + 1))), (3, .int (tp i2)), (0, .ref (tt 0)), (1, .int p0)]) hx hb dX6_closeUp_47 hl (k := 1) rfl (nI_add i2 1) (by decide) rfl (fun ls hl => ?_)
          refine lv_goto (tgt := 2) hx hb dX6_closeUp_50 (by decide) ?_
          replace hP := hP.sub (ws' := [(tt 0, .inr (9, [.ref (tt 1), .ref (tt 3), .ref (tt 5), .int (nI nm)])), (tt 1, .inr (5, [.ref (tt 2)])), (tt 2, .inl (dA 0, 84, .inl tw)), (tt 3, .inr (5, [.ref (tt 4)])), (tt 4, .inl (dA 0, 84, .inl (upd (fl (clF tw tp p0 nm) tp i2) i2 ((tp i2) - (nI (cntA tw (fl (clF tw tp p0 nm) tp i2) p0 (tp i2) nm)))))), (tt 5, .inr (5, [.ref (tt 6)])), (tt 6, .inl (dA 0, 84, .inl tx))]) [0, 1, 2, 5, 6, 3, 4] rfl
          replace hD := hD.sub (ws' := [(tt 0, .inr (9, [.ref (tt 1), .ref (tt 3), .ref (tt 5), .int (nI nm)])), (tt 1, .inr (5, [.ref (tt 2)])), (tt 2, .inl (dA 0, 84, .inl tw)), (tt 3, .inr (5, [.ref (tt 4)])), (tt 4, .inl (dA 0, 84, .inl (upd (fl (clF tw tp p0 nm) tp i2) i2 ((tp i2) - (nI (cntA tw (fl (clF tw tp p0 nm) tp i2) p0 (tp i2) nm)))))), (tt 5, .inr (5, [.ref (tt 6)])), (tt 6, .inl (dA 0, 84, .inl tx))]) [0, 1, 2, 5, 6, 3, 4] (by decide) rfl
          exact ih2 (i2 + 1) (upd (fl (clF tw tp p0 nm) tp i2) i2 ((tp i2) - (nI (cntA tw (fl (clF tw tp p0 nm) tp i2) p0 (tp i2) nm)))) (by omega) (by omega) (by omega) (fl_succ (cl_y c10)) _ _ hP hD hS ls (lv_sub hl [0, 2, 3] rfl)
  exact K2 (nm + 1) 0 tp (by omega) (by omega) (by omega) fl_0.symm _ _ hP hD hS ls hl

set_option maxHeartbeats 4000000 in
set_option maxRecDepth 100000 in
theorem t_times (l : Launch) (D : va_G) (dA : Nat → ClassId) (E : Nat) (tt : Nat → Nat) (tw tp tx : Nat → Int32) (nm : Nat) (p0 : Int32) (sz : Nat) (hnm : nm ≤ 84)  : Met l yX6_times (wq (.code yX6_times cX6_times 4 (some .int))) { frames := 1, cells := 0, slots := 0, locals := 21 } (va_Pc [.ref (tt 0), .int p0] (PcB D dA E [(tt 0, .inr (9, [.ref (tt 1), .ref (tt 3), .ref (tt 5), .int (nI nm)])), (tt 1, .inr (5, [.ref (tt 2)])), (tt 2, .inl (dA 0, 84, .inl tw)), (tt 3, .inr (5, [.ref (tt 4)])), (tt 4, .inl (dA 0, 84, .inl tp)), (tt 5, .inr (5, [.ref (tt 6)])), (tt 6, .inl (dA 0, 84, .inl tx))] sz)) (va_Qi (fun (r : Int32) (u : Unit) => r = nI (cn (fun i => decide (tw i = p0)) nm)) (fun u t => va_P D vwCl [(tt 0, .inr (9, [.ref (tt 1), .ref (tt 3), .ref (tt 5), .int (nI nm)])), (tt 1, .inr (5, [.ref (tt 2)])), (tt 2, .inl (dA 0, 84, .inl tw)), (tt 3, .inr (5, [.ref (tt 4)])), (tt 4, .inl (dA 0, 84, .inl tp)), (tt 5, .inr (5, [.ref (tt 6)])), (tt 6, .inl (dA 0, 84, .inl tx))] t.heap ∧ va_D (va_A [(tt 0, .inr (9, [.ref (tt 1), .ref (tt 3), .ref (tt 5), .int (nI nm)])), (tt 1, .inr (5, [.ref (tt 2)])), (tt 2, .inl (dA 0, 84, .inl tw)), (tt 3, .inr (5, [.ref (tt 4)])), (tt 4, .inl (dA 0, 84, .inl tp)), (tt 5, .inr (5, [.ref (tt 6)])), (tt 6, .inl (dA 0, 84, .inl tx))] sz) [(tt 0, .inr (9, [.ref (tt 1), .ref (tt 3), .ref (tt 5), .int (nI nm)])), (tt 1, .inr (5, [.ref (tt 2)])), (tt 2, .inl (dA 0, 84, .inl tw)), (tt 3, .inr (5, [.ref (tt 4)])), (tt 4, .inl (dA 0, 84, .inl tp)), (tt 5, .inr (5, [.ref (tt 6)])), (tt 6, .inl (dA 0, 84, .inl tx))]) (va_A [(tt 0, .inr (9, [.ref (tt 1), .ref (tt 3), .ref (tt 5), .int (nI nm)])), (tt 1, .inr (5, [.ref (tt 2)])), (tt 2, .inl (dA 0, 84, .inl tw)), (tt 3, .inr (5, [.ref (tt 4)])), (tt 4, .inl (dA 0, 84, .inl tp)), (tt 5, .inr (5, [.ref (tt 6)])), (tt 6, .inl (dA 0, 84, .inl tx))] sz)) 0 0 (va_A [(tt 0, .inr (9, [.ref (tt 1), .ref (tt 3), .ref (tt 5), .int (nI nm)])), (tt 1, .inr (5, [.ref (tt 2)])), (tt 2, .inl (dA 0, 84, .inl tw)), (tt 3, .inr (5, [.ref (tt 4)])), (tt 4, .inl (dA 0, 84, .inl tp)), (tt 5, .inr (5, [.ref (tt 6)])), (tt 6, .inl (dA 0, 84, .inl tx))] sz) := by
  refine mb_of (Qc := fun A => va_Qi (fun (r : Int32) (u : Unit) => r = nI (cn (fun i => decide (tw i = p0)) nm)) (fun u t => va_P D vwCl [(tt 0, .inr (9, [.ref (tt 1), .ref (tt 3), .ref (tt 5), .int (nI nm)])), (tt 1, .inr (5, [.ref (tt 2)])), (tt 2, .inl (dA 0, 84, .inl tw)), (tt 3, .inr (5, [.ref (tt 4)])), (tt 4, .inl (dA 0, 84, .inl tp)), (tt 5, .inr (5, [.ref (tt 6)])), (tt 6, .inl (dA 0, 84, .inl tx))] t.heap ∧ va_D A [(tt 0, .inr (9, [.ref (tt 1), .ref (tt 3), .ref (tt 5), .int (nI nm)])), (tt 1, .inr (5, [.ref (tt 2)])), (tt 2, .inl (dA 0, 84, .inl tw)), (tt 3, .inr (5, [.ref (tt 4)])), (tt 4, .inl (dA 0, 84, .inl tp)), (tt 5, .inr (5, [.ref (tt 6)])), (tt 6, .inl (dA 0, 84, .inl tx))]) A) RX6 rfl (by decide) (Nat.le_of_ble_eq_true rfl) ?_
  intro p e s m args below meth c hae hx hb hr hts hown hlocks hml hnm hP hK A hAe hD hZ hS hA ls hl
  replace hl : lv_has ls 4 [(0, .ref (tt 0)), (1, .int p0)] := hl
  refine lv_iconst (v := 0) hx hb dX6_times_0 (by decide) ?_
  refine lv_istore_n (lv' := [(2, .int 0), (0, .ref (tt 0)), (1, .int p0)]) hx hb dX6_times_1 rfl hl (by decide) rfl (fun ls hl => ?_)
  refine lv_iconst (v := 0) hx hb dX6_times_2 (by decide) ?_
  refine lv_istore_n (lv' := [(3, .int 0), (2, .int 0), (0, .ref (tt 0)), (1, .int p0)]) hx hb dX6_times_3 rfl hl (by decide) rfl (fun ls hl => ?_)
  have K4 : ∀ (k4 i4 : Nat) (g4_0 : Int32), 0 ≤ i4 → i4 ≤ nm → nm < i4 + k4 → (g4_0 = nI (cn (fun i => decide (tw i = p0)) i4)) → ∀ (H : Heap) (locs : List Loc), va_P D vwCl [(tt 0, .inr (9, [.ref (tt 1), .ref (tt 3), .ref (tt 5), .int (nI nm)])), (tt 1, .inr (5, [.ref (tt 2)])), (tt 2, .inl (dA 0, 84, .inl tw)), (tt 3, .inr (5, [.ref (tt 4)])), (tt 4, .inl (dA 0, 84, .inl tp)), (tt 5, .inr (5, [.ref (tt 6)])), (tt 6, .inl (dA 0, 84, .inl tx))] H → va_D A [(tt 0, .inr (9, [.ref (tt 1), .ref (tt 3), .ref (tt 5), .int (nI nm)])), (tt 1, .inr (5, [.ref (tt 2)])), (tt 2, .inl (dA 0, 84, .inl tw)), (tt 3, .inr (5, [.ref (tt 4)])), (tt 4, .inl (dA 0, 84, .inl tp)), (tt 5, .inr (5, [.ref (tt 6)])), (tt 6, .inl (dA 0, 84, .inl tx))] → va_S A s.heap H locs → ∀ ls : Array Slot, lv_has ls 4 [(3, .int (nI i4)), (2, .int g4_0), (0, .ref (tt 0)), (1, .int p0)] → W p l e { frames := 1, cells := 0, slots := 0, locals := 21 } s m args below meth c H locs 0 0 (MQ below (va_Qi (fun (r : Int32) (u : Unit) => r = nI (cn (fun i => decide (tw i = p0)) nm)) (fun u t => va_P D vwCl [(tt 0, .inr (9, [.ref (tt 1), .ref (tt 3), .ref (tt 5), .int (nI nm)])), (tt 1, .inr (5, [.ref (tt 2)])), (tt 2, .inl (dA 0, 84, .inl tw)), (tt 3, .inr (5, [.ref (tt 4)])), (tt 4, .inl (dA 0, 84, .inl tp)), (tt 5, .inr (5, [.ref (tt 6)])), (tt 6, .inl (dA 0, 84, .inl tx))] t.heap ∧ va_D A [(tt 0, .inr (9, [.ref (tt 1), .ref (tt 3), .ref (tt 5), .int (nI nm)])), (tt 1, .inr (5, [.ref (tt 2)])), (tt 2, .inl (dA 0, 84, .inl tw)), (tt 3, .inr (5, [.ref (tt 4)])), (tt 4, .inl (dA 0, 84, .inl tp)), (tt 5, .inr (5, [.ref (tt 6)])), (tt 6, .inl (dA 0, 84, .inl tx))]) A) args s 0 0 A) (F0 m 4 ls []) := by
    intro k4
    induction k4 with
    | zero => intro i4 g4_0 h1 h2 h3; exact absurd h3 (by omega)
    | succ k4 ih4 =>
      intro i4 g4_0 hlo4 hhi4 hms4 hinv4 H locs hP hD hS ls hl
      have eg4_0 := hinv4
      subst eg4_0
      have hcn := cn_le (fun i => decide (tw i = p0)) i4
      refine lv_iload_n hx hb dX6_times_4 rfl (lv_at hl 0 rfl) ?_
      refine lv_aload_n hx hb dX6_times_5 rfl (lv_at hl 2 rfl) ?_
      refine va_get (D := D) (ci := 9) (v := .int (nI nm)) (C := RX6) (T := TX6) (N := 4) hx hb hts inAX6 hown hK hP 0 rfl rfl 3 (by decide) (hts _ q205) (fun _ h9 => h9) rfl dX6_times_6 ?_
      refine lv_icmp_ge (tgt := 33) hx hb dX6_times_9 (by decide) (fun c1 => ?_) (fun c1 => ?_)
      · replace c1 := (nI_leI (a := nm) (b := i4) (by omega) (by omega)).mp c1
        obtain rfl : nm = i4 := (by omega)
        replace hP : va_P D vwCl [(tt 0, .inr (9, [.ref (tt 1), .ref (tt 3), .ref (tt 5), .int (nI nm)])), (tt 1, .inr (5, [.ref (tt 2)])), (tt 2, .inl (dA 0, 84, .inl tw)), (tt 3, .inr (5, [.ref (tt 4)])), (tt 4, .inl (dA 0, 84, .inl tp)), (tt 5, .inr (5, [.ref (tt 6)])), (tt 6, .inl (dA 0, 84, .inl tx))] H := hP
        replace hD : va_D A [(tt 0, .inr (9, [.ref (tt 1), .ref (tt 3), .ref (tt 5), .int (nI nm)])), (tt 1, .inr (5, [.ref (tt 2)])), (tt 2, .inl (dA 0, 84, .inl tw)), (tt 3, .inr (5, [.ref (tt 4)])), (tt 4, .inl (dA 0, 84, .inl tp)), (tt 5, .inr (5, [.ref (tt 6)])), (tt 6, .inl (dA 0, 84, .inl tx))] := hD
        refine lv_iload_n hx hb dX6_times_33 rfl (lv_at hl 1 rfl) ?_
        refine W.widen (k := 0) (n := 0) (Nat.le_of_ble_eq_true rfl) (Nat.le_of_ble_eq_true rfl) ?_
        have hP9 := hP.sub (ws' := [(tt 0, .inr (9, [.ref (tt 1), .ref (tt 3), .ref (tt 5), .int (nI nm)])), (tt 1, .inr (5, [.ref (tt 2)])), (tt 2, .inl (dA 0, 84, .inl tw)), (tt 3, .inr (5, [.ref (tt 4)])), (tt 4, .inl (dA 0, 84, .inl tp)), (tt 5, .inr (5, [.ref (tt 6)])), (tt 6, .inl (dA 0, 84, .inl tx))]) [0, 1, 2, 3, 4, 5, 6] rfl
        have hD9 := hD.sub (ws' := [(tt 0, .inr (9, [.ref (tt 1), .ref (tt 3), .ref (tt 5), .int (nI nm)])), (tt 1, .inr (5, [.ref (tt 2)])), (tt 2, .inl (dA 0, 84, .inl tw)), (tt 3, .inr (5, [.ref (tt 4)])), (tt 4, .inl (dA 0, 84, .inl tp)), (tt 5, .inr (5, [.ref (tt 6)])), (tt 6, .inl (dA 0, 84, .inl tx))]) [0, 1, 2, 3, 4, 5, 6] (by decide) rfl
        exact W.iret (v := (nI (cn (fun i => decide (tw i = p0)) nm))) hx hb hr (fun t ht hW => ⟨⟨(nI (cn (fun i => decide (tw i = p0)) nm)), (), rfl, rfl, ⟨by rw [ht]; exact hP9, hD9⟩⟩, hS.F ht⟩) hS.2.2 dX6_times_34
      · replace c1 := mt (nI_leI (a := nm) (b := i4) (by omega) (by omega)).mpr c1
        refine lv_aload_n hx hb dX6_times_12 rfl (lv_at hl 2 rfl) ?_
        refine va_get (D := D) (ci := 9) (v := .ref (tt 1)) (C := RX6) (T := TX6) (N := 4) hx hb hts inAX6 hown hK hP 0 rfl rfl 0 (by decide) (hts _ q206) (fun _ h9 => h9) rfl dX6_times_13 ?_
        refine lv_iload_n hx hb dX6_times_16 rfl (lv_at hl 0 rfl) ?_
        replace hPc := hP.sub (ws' := [(tt 1, .inr (5, [.ref (tt 2)])), (tt 2, .inl (dA 0, 84, .inl tw))]) [1, 2] rfl
        replace hDc := hD.sub (ws' := [(tt 1, .inr (5, [.ref (tt 2)])), (tt 2, .inl (dA 0, 84, .inl tw))]) [1, 2] (by decide) rfl
        replace hFc := va_free (wc := [(tt 1, .inr (5, [.ref (tt 2)])), (tt 2, .inl (dA 0, 84, .inl tw))]) hD hS hA [1, 2] rfl
        refine va_calli (va_runV (As := [.int (nI i4)]) (rest := []) ⟨hx, hb, hml, hown, hts⟩ (t_getN l D dA E (tt 1) (tt 2) 84 tw i4 H.size  (by omega) (by decide)) (cwV 1 hts (ga_V q213 q203 q200 q204 q201) rfl rfl rfl (by decide +kernel) ⟨(Nat.le_of_ble_eq_true rfl), (Nat.le_of_ble_eq_true rfl)⟩) ⟨pb_blind, va_recv hK hPc (ci := 5) (q0 := 0) rfl rfl, pb_pre hK hPc hDc hZ hS hFc _⟩ rfl rfl hl.1 rfl (lv_room (Nat.le_of_ble_eq_true rfl)) dX6_times_17 ⟨(Nat.le_of_ble_eq_true rfl), (Nat.le_of_ble_eq_true rfl)⟩) hS (fun q _ h => hFc q h) hFc (fun r u t H1 locs ht hvm hw hB hz1 hk1 hS => ?_)
        refine W.widen (k := 0) (n := 0) (Nat.le_of_ble_eq_true rfl) (Nat.le_of_ble_eq_true rfl) ?_
        obtain ⟨r2, rfl⟩ : ∃ z, z = r := ⟨_, rfl⟩
        obtain ⟨u3, rfl⟩ : ∃ z, z = u := ⟨_, rfl⟩
        have hw4 := hw
        clear hw
        obtain ⟨hP1, hD1⟩ := hB
        rw [ht] at hP1
        obtain ⟨hP, hD⟩ := va_join (wr := [(tt 0, .inr (9, [.ref (tt 1), .ref (tt 3), .ref (tt 5), .int (nI nm)])), (tt 3, .inr (5, [.ref (tt 4)])), (tt 4, .inl (dA 0, 84, .inl tp)), (tt 5, .inr (5, [.ref (tt 6)])), (tt 6, .inl (dA 0, 84, .inl tx))]) (w1 := [(tt 1, .inr (5, [.ref (tt 2)])), (tt 2, .inl (dA 0, 84, .inl tw))]) hP hD [1, 2] [0, 3, 4, 5, 6] rfl rfl (by decide) (by decide) hk1 hFc hP1 hD1
        generalize H1 = H at hP hS ⊢
        replace hP : va_P D vwCl [(tt 0, .inr (9, [.ref (tt 1), .ref (tt 3), .ref (tt 5), .int (nI nm)])), (tt 3, .inr (5, [.ref (tt 4)])), (tt 4, .inl (dA 0, 84, .inl tp)), (tt 5, .inr (5, [.ref (tt 6)])), (tt 6, .inl (dA 0, 84, .inl tx)), (tt 1, .inr (5, [.ref (tt 2)])), (tt 2, .inl (dA 0, 84, .inl tw))] H := hP
        replace hD : va_D A [(tt 0, .inr (9, [.ref (tt 1), .ref (tt 3), .ref (tt 5), .int (nI nm)])), (tt 3, .inr (5, [.ref (tt 4)])), (tt 4, .inl (dA 0, 84, .inl tp)), (tt 5, .inr (5, [.ref (tt 6)])), (tt 6, .inl (dA 0, 84, .inl tx)), (tt 1, .inr (5, [.ref (tt 2)])), (tt 2, .inl (dA 0, 84, .inl tw))] := hD
        obtain rfl : r2 = tw i4 := hw4
        refine lv_iload_n hx hb dX6_times_20 rfl (lv_at hl 3 rfl) ?_
        refine lv_icmp_ne (tgt := 27) hx hb dX6_times_21 (by decide) (fun c5 => ?_) (fun c5 => ?_)
        · refine lv_iinc (v := nI (i4 + 1)) (lv' := [(3, .int (nI (i4 + 1))), (2, .int (nI (cn (fun i => decide (tw i = p0)) i4))), (0, .ref (tt 0)), (1, .int p0)]) hx hb dX6_times_27 hl (k := 0) rfl (nI_add i4 1) (by decide) rfl (fun ls hl => ?_)
          refine lv_goto (tgt := 4) hx hb dX6_times_30 (by decide) ?_
          replace hP := hP.sub (ws' := [(tt 0, .inr (9, [.ref (tt 1), .ref (tt 3), .ref (tt 5), .int (nI nm)])), (tt 1, .inr (5, [.ref (tt 2)])), (tt 2, .inl (dA 0, 84, .inl tw)), (tt 3, .inr (5, [.ref (tt 4)])), (tt 4, .inl (dA 0, 84, .inl tp)), (tt 5, .inr (5, [.ref (tt 6)])), (tt 6, .inl (dA 0, 84, .inl tx))]) [0, 5, 6, 1, 2, 3, 4] rfl
          replace hD := hD.sub (ws' := [(tt 0, .inr (9, [.ref (tt 1), .ref (tt 3), .ref (tt 5), .int (nI nm)])), (tt 1, .inr (5, [.ref (tt 2)])), (tt 2, .inl (dA 0, 84, .inl tw)), (tt 3, .inr (5, [.ref (tt 4)])), (tt 4, .inl (dA 0, 84, .inl tp)), (tt 5, .inr (5, [.ref (tt 6)])), (tt 6, .inl (dA 0, 84, .inl tx))]) [0, 5, 6, 1, 2, 3, 4] (by decide) rfl
          exact ih4 (i4 + 1) (nI (cn (fun i => decide (tw i = p0)) i4)) (by omega) (by omega) (by omega) (cn_n' (f := fun i => decide (tw i = p0)) (decide_eq_false c5)) _ _ hP hD hS ls (lv_sub hl [0, 1, 2, 3] rfl)
        · refine lv_iinc (v := nI ((cn (fun i => decide (tw i = p0)) i4) + 1)) (lv' := [(2, .int (nI ((cn (fun i => decide (tw i = p0)) i4) + 1))), (3, .int (nI i4)), (0, .ref (tt 0)), (1, .int p0)]) hx hb dX6_times_24 hl (k := 1) rfl (nI_add (cn (fun i => decide (tw i = p0)) i4) 1) (by decide) rfl (fun ls hl => ?_)
          refine lv_iinc (v := nI (i4 + 1)) (lv' := [(3, .int (nI (i4 + 1))), (2, .int (nI ((cn (fun i => decide (tw i = p0)) i4) + 1))), (0, .ref (tt 0)), (1, .int p0)]) hx hb dX6_times_27 hl (k := 1) rfl (nI_add i4 1) (by decide) rfl (fun ls hl => ?_)
          refine lv_goto (tgt := 4) hx hb dX6_times_30 (by decide) ?_
          replace hP := hP.sub (ws' := [(tt 0, .inr (9, [.ref (tt 1), .ref (tt 3), .ref (tt 5), .int (nI nm)])), (tt 1, .inr (5, [.ref (tt 2)])), (tt 2, .inl (dA 0, 84, .inl tw)), (tt 3, .inr (5, [.ref (tt 4)])), (tt 4, .inl (dA 0, 84, .inl tp)), (tt 5, .inr (5, [.ref (tt 6)])), (tt 6, .inl (dA 0, 84, .inl tx))]) [0, 5, 6, 1, 2, 3, 4] rfl
          replace hD := hD.sub (ws' := [(tt 0, .inr (9, [.ref (tt 1), .ref (tt 3), .ref (tt 5), .int (nI nm)])), (tt 1, .inr (5, [.ref (tt 2)])), (tt 2, .inl (dA 0, 84, .inl tw)), (tt 3, .inr (5, [.ref (tt 4)])), (tt 4, .inl (dA 0, 84, .inl tp)), (tt 5, .inr (5, [.ref (tt 6)])), (tt 6, .inl (dA 0, 84, .inl tx))]) [0, 5, 6, 1, 2, 3, 4] (by decide) rfl
          exact ih4 (i4 + 1) (nI ((cn (fun i => decide (tw i = p0)) i4) + 1)) (by omega) (by omega) (by omega) (wc_y c5) _ _ hP hD hS ls (lv_sub hl [0, 1, 2, 3] rfl)
  exact K4 (nm + 1) 0 0 (by omega) (by omega) (by omega) rfl _ _ hP hD hS ls hl

set_option maxHeartbeats 4000000 in
set_option maxRecDepth 100000 in
theorem t_timesAt (l : Launch) (D : va_G) (dA : Nat → ClassId) (E : Nat) (tt : Nat → Nat) (tw tp tx : Nat → Int32) (nm : Nat) (p0 p1 : Int32) (sz : Nat) (hnm : nm ≤ 84)  : Met l yX6_timesAt (wq (.code yX6_timesAt cX6_timesAt 5 (some .int))) { frames := 1, cells := 0, slots := 0, locals := 21 } (va_Pc [.ref (tt 0), .int p0, .int p1] (PcB D dA E [(tt 0, .inr (9, [.ref (tt 1), .ref (tt 3), .ref (tt 5), .int (nI nm)])), (tt 1, .inr (5, [.ref (tt 2)])), (tt 2, .inl (dA 0, 84, .inl tw)), (tt 3, .inr (5, [.ref (tt 4)])), (tt 4, .inl (dA 0, 84, .inl tp)), (tt 5, .inr (5, [.ref (tt 6)])), (tt 6, .inl (dA 0, 84, .inl tx))] sz)) (va_Qi (fun (r : Int32) (u : Unit) => r = nI (sat tw tp p1 p0 nm)) (fun u t => va_P D vwCl [(tt 0, .inr (9, [.ref (tt 1), .ref (tt 3), .ref (tt 5), .int (nI nm)])), (tt 1, .inr (5, [.ref (tt 2)])), (tt 2, .inl (dA 0, 84, .inl tw)), (tt 3, .inr (5, [.ref (tt 4)])), (tt 4, .inl (dA 0, 84, .inl tp)), (tt 5, .inr (5, [.ref (tt 6)])), (tt 6, .inl (dA 0, 84, .inl tx))] t.heap ∧ va_D (va_A [(tt 0, .inr (9, [.ref (tt 1), .ref (tt 3), .ref (tt 5), .int (nI nm)])), (tt 1, .inr (5, [.ref (tt 2)])), (tt 2, .inl (dA 0, 84, .inl tw)), (tt 3, .inr (5, [.ref (tt 4)])), (tt 4, .inl (dA 0, 84, .inl tp)), (tt 5, .inr (5, [.ref (tt 6)])), (tt 6, .inl (dA 0, 84, .inl tx))] sz) [(tt 0, .inr (9, [.ref (tt 1), .ref (tt 3), .ref (tt 5), .int (nI nm)])), (tt 1, .inr (5, [.ref (tt 2)])), (tt 2, .inl (dA 0, 84, .inl tw)), (tt 3, .inr (5, [.ref (tt 4)])), (tt 4, .inl (dA 0, 84, .inl tp)), (tt 5, .inr (5, [.ref (tt 6)])), (tt 6, .inl (dA 0, 84, .inl tx))]) (va_A [(tt 0, .inr (9, [.ref (tt 1), .ref (tt 3), .ref (tt 5), .int (nI nm)])), (tt 1, .inr (5, [.ref (tt 2)])), (tt 2, .inl (dA 0, 84, .inl tw)), (tt 3, .inr (5, [.ref (tt 4)])), (tt 4, .inl (dA 0, 84, .inl tp)), (tt 5, .inr (5, [.ref (tt 6)])), (tt 6, .inl (dA 0, 84, .inl tx))] sz)) 0 0 (va_A [(tt 0, .inr (9, [.ref (tt 1), .ref (tt 3), .ref (tt 5), .int (nI nm)])), (tt 1, .inr (5, [.ref (tt 2)])), (tt 2, .inl (dA 0, 84, .inl tw)), (tt 3, .inr (5, [.ref (tt 4)])), (tt 4, .inl (dA 0, 84, .inl tp)), (tt 5, .inr (5, [.ref (tt 6)])), (tt 6, .inl (dA 0, 84, .inl tx))] sz) := by
  refine mb_of (Qc := fun A => va_Qi (fun (r : Int32) (u : Unit) => r = nI (sat tw tp p1 p0 nm)) (fun u t => va_P D vwCl [(tt 0, .inr (9, [.ref (tt 1), .ref (tt 3), .ref (tt 5), .int (nI nm)])), (tt 1, .inr (5, [.ref (tt 2)])), (tt 2, .inl (dA 0, 84, .inl tw)), (tt 3, .inr (5, [.ref (tt 4)])), (tt 4, .inl (dA 0, 84, .inl tp)), (tt 5, .inr (5, [.ref (tt 6)])), (tt 6, .inl (dA 0, 84, .inl tx))] t.heap ∧ va_D A [(tt 0, .inr (9, [.ref (tt 1), .ref (tt 3), .ref (tt 5), .int (nI nm)])), (tt 1, .inr (5, [.ref (tt 2)])), (tt 2, .inl (dA 0, 84, .inl tw)), (tt 3, .inr (5, [.ref (tt 4)])), (tt 4, .inl (dA 0, 84, .inl tp)), (tt 5, .inr (5, [.ref (tt 6)])), (tt 6, .inl (dA 0, 84, .inl tx))]) A) RX6 rfl (by decide) (Nat.le_of_ble_eq_true rfl) ?_
  intro p e s m args below meth c hae hx hb hr hts hown hlocks hml hnm hP hK A hAe hD hZ hS hA ls hl
  replace hl : lv_has ls 5 [(0, .ref (tt 0)), (1, .int p0), (2, .int p1)] := hl
  refine lv_iconst (v := 0) hx hb dX6_timesAt_0 (by decide) ?_
  refine lv_istore_n (lv' := [(3, .int 0), (0, .ref (tt 0)), (1, .int p0), (2, .int p1)]) hx hb dX6_timesAt_1 rfl hl (by decide) rfl (fun ls hl => ?_)
  refine lv_iconst (v := 0) hx hb dX6_timesAt_2 (by decide) ?_
  refine lv_istore (lv' := [(4, .int 0), (3, .int 0), (0, .ref (tt 0)), (1, .int p0), (2, .int p1)]) hx hb dX6_timesAt_3 hl (by decide) rfl (fun ls hl => ?_)
  have K5 : ∀ (k5 i5 : Nat) (g5_0 : Int32), 0 ≤ i5 → i5 ≤ nm → nm < i5 + k5 → (g5_0 = nI (sat tw tp p1 p0 i5)) → ∀ (H : Heap) (locs : List Loc), va_P D vwCl [(tt 0, .inr (9, [.ref (tt 1), .ref (tt 3), .ref (tt 5), .int (nI nm)])), (tt 1, .inr (5, [.ref (tt 2)])), (tt 2, .inl (dA 0, 84, .inl tw)), (tt 3, .inr (5, [.ref (tt 4)])), (tt 4, .inl (dA 0, 84, .inl tp)), (tt 5, .inr (5, [.ref (tt 6)])), (tt 6, .inl (dA 0, 84, .inl tx))] H → va_D A [(tt 0, .inr (9, [.ref (tt 1), .ref (tt 3), .ref (tt 5), .int (nI nm)])), (tt 1, .inr (5, [.ref (tt 2)])), (tt 2, .inl (dA 0, 84, .inl tw)), (tt 3, .inr (5, [.ref (tt 4)])), (tt 4, .inl (dA 0, 84, .inl tp)), (tt 5, .inr (5, [.ref (tt 6)])), (tt 6, .inl (dA 0, 84, .inl tx))] → va_S A s.heap H locs → ∀ ls : Array Slot, lv_has ls 5 [(4, .int (nI i5)), (3, .int g5_0), (0, .ref (tt 0)), (1, .int p0), (2, .int p1)] → W p l e { frames := 1, cells := 0, slots := 0, locals := 21 } s m args below meth c H locs 0 0 (MQ below (va_Qi (fun (r : Int32) (u : Unit) => r = nI (sat tw tp p1 p0 nm)) (fun u t => va_P D vwCl [(tt 0, .inr (9, [.ref (tt 1), .ref (tt 3), .ref (tt 5), .int (nI nm)])), (tt 1, .inr (5, [.ref (tt 2)])), (tt 2, .inl (dA 0, 84, .inl tw)), (tt 3, .inr (5, [.ref (tt 4)])), (tt 4, .inl (dA 0, 84, .inl tp)), (tt 5, .inr (5, [.ref (tt 6)])), (tt 6, .inl (dA 0, 84, .inl tx))] t.heap ∧ va_D A [(tt 0, .inr (9, [.ref (tt 1), .ref (tt 3), .ref (tt 5), .int (nI nm)])), (tt 1, .inr (5, [.ref (tt 2)])), (tt 2, .inl (dA 0, 84, .inl tw)), (tt 3, .inr (5, [.ref (tt 4)])), (tt 4, .inl (dA 0, 84, .inl tp)), (tt 5, .inr (5, [.ref (tt 6)])), (tt 6, .inl (dA 0, 84, .inl tx))]) A) args s 0 0 A) (F0 m 5 ls []) := by
    intro k5
    induction k5 with
    | zero => intro i5 g5_0 h1 h2 h3; exact absurd h3 (by omega)
    | succ k5 ih5 =>
      intro i5 g5_0 hlo5 hhi5 hms5 hinv5 H locs hP hD hS ls hl
      have eg5_0 := hinv5
      subst eg5_0
      have hcn := sat_le tw tp p1 p0 i5
      refine lv_iload hx hb dX6_timesAt_5 (lv_at hl 0 rfl) ?_
      refine lv_aload_n hx hb dX6_timesAt_7 rfl (lv_at hl 2 rfl) ?_
      refine va_get (D := D) (ci := 9) (v := .int (nI nm)) (C := RX6) (T := TX6) (N := 4) hx hb hts inAX6 hown hK hP 0 rfl rfl 3 (by decide) (hts _ q205) (fun _ h9 => h9) rfl dX6_timesAt_8 ?_
      refine lv_icmp_ge (tgt := 49) hx hb dX6_timesAt_11 (by decide) (fun c1 => ?_) (fun c1 => ?_)
      · replace c1 := (nI_leI (a := nm) (b := i5) (by omega) (by omega)).mp c1
        obtain rfl : nm = i5 := (by omega)
        replace hP : va_P D vwCl [(tt 0, .inr (9, [.ref (tt 1), .ref (tt 3), .ref (tt 5), .int (nI nm)])), (tt 1, .inr (5, [.ref (tt 2)])), (tt 2, .inl (dA 0, 84, .inl tw)), (tt 3, .inr (5, [.ref (tt 4)])), (tt 4, .inl (dA 0, 84, .inl tp)), (tt 5, .inr (5, [.ref (tt 6)])), (tt 6, .inl (dA 0, 84, .inl tx))] H := hP
        replace hD : va_D A [(tt 0, .inr (9, [.ref (tt 1), .ref (tt 3), .ref (tt 5), .int (nI nm)])), (tt 1, .inr (5, [.ref (tt 2)])), (tt 2, .inl (dA 0, 84, .inl tw)), (tt 3, .inr (5, [.ref (tt 4)])), (tt 4, .inl (dA 0, 84, .inl tp)), (tt 5, .inr (5, [.ref (tt 6)])), (tt 6, .inl (dA 0, 84, .inl tx))] := hD
        refine lv_iload_n hx hb dX6_timesAt_49 rfl (lv_at hl 1 rfl) ?_
        refine W.widen (k := 0) (n := 0) (Nat.le_of_ble_eq_true rfl) (Nat.le_of_ble_eq_true rfl) ?_
        have hP9 := hP.sub (ws' := [(tt 0, .inr (9, [.ref (tt 1), .ref (tt 3), .ref (tt 5), .int (nI nm)])), (tt 1, .inr (5, [.ref (tt 2)])), (tt 2, .inl (dA 0, 84, .inl tw)), (tt 3, .inr (5, [.ref (tt 4)])), (tt 4, .inl (dA 0, 84, .inl tp)), (tt 5, .inr (5, [.ref (tt 6)])), (tt 6, .inl (dA 0, 84, .inl tx))]) [0, 1, 2, 3, 4, 5, 6] rfl
        have hD9 := hD.sub (ws' := [(tt 0, .inr (9, [.ref (tt 1), .ref (tt 3), .ref (tt 5), .int (nI nm)])), (tt 1, .inr (5, [.ref (tt 2)])), (tt 2, .inl (dA 0, 84, .inl tw)), (tt 3, .inr (5, [.ref (tt 4)])), (tt 4, .inl (dA 0, 84, .inl tp)), (tt 5, .inr (5, [.ref (tt 6)])), (tt 6, .inl (dA 0, 84, .inl tx))]) [0, 1, 2, 3, 4, 5, 6] (by decide) rfl
        exact W.iret (v := (nI (sat tw tp p1 p0 nm))) hx hb hr (fun t ht hW => ⟨⟨(nI (sat tw tp p1 p0 nm)), (), rfl, rfl, ⟨by rw [ht]; exact hP9, hD9⟩⟩, hS.F ht⟩) hS.2.2 dX6_timesAt_50
      · replace c1 := mt (nI_leI (a := nm) (b := i5) (by omega) (by omega)).mpr c1
        refine lv_aload_n hx hb dX6_timesAt_14 rfl (lv_at hl 2 rfl) ?_
        refine va_get (D := D) (ci := 9) (v := .ref (tt 1)) (C := RX6) (T := TX6) (N := 4) hx hb hts inAX6 hown hK hP 0 rfl rfl 0 (by decide) (hts _ q206) (fun _ h9 => h9) rfl dX6_timesAt_15 ?_
        refine lv_iload hx hb dX6_timesAt_18 (lv_at hl 0 rfl) ?_
        replace hPc := hP.sub (ws' := [(tt 1, .inr (5, [.ref (tt 2)])), (tt 2, .inl (dA 0, 84, .inl tw))]) [1, 2] rfl
        replace hDc := hD.sub (ws' := [(tt 1, .inr (5, [.ref (tt 2)])), (tt 2, .inl (dA 0, 84, .inl tw))]) [1, 2] (by decide) rfl
        replace hFc := va_free (wc := [(tt 1, .inr (5, [.ref (tt 2)])), (tt 2, .inl (dA 0, 84, .inl tw))]) hD hS hA [1, 2] rfl
        refine va_calli (va_runV (As := [.int (nI i5)]) (rest := []) ⟨hx, hb, hml, hown, hts⟩ (t_getN l D dA E (tt 1) (tt 2) 84 tw i5 H.size  (by omega) (by decide)) (cwV 1 hts (ga_V q213 q203 q200 q204 q201) rfl rfl rfl (by decide +kernel) ⟨(Nat.le_of_ble_eq_true rfl), (Nat.le_of_ble_eq_true rfl)⟩) ⟨pb_blind, va_recv hK hPc (ci := 5) (q0 := 0) rfl rfl, pb_pre hK hPc hDc hZ hS hFc _⟩ rfl rfl hl.1 rfl (lv_room (Nat.le_of_ble_eq_true rfl)) dX6_timesAt_20 ⟨(Nat.le_of_ble_eq_true rfl), (Nat.le_of_ble_eq_true rfl)⟩) hS (fun q _ h => hFc q h) hFc (fun r u t H1 locs ht hvm hw hB hz1 hk1 hS => ?_)
        refine W.widen (k := 0) (n := 0) (Nat.le_of_ble_eq_true rfl) (Nat.le_of_ble_eq_true rfl) ?_
        obtain ⟨r2, rfl⟩ : ∃ z, z = r := ⟨_, rfl⟩
        obtain ⟨u3, rfl⟩ : ∃ z, z = u := ⟨_, rfl⟩
        have hw4 := hw
        clear hw
        obtain ⟨hP1, hD1⟩ := hB
        rw [ht] at hP1
        obtain ⟨hP, hD⟩ := va_join (wr := [(tt 0, .inr (9, [.ref (tt 1), .ref (tt 3), .ref (tt 5), .int (nI nm)])), (tt 3, .inr (5, [.ref (tt 4)])), (tt 4, .inl (dA 0, 84, .inl tp)), (tt 5, .inr (5, [.ref (tt 6)])), (tt 6, .inl (dA 0, 84, .inl tx))]) (w1 := [(tt 1, .inr (5, [.ref (tt 2)])), (tt 2, .inl (dA 0, 84, .inl tw))]) hP hD [1, 2] [0, 3, 4, 5, 6] rfl rfl (by decide) (by decide) hk1 hFc hP1 hD1
        generalize H1 = H at hP hS ⊢
        replace hP : va_P D vwCl [(tt 0, .inr (9, [.ref (tt 1), .ref (tt 3), .ref (tt 5), .int (nI nm)])), (tt 3, .inr (5, [.ref (tt 4)])), (tt 4, .inl (dA 0, 84, .inl tp)), (tt 5, .inr (5, [.ref (tt 6)])), (tt 6, .inl (dA 0, 84, .inl tx)), (tt 1, .inr (5, [.ref (tt 2)])), (tt 2, .inl (dA 0, 84, .inl tw))] H := hP
        replace hD : va_D A [(tt 0, .inr (9, [.ref (tt 1), .ref (tt 3), .ref (tt 5), .int (nI nm)])), (tt 3, .inr (5, [.ref (tt 4)])), (tt 4, .inl (dA 0, 84, .inl tp)), (tt 5, .inr (5, [.ref (tt 6)])), (tt 6, .inl (dA 0, 84, .inl tx)), (tt 1, .inr (5, [.ref (tt 2)])), (tt 2, .inl (dA 0, 84, .inl tw))] := hD
        obtain rfl : r2 = tw i5 := hw4
        refine lv_iload_n hx hb dX6_timesAt_23 rfl (lv_at hl 4 rfl) ?_
        refine lv_icmp_ne (tgt := 43) hx hb dX6_timesAt_24 (by decide) (fun c5 => ?_) (fun c5 => ?_)
        · refine lv_iinc (v := nI (i5 + 1)) (lv' := [(4, .int (nI (i5 + 1))), (3, .int (nI (sat tw tp p1 p0 i5))), (0, .ref (tt 0)), (1, .int p0), (2, .int p1)]) hx hb dX6_timesAt_43 hl (k := 0) rfl (nI_add i5 1) (by decide) rfl (fun ls hl => ?_)
          refine lv_goto (tgt := 5) hx hb dX6_timesAt_46 (by decide) ?_
          replace hP := hP.sub (ws' := [(tt 0, .inr (9, [.ref (tt 1), .ref (tt 3), .ref (tt 5), .int (nI nm)])), (tt 1, .inr (5, [.ref (tt 2)])), (tt 2, .inl (dA 0, 84, .inl tw)), (tt 3, .inr (5, [.ref (tt 4)])), (tt 4, .inl (dA 0, 84, .inl tp)), (tt 5, .inr (5, [.ref (tt 6)])), (tt 6, .inl (dA 0, 84, .inl tx))]) [0, 5, 6, 1, 2, 3, 4] rfl
          replace hD := hD.sub (ws' := [(tt 0, .inr (9, [.ref (tt 1), .ref (tt 3), .ref (tt 5), .int (nI nm)])), (tt 1, .inr (5, [.ref (tt 2)])), (tt 2, .inl (dA 0, 84, .inl tw)), (tt 3, .inr (5, [.ref (tt 4)])), (tt 4, .inl (dA 0, 84, .inl tp)), (tt 5, .inr (5, [.ref (tt 6)])), (tt 6, .inl (dA 0, 84, .inl tx))]) [0, 5, 6, 1, 2, 3, 4] (by decide) rfl
          exact ih5 (i5 + 1) (nI (sat tw tp p1 p0 i5)) (by omega) (by omega) (by omega) (sat_n0 c5) _ _ hP hD hS ls (lv_sub hl [0, 1, 2, 3, 4] rfl)
        · refine lv_aload_n hx hb dX6_timesAt_27 rfl (lv_at hl 2 rfl) ?_
          refine va_get (D := D) (ci := 9) (v := .ref (tt 3)) (C := RX6) (T := TX6) (N := 4) hx hb hts inAX6 hown hK hP 0 rfl rfl 1 (by decide) (hts _ q211) (fun _ h9 => h9) rfl dX6_timesAt_28 ?_
          refine lv_iload hx hb dX6_timesAt_31 (lv_at hl 0 rfl) ?_
          replace hPc := hP.sub (ws' := [(tt 3, .inr (5, [.ref (tt 4)])), (tt 4, .inl (dA 0, 84, .inl tp))]) [1, 2] rfl
          replace hDc := hD.sub (ws' := [(tt 3, .inr (5, [.ref (tt 4)])), (tt 4, .inl (dA 0, 84, .inl tp))]) [1, 2] (by decide) rfl
          replace hFc := va_free (wc := [(tt 3, .inr (5, [.ref (tt 4)])), (tt 4, .inl (dA 0, 84, .inl tp))]) hD hS hA [1, 2] rfl
          refine va_calli (va_runV (As := [.int (nI i5)]) (rest := []) ⟨hx, hb, hml, hown, hts⟩ (t_getN l D dA E (tt 3) (tt 4) 84 tp i5 H.size  (by omega) (by decide)) (cwV 1 hts (ga_V q213 q203 q200 q204 q201) rfl rfl rfl (by decide +kernel) ⟨(Nat.le_of_ble_eq_true rfl), (Nat.le_of_ble_eq_true rfl)⟩) ⟨pb_blind, va_recv hK hPc (ci := 5) (q0 := 0) rfl rfl, pb_pre hK hPc hDc hZ hS hFc _⟩ rfl rfl hl.1 rfl (lv_room (Nat.le_of_ble_eq_true rfl)) dX6_timesAt_33 ⟨(Nat.le_of_ble_eq_true rfl), (Nat.le_of_ble_eq_true rfl)⟩) hS (fun q _ h => hFc q h) hFc (fun r u t H1 locs ht hvm hw hB hz1 hk1 hS => ?_)
          refine W.widen (k := 0) (n := 0) (Nat.le_of_ble_eq_true rfl) (Nat.le_of_ble_eq_true rfl) ?_
          obtain ⟨r6, rfl⟩ : ∃ z, z = r := ⟨_, rfl⟩
          obtain ⟨u7, rfl⟩ : ∃ z, z = u := ⟨_, rfl⟩
          have hw8 := hw
          clear hw
          obtain ⟨hP1, hD1⟩ := hB
          rw [ht] at hP1
          obtain ⟨hP, hD⟩ := va_join (wr := [(tt 0, .inr (9, [.ref (tt 1), .ref (tt 3), .ref (tt 5), .int (nI nm)])), (tt 5, .inr (5, [.ref (tt 6)])), (tt 6, .inl (dA 0, 84, .inl tx)), (tt 1, .inr (5, [.ref (tt 2)])), (tt 2, .inl (dA 0, 84, .inl tw))]) (w1 := [(tt 3, .inr (5, [.ref (tt 4)])), (tt 4, .inl (dA 0, 84, .inl tp))]) hP hD [1, 2] [0, 3, 4, 5, 6] rfl rfl (by decide) (by decide) hk1 hFc hP1 hD1
          generalize H1 = H at hP hS ⊢
          replace hP : va_P D vwCl [(tt 0, .inr (9, [.ref (tt 1), .ref (tt 3), .ref (tt 5), .int (nI nm)])), (tt 5, .inr (5, [.ref (tt 6)])), (tt 6, .inl (dA 0, 84, .inl tx)), (tt 1, .inr (5, [.ref (tt 2)])), (tt 2, .inl (dA 0, 84, .inl tw)), (tt 3, .inr (5, [.ref (tt 4)])), (tt 4, .inl (dA 0, 84, .inl tp))] H := hP
          replace hD : va_D A [(tt 0, .inr (9, [.ref (tt 1), .ref (tt 3), .ref (tt 5), .int (nI nm)])), (tt 5, .inr (5, [.ref (tt 6)])), (tt 6, .inl (dA 0, 84, .inl tx)), (tt 1, .inr (5, [.ref (tt 2)])), (tt 2, .inl (dA 0, 84, .inl tw)), (tt 3, .inr (5, [.ref (tt 4)])), (tt 4, .inl (dA 0, 84, .inl tp))] := hD
          obtain rfl : r6 = tp i5 := hw8
          refine lv_iload_n hx hb dX6_timesAt_36 rfl (lv_at hl 3 rfl) ?_
          refine lv_icmp_ne (tgt := 43) hx hb dX6_timesAt_37 (by decide) (fun c9 => ?_) (fun c9 => ?_)
          · refine lv_iinc (v := nI (i5 + 1)) (lv' := [(4, .int (nI (i5 + 1))), (3, .int (nI (sat tw tp p1 p0 i5))), (0, .ref (tt 0)), (1, .int p0), (2, .int p1)]) hx hb dX6_timesAt_43 hl (k := 0) rfl (nI_add i5 1) (by decide) rfl (fun ls hl => ?_)
            refine lv_goto (tgt := 5) hx hb dX6_timesAt_46 (by decide) ?_
            replace hP := hP.sub (ws' := [(tt 0, .inr (9, [.ref (tt 1), .ref (tt 3), .ref (tt 5), .int (nI nm)])), (tt 1, .inr (5, [.ref (tt 2)])), (tt 2, .inl (dA 0, 84, .inl tw)), (tt 3, .inr (5, [.ref (tt 4)])), (tt 4, .inl (dA 0, 84, .inl tp)), (tt 5, .inr (5, [.ref (tt 6)])), (tt 6, .inl (dA 0, 84, .inl tx))]) [0, 3, 4, 5, 6, 1, 2] rfl
            replace hD := hD.sub (ws' := [(tt 0, .inr (9, [.ref (tt 1), .ref (tt 3), .ref (tt 5), .int (nI nm)])), (tt 1, .inr (5, [.ref (tt 2)])), (tt 2, .inl (dA 0, 84, .inl tw)), (tt 3, .inr (5, [.ref (tt 4)])), (tt 4, .inl (dA 0, 84, .inl tp)), (tt 5, .inr (5, [.ref (tt 6)])), (tt 6, .inl (dA 0, 84, .inl tx))]) [0, 3, 4, 5, 6, 1, 2] (by decide) rfl
            exact ih5 (i5 + 1) (nI (sat tw tp p1 p0 i5)) (by omega) (by omega) (by omega) (sat_n1 c9) _ _ hP hD hS ls (lv_sub hl [0, 1, 2, 3, 4] rfl)
          · refine lv_iinc (v := nI ((sat tw tp p1 p0 i5) + 1)) (lv' := [(3, .int (nI ((sat tw tp p1 p0 i5) + 1))), (4, .int (nI i5)), (0, .ref (tt 0)), (1, .int p0), (2, .int p1)]) hx hb dX6_timesAt_40 hl (k := 1) rfl (nI_add (sat tw tp p1 p0 i5) 1) (by decide) rfl (fun ls hl => ?_)
            refine lv_iinc (v := nI (i5 + 1)) (lv' := [(4, .int (nI (i5 + 1))), (3, .int (nI ((sat tw tp p1 p0 i5) + 1))), (0, .ref (tt 0)), (1, .int p0), (2, .int p1)]) hx hb dX6_timesAt_43 hl (k := 1) rfl (nI_add i5 1) (by decide) rfl (fun ls hl => ?_)
            refine lv_goto (tgt := 5) hx hb dX6_timesAt_46 (by decide) ?_
            replace hP := hP.sub (ws' := [(tt 0, .inr (9, [.ref (tt 1), .ref (tt 3), .ref (tt 5), .int (nI nm)])), (tt 1, .inr (5, [.ref (tt 2)])), (tt 2, .inl (dA 0, 84, .inl tw)), (tt 3, .inr (5, [.ref (tt 4)])), (tt 4, .inl (dA 0, 84, .inl tp)), (tt 5, .inr (5, [.ref (tt 6)])), (tt 6, .inl (dA 0, 84, .inl tx))]) [0, 3, 4, 5, 6, 1, 2] rfl
            replace hD := hD.sub (ws' := [(tt 0, .inr (9, [.ref (tt 1), .ref (tt 3), .ref (tt 5), .int (nI nm)])), (tt 1, .inr (5, [.ref (tt 2)])), (tt 2, .inl (dA 0, 84, .inl tw)), (tt 3, .inr (5, [.ref (tt 4)])), (tt 4, .inl (dA 0, 84, .inl tp)), (tt 5, .inr (5, [.ref (tt 6)])), (tt 6, .inl (dA 0, 84, .inl tx))]) [0, 3, 4, 5, 6, 1, 2] (by decide) rfl
            exact ih5 (i5 + 1) (nI ((sat tw tp p1 p0 i5) + 1)) (by omega) (by omega) (by omega) (sat_y c9 c5) _ _ hP hD hS ls (lv_sub hl [0, 1, 2, 3, 4] rfl)
  exact K5 (nm + 1) 0 0 (by omega) (by omega) (by omega) rfl _ _ hP hD hS ls hl
