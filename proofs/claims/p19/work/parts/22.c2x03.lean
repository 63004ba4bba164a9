/-! CONTRACTS, general -/
set_option maxHeartbeats 4000000 in
set_option maxRecDepth 100000 in
theorem t_takeOut (l : Launch) (D : va_G) (dA : Nat → ClassId) (E : Nat) (tt : Nat → Nat) (tw tp tx : Nat → Int32) (nm : Nat) (p0 : Int32) (sz : Nat) (hnm : nm ≤ 84)  : Met l yX6_takeOut (wq (.code yX6_takeOut cX6_takeOut 4 none)) { frames := 1, cells := 0, slots := 0, locals := 22 } (va_Pc [.ref (tt 0), .int p0] (PcB D dA E [(tt 0, .inr (9, [.ref (tt 1), .ref (tt 3), .ref (tt 5), .int (nI nm)])), (tt 1, .inr (5, [.ref (tt 2)])), (tt 2, .inl (dA 0, 84, .inl tw)), (tt 3, .inr (5, [.ref (tt 4)])), (tt 4, .inl (dA 0, 84, .inl tp)), (tt 5, .inr (5, [.ref (tt 6)])), (tt 6, .inl (dA 0, 84, .inl tx))] sz)) (va_Qv (fun (u : Unit) => True) (fun u t => va_P D vwCl [(tt 0, .inr (9, [.ref (tt 1), .ref (tt 3), .ref (tt 5), .int (nI (kpt tw p0 nm))])), (tt 1, .inr (5, [.ref (tt 2)])), (tt 2, .inl (dA 0, 84, .inl (cmp tw p0 tw tw nm))), (tt 3, .inr (5, [.ref (tt 4)])), (tt 4, .inl (dA 0, 84, .inl (cmp tw p0 tp tp nm))), (tt 5, .inr (5, [.ref (tt 6)])), (tt 6, .inl (dA 0, 84, .inl (cmp tw p0 tx tx nm)))] t.heap ∧ va_D (va_A [(tt 0, .inr (9, [.ref (tt 1), .ref (tt 3), .ref (tt 5), .int (nI nm)])), (tt 1, .inr (5, [.ref (tt 2)])), (tt 2, .inl (dA 0, 84, .inl tw)), (tt 3, .inr (5, [.ref (tt 4)])), (tt 4, .inl (dA 0, 84, .inl tp)), (tt 5, .inr (5, [.ref (tt 6)])), (tt 6, .inl (dA 0, 84, .inl tx))] sz) [(tt 0, .inr (9, [.ref (tt 1), .ref (tt 3), .ref (tt 5), .int (nI (kpt tw p0 nm))])), (tt 1, .inr (5, [.ref (tt 2)])), (tt 2, .inl (dA 0, 84, .inl (cmp tw p0 tw tw nm))), (tt 3, .inr (5, [.ref (tt 4)])), (tt 4, .inl (dA 0, 84, .inl (cmp tw p0 tp tp nm))), (tt 5, .inr (5, [.ref (tt 6)])), (tt 6, .inl (dA 0, 84, .inl (cmp tw p0 tx tx nm)))]) (va_A [(tt 0, .inr (9, [.ref (tt 1), .ref (tt 3), .ref (tt 5), .int (nI nm)])), (tt 1, .inr (5, [.ref (tt 2)])), (tt 2, .inl (dA 0, 84, .inl tw)), (tt 3, .inr (5, [.ref (tt 4)])), (tt 4, .inl (dA 0, 84, .inl tp)), (tt 5, .inr (5, [.ref (tt 6)])), (tt 6, .inl (dA 0, 84, .inl tx))] sz)) 0 0 (va_A [(tt 0, .inr (9, [.ref (tt 1), .ref (tt 3), .ref (tt 5), .int (nI nm)])), (tt 1, .inr (5, [.ref (tt 2)])), (tt 2, .inl (dA 0, 84, .inl tw)), (tt 3, .inr (5, [.ref (tt 4)])), (tt 4, .inl (dA 0, 84, .inl tp)), (tt 5, .inr (5, [.ref (tt 6)])), (tt 6, .inl (dA 0, 84, .inl tx))] sz) := by
  refine mb_of (Qc := fun A => va_Qv (fun (u : Unit) => True) (fun u t => va_P D vwCl [(tt 0, .inr (9, [.ref (tt 1), .ref (tt 3), .ref (tt 5), .int (nI (kpt tw p0 nm))])), (tt 1, .inr (5, [.ref (tt 2)])), (tt 2, .inl (dA 0, 84, .inl (cmp tw p0 tw tw nm))), (tt 3, .inr (5, [.ref (tt 4)])), (tt 4, .inl (dA 0, 84, .inl (cmp tw p0 tp tp nm))), (tt 5, .inr (5, [.ref (tt 6)])), (tt 6, .inl (dA 0, 84, .inl (cmp tw p0 tx tx nm)))] t.heap ∧ va_D A [(tt 0, .inr (9, [.ref (tt 1), .ref (tt 3), .ref (tt 5), .int (nI (kpt tw p0 nm))])), (tt 1, .inr (5, [.ref (tt 2)])), (tt 2, .inl (dA 0, 84, .inl (cmp tw p0 tw tw nm))), (tt 3, .inr (5, [.ref (tt 4)])), (tt 4, .inl (dA 0, 84, .inl (cmp tw p0 tp tp nm))), (tt 5, .inr (5, [.ref (tt 6)])), (tt 6, .inl (dA 0, 84, .inl (cmp tw p0 tx tx nm)))]) A) RX6 rfl (by decide) (Nat.le_of_ble_eq_true rfl) ?_
  intro p e s m args below meth c hae hx hb hr hts hown hlocks hml hnm hP hK A hAe hD hZ hS hA ls hl
  replace hl : lv_has ls 4 [(0, .ref (tt 0)), (1, .int p0)] := hl
  refine lv_iconst (v := 0) hx hb dX6_takeOut_0 (by decide) ?_
  refine lv_istore_n (lv' := [(2, .int 0), (0, .ref (tt 0)), (1, .int p0)]) hx hb dX6_takeOut_1 rfl hl (by decide) rfl (fun ls hl => ?_)
  refine lv_iconst (v := 0) hx hb dX6_takeOut_2 (by decide) ?_
  refine lv_istore_n (lv' := [(3, .int 0), (2, .int 0), (0, .ref (tt 0)), (1, .int p0)]) hx hb dX6_takeOut_3 rfl hl (by decide) rfl (fun ls hl => ?_)
  have K4 : ∀ (k4 i4 : Nat) (g4_0 : Nat → Int32) (g4_1 : Nat → Int32) (g4_2 : Nat → Int32) (g4_3 : Int32), 0 ≤ i4 → i4 ≤ nm → nm < i4 + k4 → (g4_0 = cmp tw p0 tw tw i4) ∧ (g4_1 = cmp tw p0 tp tp i4) ∧ (g4_2 = cmp tw p0 tx tx i4) ∧ (g4_3 = nI (kpt tw p0 i4)) → ∀ (H : Heap) (locs : List Loc), va_P D vwCl [(tt 0, .inr (9, [.ref (tt 1), .ref (tt 3), .ref (tt 5), .int (nI nm)])), (tt 1, .inr (5, [.ref (tt 2)])), (tt 2, .inl (dA 0, 84, .inl g4_0)), (tt 3, .inr (5, [.ref (tt 4)])), (tt 4, .inl (dA 0, 84, .inl g4_1)), (tt 5, .inr (5, [.ref (tt 6)])), (tt 6, .inl (dA 0, 84, .inl g4_2))] H → va_D A [(tt 0, .inr (9, [.ref (tt 1), .ref (tt 3), .ref (tt 5), .int (nI nm)])), (tt 1, .inr (5, [.ref (tt 2)])), (tt 2, .inl (dA 0, 84, .inl g4_0)), (tt 3, .inr (5, [.ref (tt 4)])), (tt 4, .inl (dA 0, 84, .inl g4_1)), (tt 5, .inr (5, [.ref (tt 6)])), (tt 6, .inl (dA 0, 84, .inl g4_2))] → va_S A s.heap H locs → ∀ ls : Array Slot, lv_has ls 4 [(3, .int (nI i4)), (2, .int g4_3), (0, .ref (tt 0)), (1, .int p0)] → W p l e { frames := 1, cells := 0, slots := 0, locals := 22 } s m args below meth c H locs 0 0 (MQ below (va_Qv (fun (u : Unit) => True) (fun u t => va_P D vwCl [(tt 0, .inr (9, [.ref (tt 1), .ref (tt 3), .ref (tt 5), .int (nI (kpt tw p0 nm))])), (tt 1, .inr (5, [.ref (tt 2)])), (tt 2, .inl (dA 0, 84, .inl (cmp tw p0 tw tw nm))), (tt 3, .inr (5, [.ref (tt 4)])), (tt 4, .inl (dA 0, 84, .inl (cmp tw p0 tp tp nm))), (tt 5, .inr (5, [.ref (tt 6)])), (tt 6, .inl (dA 0, 84, .inl (cmp tw p0 tx tx nm)))] t.heap ∧ va_D A [(tt 0, .inr (9, [.ref (tt 1), .ref (tt 3), .ref (tt 5), .int (nI (kpt tw p0 nm))])), (tt 1, .inr (5, [.ref (tt 2)])), (tt 2, .inl (dA 0, 84, .inl (cmp tw p0 tw tw nm))), (tt 3, .inr (5, [.ref (tt 4)])), (tt 4, .inl (dA 0, 84, .inl (cmp tw p0 tp tp nm))), (tt 5, .inr (5, [.ref (tt 6)])), (tt 6, .inl (dA 0, 84, .inl (cmp tw p0 tx tx nm)))]) A) args s 0 0 A) (F0 m 4 ls []) := by
    intro k4
    induction k4 with
    | zero => intro i4 g4_0 g4_1 g4_2 g4_3 h1 h2 h3; exact absurd h3 (by omega)
    | succ k4 ih4 =>
      intro i4 g4_0 g4_1 g4_2 g4_3 hlo4 hhi4 hms4 hinv4 H locs hP hD hS ls hl
      obtain ⟨eg4_0, eg4_1, eg4_2, eg4_3⟩ := hinv4
      subst eg4_0
      subst eg4_1
      subst eg4_2
      subst eg4_3
      have hkp := kpt_le tw p0 i4
      refine lv_iload_n hx hb dX6_takeOut_4 rfl (lv_at hl 0 rfl) ?_
      refine lv_aload_n hx hb dX6_takeOut_5 rfl (lv_at hl 2 rfl) ?_
      refine va_get (D := D) (ci := 9) (v := .int (nI nm)) (C := RX6) (T := TX6) (N := 4) hx hb hts inAX6 hown hK hP 0 rfl rfl 3 (by decide) (hts _ q205) (fun _ h9 => h9) rfl dX6_takeOut_6 ?_
      refine lv_icmp_ge (tgt := 84) hx hb dX6_takeOut_9 (by decide) (fun c1 => ?_) (fun c1 => ?_)
      · replace c1 := (nI_leI (a := nm) (b := i4) (by omega) (by omega)).mp c1
        obtain rfl : nm = i4 := (by omega)
        replace hP : va_P D vwCl [(tt 0, .inr (9, [.ref (tt 1), .ref (tt 3), .ref (tt 5), .int (nI nm)])), (tt 1, .inr (5, [.ref (tt 2)])), (tt 2, .inl (dA 0, 84, .inl (cmp tw p0 tw tw nm))), (tt 3, .inr (5, [.ref (tt 4)])), (tt 4, .inl (dA 0, 84, .inl (cmp tw p0 tp tp nm))), (tt 5, .inr (5, [.ref (tt 6)])), (tt 6, .inl (dA 0, 84, .inl (cmp tw p0 tx tx nm)))] H := hP
        replace hD : va_D A [(tt 0, .inr (9, [.ref (tt 1), .ref (tt 3), .ref (tt 5), .int (nI nm)])), (tt 1, .inr (5, [.ref (tt 2)])), (tt 2, .inl (dA 0, 84, .inl (cmp tw p0 tw tw nm))), (tt 3, .inr (5, [.ref (tt 4)])), (tt 4, .inl (dA 0, 84, .inl (cmp tw p0 tp tp nm))), (tt 5, .inr (5, [.ref (tt 6)])), (tt 6, .inl (dA 0, 84, .inl (cmp tw p0 tx tx nm)))] := hD
        refine lv_aload_n hx hb dX6_takeOut_84 rfl (lv_at hl 2 rfl) ?_
        refine lv_iload_n hx hb dX6_takeOut_85 rfl (lv_at hl 1 rfl) ?_
        refine va_put (D := D) (ci := 9) (v := .int (nI (kpt tw p0 nm))) (ty := .int) (C := RX6) (T := TX6) (N := 4) hx hb hts inAX6 tyX6 tyX6_ok nmX6 hown hK hP hD hS 0 rfl rfl 3 (by decide) (hts _ q205) (fun _ h9 => h9) rfl (tyX6_ok 3 (by decide)) rfl rfl (Nat.le_of_ble_eq_true rfl) dX6_takeOut_86 (fun H locs hP hD hS => ?_)
        replace hP : va_P D vwCl [(tt 0, .inr (9, [.ref (tt 1), .ref (tt 3), .ref (tt 5), .int (nI (kpt tw p0 nm))])), (tt 1, .inr (5, [.ref (tt 2)])), (tt 2, .inl (dA 0, 84, .inl (cmp tw p0 tw tw nm))), (tt 3, .inr (5, [.ref (tt 4)])), (tt 4, .inl (dA 0, 84, .inl (cmp tw p0 tp tp nm))), (tt 5, .inr (5, [.ref (tt 6)])), (tt 6, .inl (dA 0, 84, .inl (cmp tw p0 tx tx nm)))] H := hP
        replace hD : va_D A [(tt 0, .inr (9, [.ref (tt 1), .ref (tt 3), .ref (tt 5), .int (nI (kpt tw p0 nm))])), (tt 1, .inr (5, [.ref (tt 2)])), (tt 2, .inl (dA 0, 84, .inl (cmp tw p0 tw tw nm))), (tt 3, .inr (5, [.ref (tt 4)])), (tt 4, .inl (dA 0, 84, .inl (cmp tw p0 tp tp nm))), (tt 5, .inr (5, [.ref (tt 6)])), (tt 6, .inl (dA 0, 84, .inl (cmp tw p0 tx tx nm)))] := hD
        refine W.widen (k := 0) (n := 0) (Nat.le_of_ble_eq_true rfl) (Nat.le_of_ble_eq_true rfl) ?_
        have hP9 := hP.sub (ws' := [(tt 0, .inr (9, [.ref (tt 1), .ref (tt 3), .ref (tt 5), .int (nI (kpt tw p0 nm))])), (tt 1, .inr (5, [.ref (tt 2)])), (tt 2, .inl (dA 0, 84, .inl (cmp tw p0 tw tw nm))), (tt 3, .inr (5, [.ref (tt 4)])), (tt 4, .inl (dA 0, 84, .inl (cmp tw p0 tp tp nm))), (tt 5, .inr (5, [.ref (tt 6)])), (tt 6, .inl (dA 0, 84, .inl (cmp tw p0 tx tx nm)))]) [0, 1, 2, 3, 4, 5, 6] rfl
        have hD9 := hD.sub (ws' := [(tt 0, .inr (9, [.ref (tt 1), .ref (tt 3), .ref (tt 5), .int (nI (kpt tw p0 nm))])), (tt 1, .inr (5, [.ref (tt 2)])), (tt 2, .inl (dA 0, 84, .inl (cmp tw p0 tw tw nm))), (tt 3, .inr (5, [.ref (tt 4)])), (tt 4, .inl (dA 0, 84, .inl (cmp tw p0 tp tp nm))), (tt 5, .inr (5, [.ref (tt 6)])), (tt 6, .inl (dA 0, 84, .inl (cmp tw p0 tx tx nm)))]) [0, 1, 2, 3, 4, 5, 6] (by decide) rfl
        exact W.vret hx hb hr (fun t ht hW => ⟨⟨(), rfl, trivial, ⟨by rw [ht]; exact hP9, hD9⟩⟩, hS.F ht⟩) hS.2.2 dX6_takeOut_89
      · replace c1 := mt (nI_leI (a := nm) (b := i4) (by omega) (by omega)).mpr c1
        refine lv_aload_n hx hb dX6_takeOut_12 rfl (lv_at hl 2 rfl) ?_
        refine va_get (D := D) (ci := 9) (v := .ref (tt 1)) (C := RX6) (T := TX6) (N := 4) hx hb hts inAX6 hown hK hP 0 rfl rfl 0 (by decide) (hts _ q206) (fun _ h9 => h9) rfl dX6_takeOut_13 ?_
        refine lv_iload_n hx hb dX6_takeOut_16 rfl (lv_at hl 0 rfl) ?_
        replace hPc := hP.sub (ws' := [(tt 1, .inr (5, [.ref (tt 2)])), (tt 2, .inl (dA 0, 84, .inl (cmp tw p0 tw tw i4)))]) [1, 2] rfl
        replace hDc := hD.sub (ws' := [(tt 1, .inr (5, [.ref (tt 2)])), (tt 2, .inl (dA 0, 84, .inl (cmp tw p0 tw tw i4)))]) [1, 2] (by decide) rfl
        replace hFc := va_free (wc := [(tt 1, .inr (5, [.ref (tt 2)])), (tt 2, .inl (dA 0, 84, .inl (cmp tw p0 tw tw i4)))]) hD hS hA [1, 2] rfl
        refine va_calli (va_runV (As := [.int (nI i4)]) (rest := []) ⟨hx, hb, hml, hown, hts⟩ (t_getN l D dA E (tt 1) (tt 2) 84 (cmp tw p0 tw tw i4) i4 H.size  (by omega) (by decide)) (cwV 1 hts (ga_V q213 q203 q200 q204 q201) rfl rfl rfl (by decide +kernel) ⟨(Nat.le_of_ble_eq_true rfl), (Nat.le_of_ble_eq_true rfl)⟩) ⟨pb_blind, va_recv hK hPc (ci := 5) (q0 := 0) rfl rfl, pb_pre hK hPc hDc hZ hS hFc _⟩ rfl rfl hl.1 rfl (lv_room (Nat.le_of_ble_eq_true rfl)) dX6_takeOut_17 ⟨(Nat.le_of_ble_eq_true rfl), (Nat.le_of_ble_eq_true rfl)⟩) hS (fun q _ h => hFc q h) hFc (fun r u t H1 locs ht hvm hw hB hz1 hk1 hS => ?_)
        refine W.widen (k := 0) (n := 0) (Nat.le_of_ble_eq_true rfl) (Nat.le_of_ble_eq_true rfl) ?_
        obtain ⟨r2, rfl⟩ : ∃ z, z = r := ⟨_, rfl⟩
        obtain ⟨u3, rfl⟩ : ∃ z, z = u := ⟨_, rfl⟩
        have hw4 := hw
        clear hw
        obtain ⟨hP1, hD1⟩ := hB
        rw [ht] at hP1
        obtain ⟨hP, hD⟩ := va_join (wr := [(tt 0, .inr (9, [.ref (tt 1), .ref (tt 3), .ref (tt 5), .int (nI nm)])), (tt 3, .inr (5, [.ref (tt 4)])), (tt 4, .inl (dA 0, 84, .inl (cmp tw p0 tp tp i4))), (tt 5, .inr (5, [.ref (tt 6)])), (tt 6, .inl (dA 0, 84, .inl (cmp tw p0 tx tx i4)))]) (w1 := [(tt 1, .inr (5, [.ref (tt 2)])), (tt 2, .inl (dA 0, 84, .inl (cmp tw p0 tw tw i4)))]) hP hD [1, 2] [0, 3, 4, 5, 6] rfl rfl (by decide) (by decide) hk1 hFc hP1 hD1
        generalize H1 = H at hP hS ⊢
        replace hP : va_P D vwCl [(tt 0, .inr (9, [.ref (tt 1), .ref (tt 3), .ref (tt 5), .int (nI nm)])), (tt 3, .inr (5, [.ref (tt 4)])), (tt 4, .inl (dA 0, 84, .inl (cmp tw p0 tp tp i4))), (tt 5, .inr (5, [.ref (tt 6)])), (tt 6, .inl (dA 0, 84, .inl (cmp tw p0 tx tx i4))), (tt 1, .inr (5, [.ref (tt 2)])), (tt 2, .inl (dA 0, 84, .inl (cmp tw p0 tw tw i4)))] H := hP
        replace hD : va_D A [(tt 0, .inr (9, [.ref (tt 1), .ref (tt 3), .ref (tt 5), .int (nI nm)])), (tt 3, .inr (5, [.ref (tt 4)])), (tt 4, .inl (dA 0, 84, .inl (cmp tw p0 tp tp i4))), (tt 5, .inr (5, [.ref (tt 6)])), (tt 6, .inl (dA 0, 84, .inl (cmp tw p0 tx tx i4))), (tt 1, .inr (5, [.ref (tt 2)])), (tt 2, .inl (dA 0, 84, .inl (cmp tw p0 tw tw i4)))] := hD
        obtain rfl : r2 = tw i4 := (show r2 = (cmp tw p0 tw tw i4) i4 from hw4).trans (cmp_at (Nat.le_refl _))
        refine lv_iload_n hx hb dX6_takeOut_20 rfl (lv_at hl 3 rfl) ?_
        refine lv_icmp_ne (tgt := 27) hx hb dX6_takeOut_21 (by decide) (fun c5 => ?_) (fun c5 => ?_)
        · refine lv_aload_n hx hb dX6_takeOut_27 rfl (lv_at hl 2 rfl) ?_
          refine va_get (D := D) (ci := 9) (v := .ref (tt 1)) (C := RX6) (T := TX6) (N := 4) hx hb hts inAX6 hown hK hP 0 rfl rfl 0 (by decide) (hts _ q206) (fun _ h9 => h9) rfl dX6_takeOut_28 ?_
          refine lv_iload_n hx hb dX6_takeOut_31 rfl (lv_at hl 1 rfl) ?_
          refine lv_aload_n hx hb dX6_takeOut_32 rfl (lv_at hl 2 rfl) ?_
          refine va_get (D := D) (ci := 9) (v := .ref (tt 1)) (C := RX6) (T := TX6) (N := 4) hx hb hts inAX6 hown hK hP 0 rfl rfl 0 (by decide) (hts _ q206) (fun _ h9 => h9) rfl dX6_takeOut_33 ?_
          refine lv_iload_n hx hb dX6_takeOut_36 rfl (lv_at hl 0 rfl) ?_
          replace hPc := hP.sub (ws' := [(tt 1, .inr (5, [.ref (tt 2)])), (tt 2, .inl (dA 0, 84, .inl (cmp tw p0 tw tw i4)))]) [5, 6] rfl
          replace hDc := hD.sub (ws' := [(tt 1, .inr (5, [.ref (tt 2)])), (tt 2, .inl (dA 0, 84, .inl (cmp tw p0 tw tw i4)))]) [5, 6] (by decide) rfl
          replace hFc := va_free (wc := [(tt 1, .inr (5, [.ref (tt 2)])), (tt 2, .inl (dA 0, 84, .inl (cmp tw p0 tw tw i4)))]) hD hS hA [5, 6] rfl
          refine va_calli (va_runV (As := [.int (nI i4)]) (rest := [.int (nI (kpt tw p0 i4)), .ref (tt 1)]) ⟨hx, hb, hml, hown, hts⟩ (t_getN l D dA E (tt 1) (tt 2) 84 (cmp tw p0 tw tw i4) i4 H.size  (by omega) (by decide)) (cwV 1 hts (ga_V q213 q203 q200 q204 q201) rfl rfl rfl (by decide +kernel) ⟨(Nat.le_of_ble_eq_true rfl), (Nat.le_of_ble_eq_true rfl)⟩) ⟨pb_blind, va_recv hK hPc (ci := 5) (q0 := 0) rfl rfl, pb_pre hK hPc hDc hZ hS hFc _⟩ rfl rfl hl.1 rfl (lv_room (Nat.le_of_ble_eq_true rfl)) dX6_takeOut_37 ⟨(Nat.le_of_ble_eq_true rfl), (Nat.le_of_ble_eq_true rfl)⟩) hS (fun q _ h => hFc q h) hFc (fun r u t H1 locs ht hvm hw hB hz1 hk1 hS => ?_)
          refine W.widen (k := 0) (n := 0) (Nat.le_of_ble_eq_true rfl) (Nat.le_of_ble_eq_true rfl) ?_
          obtain ⟨r6, rfl⟩ : ∃ z, z = r := ⟨_, rfl⟩
          obtain ⟨u7, rfl⟩ : ∃ z, z = u := ⟨_, rfl⟩
          have hw8 := hw
          clear hw
          obtain ⟨hP1, hD1⟩ := hB
          rw [ht] at hP1
          obtain ⟨hP, hD⟩ := va_join (wr := [(tt 0, .inr (9, [.ref (tt 1), .ref (tt 3), .ref (tt 5), .int (nI nm)])), (tt 3, .inr (5, [.ref (tt 4)])), (tt 4, .inl (dA 0, 84, .inl (cmp tw p0 tp tp i4))), (tt 5, .inr (5, [.ref (tt 6)])), (tt 6, .inl (dA 0, 84, .inl (cmp tw p0 tx tx i4)))]) (w1 := [(tt 1, .inr (5, [.ref (tt 2)])), (tt 2, .inl (dA 0, 84, .inl (cmp tw p0 tw tw i4)))]) hP hD [5, 6] [0, 1, 2, 3, 4] rfl rfl (by decide) (by decide) hk1 hFc hP1 hD1
          generalize H1 = H at hP hS ⊢
          replace hP : va_P D vwCl [(tt 0, .inr (9, [.ref (tt 1), .ref (tt 3), .ref (tt 5), .int (nI nm)])), (tt 3, .inr (5, [.ref (tt 4)])), (tt 4, .inl (dA 0, 84, .inl (cmp tw p0 tp tp i4))), (tt 5, .inr (5, [.ref (tt 6)])), (tt 6, .inl (dA 0, 84, .inl (cmp tw p0 tx tx i4))), (tt 1, .inr (5, [.ref (tt 2)])), (tt 2, .inl (dA 0, 84, .inl (cmp tw p0 tw tw i4)))] H := hP
          replace hD : va_D A [(tt 0, .inr (9, [.ref (tt 1), .ref (tt 3), .ref (tt 5), .int (nI nm)])), (tt 3, .inr (5, [.ref (tt 4)])), (tt 4, .inl (dA 0, 84, .inl (cmp tw p0 tp tp i4))), (tt 5, .inr (5, [.ref (tt 6)])), (tt 6, .inl (dA 0, 84, .inl (cmp tw p0 tx tx i4))), (tt 1, .inr (5, [.ref (tt 2)])), (tt 2, .inl (dA 0, 84, .inl (cmp tw p0 tw tw i4)))] := hD
          obtain rfl : r6 = tw i4 := (show r6 = (cmp tw p0 tw tw i4) i4 from hw8).trans (cmp_at (Nat.le_refl _))
          replace hPc := hP.sub (ws' := [(tt 1, .inr (5, [.ref (tt 2)])), (tt 2, .inl (dA 0, 84, .inl (cmp tw p0 tw tw i4)))]) [5, 6] rfl
          replace hDc := hD.sub (ws' := [(tt 1, .inr (5, [.ref (tt 2)])), (tt 2, .inl (dA 0, 84, .inl (cmp tw p0 tw tw i4)))]) [5, 6] (by decide) rfl
          replace hFc := va_free (wc := [(tt 1, .inr (5, [.ref (tt 2)])), (tt 2, .inl (dA 0, 84, .inl (cmp tw p0 tw tw i4)))]) hD hS hA [5, 6] rfl
          refine va_callv (va_runV (As := [.int (nI (kpt tw p0 i4)), .int (tw i4)]) (rest := []) ⟨hx, hb, hml, hown, hts⟩ (t_putN l D dA E (tt 1) (tt 2) 84 (cmp tw p0 tw tw i4) (kpt tw p0 i4) (tw i4) H.size  (by omega) (by decide)) (cwV 2 hts (ga_V q209 q210 q207 q204 q208) rfl rfl rfl (by decide +kernel) ⟨(Nat.le_of_ble_eq_true rfl), (Nat.le_of_ble_eq_true rfl)⟩) ⟨pb_blind, va_recv hK hPc (ci := 5) (q0 := 0) rfl rfl, pb_pre hK hPc hDc hZ hS hFc _⟩ rfl rfl hl.1 rfl (lv_room (Nat.le_of_ble_eq_true rfl)) dX6_takeOut_40 ⟨(Nat.le_of_ble_eq_true rfl), (Nat.le_of_ble_eq_true rfl)⟩) hS (fun q _ h => hFc q h) hFc (fun u t H1 locs ht hvm hw hB hz1 hk1 hS => ?_)
          refine W.widen (k := 0) (n := 0) (Nat.le_of_ble_eq_true rfl) (Nat.le_of_ble_eq_true rfl) ?_
          obtain ⟨u9, rfl⟩ : ∃ z, z = u := ⟨_, rfl⟩
          have hw10 := hw
          clear hw
          obtain ⟨hP1, hD1⟩ := hB
          rw [ht] at hP1
          obtain ⟨hP, hD⟩ := va_join (wr := [(tt 0, .inr (9, [.ref (tt 1), .ref (tt 3), .ref (tt 5), .int (nI nm)])), (tt 3, .inr (5, [.ref (tt 4)])), (tt 4, .inl (dA 0, 84, .inl (cmp tw p0 tp tp i4))), (tt 5, .inr (5, [.ref (tt 6)])), (tt 6, .inl (dA 0, 84, .inl (cmp tw p0 tx tx i4)))]) (w1 := [(tt 1, .inr (5, [.ref (tt 2)])), (tt 2, .inl (dA 0, 84, .inl (upd (cmp tw p0 tw tw i4) (kpt tw p0 i4) (tw i4))))]) hP hD [5, 6] [0, 1, 2, 3, 4] rfl rfl (by decide) (by decide) hk1 hFc hP1 hD1
          generalize H1 = H at hP hS ⊢
          replace hP : va_P D vwCl [(tt 0, .inr (9, [.ref (tt 1), .ref (tt 3), .ref (tt 5), .int (nI nm)])), (tt 3, .inr (5, [.ref (tt 4)])), (tt 4, .inl (dA 0, 84, .inl (cmp tw p0 tp tp i4))), (tt 5, .inr (5, [.ref (tt 6)])), (tt 6, .inl (dA 0, 84, .inl (cmp tw p0 tx tx i4))), (tt 1, .inr (5, [.ref (tt 2)])), (tt 2, .inl (dA 0, 84, .inl (upd (cmp tw p0 tw tw i4) (kpt tw p0 i4) (tw i4))))] H := hP
          replace hD : va_D A [(tt 0, .inr (9, [.ref (tt 1), .ref (tt 3), .ref (tt 5), .int (nI nm)])), (tt 3, .inr (5, [.ref (tt 4)])), (tt 4, .inl (dA 0, 84, .inl (cmp tw p0 tp tp i4))), (tt 5, .inr (5, [.ref (tt 6)])), (tt 6, .inl (dA 0, 84, .inl (cmp tw p0 tx tx i4))), (tt 1, .inr (5, [.ref (tt 2)])), (tt 2, .inl (dA 0, 84, .inl (upd (cmp tw p0 tw tw i4) (kpt tw p0 i4) (tw i4))))] := hD
          refine lv_aload_n hx hb dX6_takeOut_43 rfl (lv_at hl 2 rfl) ?_
          refine va_get (D := D) (ci := 9) (v := .ref (tt 3)) (C := RX6) (T := TX6) (N := 4) hx hb hts inAX6 hown hK hP 0 rfl rfl 1 (by decide) (hts _ q211) (fun _ h9 => h9) rfl dX6_takeOut_44 ?_
          refine lv_iload_n hx hb dX6_takeOut_47 rfl (lv_at hl 1 rfl) ?_
          refine lv_aload_n hx hb dX6_takeOut_48 rfl (lv_at hl 2 rfl) ?_
          refine va_get (D := D) (ci := 9) (v := .ref (tt 3)) (C := RX6) (T := TX6) (N := 4) hx hb hts inAX6 hown hK hP 0 rfl rfl 1 (by decide) (hts _ q211) (fun _ h9 => h9) rfl dX6_takeOut_49 ?_
          refine lv_iload_n hx hb dX6_takeOut_52 rfl (lv_at hl 0 rfl) ?_
          replace hPc := hP.sub (ws' := [(tt 3, .inr (5, [.ref (tt 4)])), (tt 4, .inl (dA 0, 84, .inl (cmp tw p0 tp tp i4)))]) [1, 2] rfl
          replace hDc := hD.sub (ws' := [(tt 3, .inr (5, [.ref (tt 4)])), (tt 4, .inl (dA 0, 84, .inl (cmp tw p0 tp tp i4)))]) [1, 2] (by decide) rfl
          replace hFc := va_free (wc := [(tt 3, .inr (5, [.ref (tt 4)])), (tt 4, .inl (dA 0, 84, .inl (cmp tw p0 tp tp i4)))]) hD hS hA [1, 2] rfl
          refine va_calli (va_runV (As := [.int (nI i4)]) (rest := [.int (nI (kpt tw p0 i4)), .ref (tt 3)]) ⟨hx, hb, hml, hown, hts⟩ (t_getN l D dA E (tt 3) (tt 4) 84 (cmp tw p0 tp tp i4) i4 H.size  (by omega) (by decide)) (cwV 1 hts (ga_V q213 q203 q200 q204 q201) rfl rfl rfl (by decide +kernel) ⟨(Nat.le_of_ble_eq_true rfl), (Nat.le_of_ble_eq_true rfl)⟩) ⟨pb_blind, va_recv hK hPc (ci := 5) (q0 := 0) rfl rfl, pb_pre hK hPc hDc hZ hS hFc _⟩ rfl rfl hl.1 rfl (lv_room (Nat.le_of_ble_eq_true rfl)) dX6_takeOut_53 ⟨(Nat.le_of_ble_eq_true rfl), (Nat.le_of_ble_eq_true rfl)⟩) hS (fun q _ h => hFc q h) hFc (fun r u t H1 locs ht hvm hw hB hz1 hk1 hS => ?_)
          refine W.widen (k := 0) (n := 0) (Nat.le_of_ble_eq_true rfl) (Nat.le_of_ble_eq_true rfl) ?_
          obtain ⟨r11, rfl⟩ : ∃ z, z = r := ⟨_, rfl⟩
          obtain ⟨u12, rfl⟩ : ∃ z, z = u := ⟨_, rfl⟩
          have hw13 := hw
          clear hw
          obtain ⟨hP1, hD1⟩ := hB
          rw [ht] at hP1
          obtain ⟨hP, hD⟩ := va_join (wr := [(tt 0, .inr (9, [.ref (tt 1), .ref (tt 3), .ref (tt 5), .int (nI nm)])), (tt 5, .inr (5, [.ref (tt 6)])), (tt 6, .inl (dA 0, 84, .inl (cmp tw p0 tx tx i4))), (tt 1, .inr (5, [.ref (tt 2)])), (tt 2, .inl (dA 0, 84, .inl (upd (cmp tw p0 tw tw i4) (kpt tw p0 i4) (tw i4))))]) (w1 := [(tt 3, .inr (5, [.ref (tt 4)])), (tt 4, .inl (dA 0, 84, .inl (cmp tw p0 tp tp i4)))]) hP hD [1, 2] [0, 3, 4, 5, 6] rfl rfl (by decide) (by decide) hk1 hFc hP1 hD1
          generalize H1 = H at hP hS ⊢
          replace hP : va_P D vwCl [(tt 0, .inr (9, [.ref (tt 1), .ref (tt 3), .ref (tt 5), .int (nI nm)])), (tt 5, .inr (5, [.ref (tt 6)])), (tt 6, .inl (dA 0, 84, .inl (cmp tw p0 tx tx i4))), (tt 1, .inr (5, [.ref (tt 2)])), (tt 2, .inl (dA 0, 84, .inl (upd (cmp tw p0 tw tw i4) (kpt tw p0 i4) (tw i4)))), (tt 3, .inr (5, [.ref (tt 4)])), (tt 4, .inl (dA 0, 84, .inl (cmp tw p0 tp tp i4)))] H := hP
          replace hD : va_D A [(tt 0, .inr (9, [.ref (tt 1), .ref (tt 3), .ref (tt 5), .int (nI nm)])), (tt 5, .inr (5, [.ref (tt 6)])), (tt 6, .inl (dA 0, 84, .inl (cmp tw p0 tx tx i4))), (tt 1, .inr (5, [.ref (tt 2)])), (tt 2, .inl (dA 0, 84, .inl (upd (cmp tw p0 tw tw i4) (kpt tw p0 i4) (tw i4)))), (tt 3, .inr (5, [.ref (tt 4)])), (tt 4, .inl (dA 0, 84, .inl (cmp tw p0 tp tp i4)))] := hD
          obtain rfl : r11 = tp i4 := (show r11 = (cmp tw p0 tp tp i4) i4 from hw13).trans (cmp_at (Nat.le_refl _))
          replace hPc := hP.sub (ws' := [(tt 3, .inr (5, [.ref (tt 4)])), (tt 4, .inl (dA 0, 84, .inl (cmp tw p0 tp tp i4)))]) [5, 6] rfl
          replace hDc := hD.sub (ws' := [(tt 3, .inr (5, [.ref (tt 4)])), (tt 4, .inl (dA 0, 84, .inl (cmp tw p0 tp tp i4)))]) [5, 6] (by decide) rfl
          replace hFc := va_free (wc := [(tt 3, .inr (5, [.ref (tt 4)])), (tt 4, .inl (dA 0, 84, .inl (cmp tw p0 tp tp i4)))]) hD hS hA [5, 6] rfl
          refine va_callv (va_runV (As := [.int (nI (kpt tw p0 i4)), .int (tp i4)]) (rest := []) ⟨hx, hb, hml, hown, hts⟩ (t_putN l D dA E (tt 3) (tt 4) 84 (cmp tw p0 tp tp i4) (kpt tw p0 i4) (tp i4) H.size  (by omega) (by decide)) (cwV 2 hts (ga_V q209 q210 q207 q204 q208) rfl rfl rfl (by decide +kernel) ⟨(Nat.le_of_ble_eq_true rfl), (Nat.le_of_ble_eq_true rfl)⟩) ⟨pb_blind, va_recv hK hPc (ci := 5) (q0 := 0) rfl rfl, pb_pre hK hPc hDc hZ hS hFc _⟩ rfl rfl hl.1 rfl (lv_room (Nat.le_of_ble_eq_true rfl)) dX6_takeOut_56 ⟨(Nat.le_of_ble_eq_true rfl), (Nat.le_of_ble_eq_true rfl)⟩) hS (fun q _ h => hFc q h) hFc (fun u t H1 locs ht hvm hw hB hz1 hk1 hS => ?_)
          refine W.widen (k := 0) (n := 0) (Nat.le_of_ble_eq_true rfl) (Nat.le_of_ble_eq_true rfl) ?_
          obtain ⟨u14, rfl⟩ : ∃ z, z = u := ⟨_, rfl⟩
          have hw15 := hw
          clear hw
          obtain ⟨hP1, hD1⟩ := hB
          rw [ht] at hP1
          obtain ⟨hP, hD⟩ := va_join (wr := [(tt 0, .inr (9, [.ref (tt 1), .ref (tt 3), .ref (tt 5), .int (nI nm)])), (tt 5, .inr (5, [.ref (tt 6)])), (tt 6, .inl (dA 0, 84, .inl (cmp tw p0 tx tx i4))), (tt 1, .inr (5, [.ref (tt 2)])), (tt 2, .inl (dA 0, 84, .inl (upd (cmp tw p0 tw tw i4) (kpt tw p0 i4) (tw i4))))]) (w1 := [(tt 3, .inr (5, [.ref (tt 4)])), (tt 4, .inl (dA 0, 84, .inl (upd (cmp tw p0 tp tp i4) (kpt tw p0 i4) (tp i4))))]) hP hD [5, 6] [0, 1, 2, 3, 4] rfl rfl (by decide) (by decide) hk1 hFc hP1 hD1
          generalize H1 = H at hP hS ⊢
          replace hP : va_P D vwCl [(tt 0, .inr (9, [.ref (tt 1), .ref (tt 3), .ref (tt 5), .int (nI nm)])), (tt 5, .inr (5, [.ref (tt 6)])), (tt 6, .inl (dA 0, 84, .inl (cmp tw p0 tx tx i4))), (tt 1, .inr (5, [.ref (tt 2)])), (tt 2, .inl (dA 0, 84, .inl (upd (cmp tw p0 tw tw i4) (kpt tw p0 i4) (tw i4)))), (tt 3, .inr (5, [.ref (tt 4)])), (tt 4, .inl (dA 0, 84, .inl (upd (cmp tw p0 tp tp i4) (kpt tw p0 i4) (tp i4))))] H := hP
          replace hD : va_D A [(tt 0, .inr (9, [.ref (tt 1), .ref (tt 3), .ref (tt 5), .int (nI nm)])), (tt 5, .inr (5, [.ref (tt 6)])), (tt 6, .inl (dA 0, 84, .inl (cmp tw p0 tx tx i4))), (tt 1, .inr (5, [.ref (tt 2)])), (tt 2, .inl (dA 0, 84, .inl (upd (cmp tw p0 tw tw i4) (kpt tw p0 i4) (tw i4)))), (tt 3, .inr (5, [.ref (tt 4)])), (tt 4, .inl (dA 0, 84, .inl (upd (cmp tw p0 tp tp i4) (kpt tw p0 i4) (tp i4))))] := hD
          refine lv_aload_n hx hb dX6_takeOut_59 rfl (lv_at hl 2 rfl) ?_
          refine va_get (D := D) (ci := 9) (v := .ref (tt 5)) (C := RX6) (T := TX6) (N := 4) hx hb hts inAX6 hown hK hP 0 rfl rfl 2 (by decide) (hts _ q212) (fun _ h9 => h9) rfl dX6_takeOut_60 ?_
          refine lv_iload_n hx hb dX6_takeOut_63 rfl (lv_at hl 1 rfl) ?_
          refine lv_aload_n hx hb dX6_takeOut_64 rfl (lv_at hl 2 rfl) ?_
          refine va_get (D := D) (ci := 9) (v := .ref (tt 5)) (C := RX6) (T := TX6) (N := 4) hx hb hts inAX6 hown hK hP 0 rfl rfl 2 (by decide) (hts _ q212) (fun _ h9 => h9) rfl dX6_takeOut_65 ?_
          refine lv_iload_n hx hb dX6_takeOut_68 rfl (lv_at hl 0 rfl) ?_
          replace hPc := hP.sub (ws' := [(tt 5, .inr (5, [.ref (tt 6)])), (tt 6, .inl (dA 0, 84, .inl (cmp tw p0 tx tx i4)))]) [1, 2] rfl
          replace hDc := hD.sub (ws' := [(tt 5, .inr (5, [.ref (tt 6)])), (tt 6, .inl (dA 0, 84, .inl (cmp tw p0 tx tx i4)))]) [1, 2] (by decide) rfl
          replace hFc := va_free (wc := [(tt 5, .inr (5, [.ref (tt 6)])), (tt 6, .inl (dA 0, 84, .inl (cmp tw p0 tx tx i4)))]) hD hS hA [1, 2] rfl
          refine va_calli (va_runV (As := [.int (nI i4)]) (rest := [.int (nI (kpt tw p0 i4)), .ref (tt 5)]) ⟨hx, hb, hml, hown, hts⟩ (t_getN l D dA E (tt 5) (tt 6) 84 (cmp tw p0 tx tx i4) i4 H.size  (by omega) (by decide)) (cwV 1 hts (ga_V q213 q203 q200 q204 q201) rfl rfl rfl (by decide +kernel) ⟨(Nat.le_of_ble_eq_true rfl), (Nat.le_of_ble_eq_true rfl)⟩) ⟨pb_blind, va_recv hK hPc (ci := 5) (q0 := 0) rfl rfl, pb_pre hK hPc hDc hZ hS hFc _⟩ rfl rfl hl.1 rfl (lv_room (Nat.le_of_ble_eq_true rfl)) dX6_takeOut_69 ⟨(Nat.le_of_ble_eq_true rfl), (Nat.le_of_ble_eq_true rfl)⟩) hS (fun q _ h => hFc q h) hFc (fun r u t H1 locs ht hvm hw hB hz1 hk1 hS => ?_)
          refine W.widen (k := 0) (n := 0) (Nat.le_of_ble_eq_true rfl) (Nat.le_of_ble_eq_true rfl) ?_
          obtain ⟨r16, rfl⟩ : ∃ z, z = r := ⟨_, rfl⟩
          obtain ⟨u17, rfl⟩ : ∃ z, z = u := ⟨_, rfl⟩
          have hw18 := hw
          clear hw
          obtain ⟨hP1, hD1⟩ := hB
          rw [ht] at hP1
          obtain ⟨hP, hD⟩ := va_join (wr := [(tt 0, .inr (9, [.ref (tt 1), .ref (tt 3), .ref (tt 5), .int (nI nm)])), (tt 1, .inr (5, [.ref (tt 2)])), (tt 2, .inl (dA 0, 84, .inl (upd (cmp tw p0 tw tw i4) (kpt tw p0 i4) (tw i4)))), (tt 3, .inr (5, [.ref (tt 4)])), (tt 4, .inl (dA 0, 84, .inl (upd (cmp tw p0 tp tp i4) (kpt tw p0 i4) (tp i4))))]) (w1 := [(tt 5, .inr (5, [.ref (tt 6)])), (tt 6, .inl (dA 0, 84, .inl (cmp tw p0 tx tx i4)))]) hP hD [1, 2] [0, 3, 4, 5, 6] rfl rfl (by decide) (by decide) hk1 hFc hP1 hD1
          generalize H1 = H at hP hS ⊢
          replace hP : va_P D vwCl [(tt 0, .inr (9, [.ref (tt 1), .ref (tt 3), .ref (tt 5), .int (nI nm)])), (tt 1, .inr (5, [.ref (tt 2)])), (tt 2, .inl (dA 0, 84, .inl (upd (cmp tw p0 tw tw i4) (kpt tw p0 i4) (tw i4)))), (tt 3, .inr (5, [.ref (tt 4)])), (tt 4, .inl (dA 0, 84, .inl (upd (cmp tw p0 tp tp i4) (kpt tw p0 i4) (tp i4)))), (tt 5, .inr (5, [.ref (tt 6)])), (tt 6, .inl (dA 0, 84, .inl (cmp tw p0 tx tx i4)))] H := hP
          replace hD : va_D A [(tt 0, .inr (9, [.ref (tt 1), .ref (tt 3), .ref (tt 5), .int (nI nm)])), (tt 1, .inr (5, [.ref (tt 2)])), (tt 2, .inl (dA 0, 84, .inl (upd (cmp tw p0 tw tw i4) (kpt tw p0 i4) (tw i4)))), (tt 3, .inr (5, [.ref (tt 4)])), (tt 4, .inl (dA 0, 84, .inl (upd (cmp tw p0 tp tp i4) (kpt tw p0 i4) (tp i4)))), (tt 5, .inr (5, [.ref (tt 6)])), (tt 6, .inl (dA 0, 84, .inl (cmp tw p0 tx tx i4)))] := hD
          obtain rfl : r16 = tx i4 := (show r16 = (cmp tw p0 tx tx i4) i4 from hw18).trans (cmp_at (Nat.le_refl _))
          replace hPc := hP.sub (ws' := [(tt 5, .inr (5, [.ref (tt 6)])), (tt 6, .inl (dA 0, 84, .inl (cmp tw p0 tx tx i4)))]) [5, 6] rfl
          replace hDc := hD.sub (ws' := [(tt 5, .inr (5, [.ref (tt 6)])), (tt 6, .inl (dA 0, 84, .inl (cmp tw p0 tx tx i4)))]) [5, 6] (by decide) rfl
          replace hFc := va_free (wc := [(tt 5, .inr (5, [.ref (tt 6)])), (tt 6, .inl (dA 0, 84, .inl (cmp tw p0 tx tx i4)))]) hD hS hA [5, 6] rfl
          refine va_callv (va_runV (As := [.int (nI (kpt tw p0 i4)), .int (tx i4)]) (rest := []) ⟨hx, hb, hml, hown, hts⟩ (t_putN l D dA E (tt 5) (tt 6) 84 (cmp tw p0 tx tx i4) (kpt tw p0 i4) (tx i4) H.size  (by omega) (by decide)) (cwV 2 hts (ga_V q209 q210 q207 q204 q208) rfl rfl rfl (by decide +kernel) ⟨(Nat.le_of_ble_eq_true rfl), (Nat.le_of_ble_eq_true rfl)⟩) ⟨pb_blind, va_recv hK hPc (ci := 5) (q0 := 0) rfl rfl, pb_pre hK hPc hDc hZ hS hFc _⟩ rfl rfl hl.1 rfl (lv_room (Nat.le_of_ble_eq_true rfl)) dX6_takeOut_72 ⟨(Nat.le_of_ble_eq_true rfl), (Nat.le_of_ble_eq_true rfl)⟩) hS (fun q _ h => hFc q h) hFc (fun u t H1 locs ht hvm hw hB hz1 hk1 hS => ?_)
          refine W.widen (k := 0) (n := 0) (Nat.le_of_ble_eq_true rfl) (Nat.le_of_ble_eq_true rfl) ?_
          obtain ⟨u19, rfl⟩ : ∃ z, z = u := ⟨_, rfl⟩
          have hw20 := hw
          clear hw
          obtain ⟨hP1, hD1⟩ := hB
          rw [ht] at hP1
          obtain ⟨hP, hD⟩ := va_join (wr := [(tt 0, .inr (9, [.ref (tt 1), .ref (tt 3), .ref (tt 5), .int (nI nm)])), (tt 1, .inr (5, [.ref (tt 2)])), (tt 2, .inl (dA 0, 84, .inl (upd (cmp tw p0 tw tw i4) (kpt tw p0 i4) (tw i4)))), (tt 3, .inr (5, [.ref (tt 4)])), (tt 4, .inl (dA 0, 84, .inl (upd (cmp tw p0 tp tp i4) (kpt tw p0 i4) (tp i4))))]) (w1 := [(tt 5, .inr (5, [.ref (tt 6)])), (tt 6, .inl (dA 0, 84, .inl (upd (cmp tw p0 tx tx i4) (kpt tw p0 i4) (tx i4))))]) hP hD [5, 6] [0, 1, 2, 3, 4] rfl rfl (by decide) (by decide) hk1 hFc hP1 hD1
          generalize H1 = H at hP hS ⊢
          replace hP : va_P D vwCl [(tt 0, .inr (9, [.ref (tt 1), .ref (tt 3), .ref (tt 5), .int (nI nm)])), (tt 1, .inr (5, [.ref (tt 2)])), (tt 2, .inl (dA 0, 84, .inl (upd (cmp tw p0 tw tw i4) (kpt tw p0 i4) (tw i4)))), (tt 3, .inr (5, [.ref (tt 4)])), (tt 4, .inl (dA 0, 84, .inl (upd (cmp tw p0 tp tp i4) (kpt tw p0 i4) (tp i4)))), (tt 5, .inr (5, [.ref (tt 6)])), (tt 6, .inl (dA 0, 84, .inl (upd (cmp tw p0 tx tx i4) (kpt tw p0 i4) (tx i4))))] H := hP
          replace hD : va_D A [(tt 0, .inr (9, [.ref (tt 1), .ref (tt 3), .ref (tt 5), .int (nI nm)])), (tt 1, .inr (5, [.ref (tt 2)])), (tt 2, .inl (dA 0, 84, .inl (upd (cmp tw p0 tw tw i4) (kpt tw p0 i4) (tw i4)))), (tt 3, .inr (5, [.ref (tt 4)])), (tt 4, .inl (dA 0, 84, .inl (upd (cmp tw p0 tp tp i4) (kpt tw p0 i4) (tp i4)))), (tt 5, .inr (5, [.ref (tt 6)])), (tt 6, .inl (dA 0, 84, .inl (upd (cmp tw p0 tx tx i4) (kpt tw p0 i4) (tx i4))))] := hD
          refine lv_iinc (v := nI ((kpt tw p0 i4) + 1)) (lv' := [(2, .int (nI ((kpt tw p0 i4) + 1))), (3, .int (nI i4)), (0, .ref (tt 0)), (1, .int p0)]) hx hb dX6_takeOut_75 hl (k := 1) rfl (nI_add (kpt tw p0 i4) 1) (by decide) rfl (fun ls hl => ?_)
          refine lv_iinc (v := nI (i4 + 1)) (lv' := [(3, .int (nI (i4 + 1))), (2, .int (nI ((kpt tw p0 i4) + 1))), (0, .ref (tt 0)), (1, .int p0)]) hx hb dX6_takeOut_78 hl (k := 1) rfl (nI_add i4 1) (by decide) rfl (fun ls hl => ?_)
          refine lv_goto (tgt := 4) hx hb dX6_takeOut_81 (by decide) ?_
          exact ih4 (i4 + 1) (upd (cmp tw p0 tw tw i4) (kpt tw p0 i4) (tw i4)) (upd (cmp tw p0 tp tp i4) (kpt tw p0 i4) (tp i4)) (upd (cmp tw p0 tx tx i4) (kpt tw p0 i4) (tx i4)) (nI ((kpt tw p0 i4) + 1)) (by omega) (by omega) (by omega) ⟨(cmp_y c5), (cmp_y c5), (cmp_y c5), (kpt_y c5)⟩ _ _ hP hD hS ls (lv_sub hl [0, 1, 2, 3] rfl)
        · refine lv_goto (tgt := 78) hx hb dX6_takeOut_24 (by decide) ?_
          refine lv_iinc (v := nI (i4 + 1)) (lv' := [(3, .int (nI (i4 + 1))), (2, .int (nI (kpt tw p0 i4))), (0, .ref (tt 0)), (1, .int p0)]) hx hb dX6_takeOut_78 hl (k := 0) rfl (nI_add i4 1) (by decide) rfl (fun ls hl => ?_)
          refine lv_goto (tgt := 4) hx hb dX6_takeOut_81 (by decide) ?_
          replace hP := hP.sub (ws' := [(tt 0, .inr (9, [.ref (tt 1), .ref (tt 3), .ref (tt 5), .int (nI nm)])), (tt 1, .inr (5, [.ref (tt 2)])), (tt 2, .inl (dA 0, 84, .inl (cmp tw p0 tw tw i4))), (tt 3, .inr (5, [.ref (tt 4)])), (tt 4, .inl (dA 0, 84, .inl (cmp tw p0 tp tp i4))), (tt 5, .inr (5, [.ref (tt 6)])), (tt 6, .inl (dA 0, 84, .inl (cmp tw p0 tx tx i4)))]) [0, 5, 6, 1, 2, 3, 4] rfl
          replace hD := hD.sub (ws' := [(tt 0, .inr (9, [.ref (tt 1), .ref (tt 3), .ref (tt 5), .int (nI nm)])), (tt 1, .inr (5, [.ref (tt 2)])), (tt 2, .inl (dA 0, 84, .inl (cmp tw p0 tw tw i4))), (tt 3, .inr (5, [.ref (tt 4)])), (tt 4, .inl (dA 0, 84, .inl (cmp tw p0 tp tp i4))), (tt 5, .inr (5, [.ref (tt 6)])), (tt 6, .inl (dA 0, 84, .inl (cmp tw p0 tx tx i4)))]) [0, 5, 6, 1, 2, 3, 4] (by decide) rfl
          exact ih4 (i4 + 1) (cmp tw p0 tw tw i4) (cmp tw p0 tp tp i4) (cmp tw p0 tx tx i4) (nI (kpt tw p0 i4)) (by omega) (by omega) (by omega) ⟨(cmp_n c5), (cmp_n c5), (cmp_n c5), (kpt_n c5)⟩ _ _ hP hD hS ls (lv_sub hl [0, 1, 2, 3] rfl)
  exact K4 (nm + 1) 0 tw tp tx 0 (by omega) (by omega) (by omega) ⟨rfl, rfl, rfl, rfl⟩ _ _ hP hD hS ls hl
