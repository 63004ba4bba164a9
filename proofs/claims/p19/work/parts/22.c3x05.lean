/-! CONTRACTS, general -/
set_option maxHeartbeats 4000000 in
set_option maxRecDepth 100000 in
theorem s_mergeWithNext (l : Launch) (D : va_G) (dA : Nat → ClassId) (E : Nat) (z : Nat → Nat) (tS tG : Nat → Int32) (nd n2 sm : Nat) (sz : Nat) (hnd : nd ≤ 30) (hn2 : n2 ≤ 900) (hs : sm ≤ n2) (hAC : AC tS)  : Met l yX4_mergeWithNext (wq (.code yX4_mergeWithNext cX4_mergeWithNext 6 (some .int))) { frames := 2, cells := 0, slots := 0, locals := 46 } (va_Pc [.ref (z 0), .int (nI sm)] (PcB D dA E [(z 0, .inr (7, [.ref (z 1), .ref (z 3), .int (nI nd), .int (nI ((n2 + 1) + 1))])), (z 1, .inr (5, [.ref (z 2)])), (z 2, .inl (dA 0, 30, .inl tS)), (z 3, .inr (5, [.ref (z 4)])), (z 4, .inl (dA 0, 30, .inl tG))] sz)) (va_Qi (fun (r : Int32) (u : (Nat → Int32) × Nat) => r = nI (cn (mgB sm tS tG) nd) ∧ ((0 < cn (mgL sm tS tG) nd ∧ u = (fl (mvF (sm + 1) 1 (fl (mgA sm tS tG) tG nd)) (fl (mgA sm tS tG) tG nd) nd, n2 + 1)) ∨ (cn (mgL sm tS tG) nd = 0 ∧ u = (fl (mvF (sm + 1) 2 (fl (mgA sm tS tG) tG nd)) (fl (mgA sm tS tG) tG nd) nd, n2)))) (fun u t => va_P D vwCl [(z 0, .inr (7, [.ref (z 1), .ref (z 3), .int (nI nd), .int (nI u.2)])), (z 1, .inr (5, [.ref (z 2)])), (z 2, .inl (dA 0, 30, .inl tS)), (z 3, .inr (5, [.ref (z 4)])), (z 4, .inl (dA 0, 30, .inl u.1))] t.heap ∧ va_D (va_A [(z 0, .inr (7, [.ref (z 1), .ref (z 3), .int (nI nd), .int (nI ((n2 + 1) + 1))])), (z 1, .inr (5, [.ref (z 2)])), (z 2, .inl (dA 0, 30, .inl tS)), (z 3, .inr (5, [.ref (z 4)])), (z 4, .inl (dA 0, 30, .inl tG))] sz) [(z 0, .inr (7, [.ref (z 1), .ref (z 3), .int (nI nd), .int (nI u.2)])), (z 1, .inr (5, [.ref (z 2)])), (z 2, .inl (dA 0, 30, .inl tS)), (z 3, .inr (5, [.ref (z 4)])), (z 4, .inl (dA 0, 30, .inl u.1))]) (va_A [(z 0, .inr (7, [.ref (z 1), .ref (z 3), .int (nI nd), .int (nI ((n2 + 1) + 1))])), (z 1, .inr (5, [.ref (z 2)])), (z 2, .inl (dA 0, 30, .inl tS)), (z 3, .inr (5, [.ref (z 4)])), (z 4, .inl (dA 0, 30, .inl tG))] sz)) 0 0 (va_A [(z 0, .inr (7, [.ref (z 1), .ref (z 3), .int (nI nd), .int (nI ((n2 + 1) + 1))])), (z 1, .inr (5, [.ref (z 2)])), (z 2, .inl (dA 0, 30, .inl tS)), (z 3, .inr (5, [.ref (z 4)])), (z 4, .inl (dA 0, 30, .inl tG))] sz) := by
  refine mb_of (Qc := fun A => va_Qi (fun (r : Int32) (u : (Nat → Int32) × Nat) => r = nI (cn (mgB sm tS tG) nd) ∧ ((0 < cn (mgL sm tS tG) nd ∧ u = (fl (mvF (sm + 1) 1 (fl (mgA sm tS tG) tG nd)) (fl (mgA sm tS tG) tG nd) nd, n2 + 1)) ∨ (cn (mgL sm tS tG) nd = 0 ∧ u = (fl (mvF (sm + 1) 2 (fl (mgA sm tS tG) tG nd)) (fl (mgA sm tS tG) tG nd) nd, n2)))) (fun u t => va_P D vwCl [(z 0, .inr (7, [.ref (z 1), .ref (z 3), .int (nI nd), .int (nI u.2)])), (z 1, .inr (5, [.ref (z 2)])), (z 2, .inl (dA 0, 30, .inl tS)), (z 3, .inr (5, [.ref (z 4)])), (z 4, .inl (dA 0, 30, .inl u.1))] t.heap ∧ va_D A [(z 0, .inr (7, [.ref (z 1), .ref (z 3), .int (nI nd), .int (nI u.2)])), (z 1, .inr (5, [.ref (z 2)])), (z 2, .inl (dA 0, 30, .inl tS)), (z 3, .inr (5, [.ref (z 4)])), (z 4, .inl (dA 0, 30, .inl u.1))]) A) RX4 rfl (by decide) (Nat.le_of_ble_eq_true rfl) ?_
  intro p e s m args below meth c hae hx hb hr hts hown hlocks hml hnm hP hK A hAe hD hZ hS hA ls hl
  replace hl : lv_has ls 6 [(0, .ref (z 0)), (1, .int (nI sm))] := hl
  refine lv_iconst (v := 0) hx hb dX4_mergeWithNext_0 (by decide) ?_
  refine lv_istore_n (lv' := [(2, .int 0), (0, .ref (z 0)), (1, .int (nI sm))]) hx hb dX4_mergeWithNext_1 rfl hl (by decide) rfl (fun ls hl => ?_)
  refine lv_iconst (v := 0) hx hb dX4_mergeWithNext_2 (by decide) ?_
  refine lv_istore_n (lv' := [(3, .int 0), (2, .int 0), (0, .ref (z 0)), (1, .int (nI sm))]) hx hb dX4_mergeWithNext_3 rfl hl (by decide) rfl (fun ls hl => ?_)
  refine lv_iconst (v := 0) hx hb dX4_mergeWithNext_4 (by decide) ?_
  refine lv_istore (lv' := [(4, .int 0), (3, .int 0), (2, .int 0), (0, .ref (z 0)), (1, .int (nI sm))]) hx hb dX4_mergeWithNext_5 hl (by decide) rfl (fun ls hl => ?_)
  have K7 : ∀ (k7 i7 : Nat) (g7_0 : Nat → Int32) (g7_1 : Int32) (g7_2 : Int32), 0 ≤ i7 → i7 ≤ nd → nd < i7 + k7 → (g7_0 = fl (mgA sm tS tG) tG i7) ∧ (g7_1 = nI (cn (mgB sm tS tG) i7)) ∧ (g7_2 = nI (cn (mgL sm tS tG) i7)) → ∀ (H : Heap) (locs : List Loc), va_P D vwCl [(z 0, .inr (7, [.ref (z 1), .ref (z 3), .int (nI nd), .int (nI ((n2 + 1) + 1))])), (z 1, .inr (5, [.ref (z 2)])), (z 2, .inl (dA 0, 30, .inl tS)), (z 3, .inr (5, [.ref (z 4)])), (z 4, .inl (dA 0, 30, .inl g7_0))] H → va_D A [(z 0, .inr (7, [.ref (z 1), .ref (z 3), .int (nI nd), .int (nI ((n2 + 1) + 1))])), (z 1, .inr (5, [.ref (z 2)])), (z 2, .inl (dA 0, 30, .inl tS)), (z 3, .inr (5, [.ref (z 4)])), (z 4, .inl (dA 0, 30, .inl g7_0))] → va_S A s.heap H locs → ∀ ls : Array Slot, lv_has ls 6 [(4, .int (nI i7)), (3, .int g7_2), (2, .int g7_1), (0, .ref (z 0)), (1, .int (nI sm))] → W p l e { frames := 2, cells := 0, slots := 0, locals := 46 } s m args below meth c H locs 0 0 (MQ below (va_Qi (fun (r : Int32) (u : (Nat → Int32) × Nat) => r = nI (cn (mgB sm tS tG) nd) ∧ ((0 < cn (mgL sm tS tG) nd ∧ u = (fl (mvF (sm + 1) 1 (fl (mgA sm tS tG) tG nd)) (fl (mgA sm tS tG) tG nd) nd, n2 + 1)) ∨ (cn (mgL sm tS tG) nd = 0 ∧ u = (fl (mvF (sm + 1) 2 (fl (mgA sm tS tG) tG nd)) (fl (mgA sm tS tG) tG nd) nd, n2)))) (fun u t => va_P D vwCl [(z 0, .inr (7, [.ref (z 1), .ref (z 3), .int (nI nd), .int (nI u.2)])), (z 1, .inr (5, [.ref (z 2)])), (z 2, .inl (dA 0, 30, .inl tS)), (z 3, .inr (5, [.ref (z 4)])), (z 4, .inl (dA 0, 30, .inl u.1))] t.heap ∧ va_D A [(z 0, .inr (7, [.ref (z 1), .ref (z 3), .int (nI nd), .int (nI u.2)])), (z 1, .inr (5, [.ref (z 2)])), (z 2, .inl (dA 0, 30, .inl tS)), (z 3, .inr (5, [.ref (z 4)])), (z 4, .inl (dA 0, 30, .inl u.1))]) A) args s 0 0 A) (F0 m 7 ls []) := by
    intro k7
    induction k7 with
    | zero => intro i7 g7_0 g7_1 g7_2 h1 h2 h3; exact absurd h3 (by omega)
    | succ k7 ih7 =>
      intro i7 g7_0 g7_1 g7_2 hlo7 hhi7 hms7 hinv7 H locs hP hD hS ls hl
      obtain ⟨eg7_0, eg7_1, eg7_2⟩ := hinv7
      subst eg7_0
      subst eg7_1
      subst eg7_2
      have hcb := cn_le (mgB sm tS tG) i7
      have hcl := cn_le (mgL sm tS tG) i7
      refine lv_iload hx hb dX4_mergeWithNext_7 (lv_at hl 0 rfl) ?_
      refine lv_aload_n hx hb dX4_mergeWithNext_9 rfl (lv_at hl 3 rfl) ?_
      refine va_get (D := D) (ci := 7) (v := .int (nI nd)) (C := RX4) (T := TX4) (N := 4) hx hb hts inAX4 hown hK hP 0 rfl rfl 2 (by decide) (hts _ q243) (fun _ h9 => h9) rfl dX4_mergeWithNext_10 ?_
      refine lv_icmp_ge (tgt := 90) hx hb dX4_mergeWithNext_13 (by decide) (fun c1 => ?_) (fun c1 => ?_)
      · replace c1 := (nI_leI (a := nd) (b := i7) (by omega) (by omega)).mp c1
        obtain rfl : nd = i7 := (by omega)
        replace hP : va_P D vwCl [(z 0, .inr (7, [.ref (z 1), .ref (z 3), .int (nI nd), .int (nI ((n2 + 1) + 1))])), (z 1, .inr (5, [.ref (z 2)])), (z 2, .inl (dA 0, 30, .inl tS)), (z 3, .inr (5, [.ref (z 4)])), (z 4, .inl (dA 0, 30, .inl (fl (mgA sm tS tG) tG nd)))] H := hP
        replace hD : va_D A [(z 0, .inr (7, [.ref (z 1), .ref (z 3), .int (nI nd), .int (nI ((n2 + 1) + 1))])), (z 1, .inr (5, [.ref (z 2)])), (z 2, .inl (dA 0, 30, .inl tS)), (z 3, .inr (5, [.ref (z 4)])), (z 4, .inl (dA 0, 30, .inl (fl (mgA sm tS tG) tG nd)))] := hD
        refine lv_aload_n hx hb dX4_mergeWithNext_90 rfl (lv_at hl 3 rfl) ?_
        refine lv_iload_n hx hb dX4_mergeWithNext_91 rfl (lv_at hl 4 rfl) ?_
        refine lv_iconst (v := 1) hx hb dX4_mergeWithNext_92 (by decide) ?_
        refine lv_iadd hx hb dX4_mergeWithNext_93 ?_
        refine lv_topi (fun x2 ex2 => ?_)
        obtain rfl : x2 = nI (sm + 1) := ex2.trans (nI_add sm 1)
        refine lv_iload_n hx hb dX4_mergeWithNext_94 rfl (lv_at hl 1 rfl) ?_
        refine lv_if_ne (tgt := 102) hx hb dX4_mergeWithNext_95 (by decide) (fun c3 => ?_) (fun c3 => ?_)
        · replace c3 := mt (nI_eq (a := (cn (mgL sm tS tG) nd)) (b := 0) (by omega) (by omega)).mpr c3
          refine lv_iconst (v := 1) hx hb dX4_mergeWithNext_102 (by decide) ?_
          replace hPc := hP.sub (ws' := [(z 0, .inr (7, [.ref (z 1), .ref (z 3), .int (nI nd), .int (nI ((n2 + 1) + 1))])), (z 1, .inr (5, [.ref (z 2)])), (z 2, .inl (dA 0, 30, .inl tS)), (z 3, .inr (5, [.ref (z 4)])), (z 4, .inl (dA 0, 30, .inl (fl (mgA sm tS tG) tG nd)))]) [0, 1, 2, 3, 4] rfl
          replace hDc := hD.sub (ws' := [(z 0, .inr (7, [.ref (z 1), .ref (z 3), .int (nI nd), .int (nI ((n2 + 1) + 1))])), (z 1, .inr (5, [.ref (z 2)])), (z 2, .inl (dA 0, 30, .inl tS)), (z 3, .inr (5, [.ref (z 4)])), (z 4, .inl (dA 0, 30, .inl (fl (mgA sm tS tG) tG nd)))]) [0, 1, 2, 3, 4] (by decide) rfl
          replace hFc := va_free (wc := [(z 0, .inr (7, [.ref (z 1), .ref (z 3), .int (nI nd), .int (nI ((n2 + 1) + 1))])), (z 1, .inr (5, [.ref (z 2)])), (z 2, .inl (dA 0, 30, .inl tS)), (z 3, .inr (5, [.ref (z 4)])), (z 4, .inl (dA 0, 30, .inl (fl (mgA sm tS tG) tG nd)))]) hD hS hA [0, 1, 2, 3, 4] rfl
          refine va_callv (va_runV (As := [.int (nI (sm + 1)), .int 1]) (rest := []) ⟨hx, hb, hml, hown, hts⟩ (s_moveUp l D dA E z tS (fl (mgA sm tS tG) tG nd) nd (n2 + 1) (sm + 1) 1 H.size  (by omega) (by omega) (by omega)) (cwV 2 hts (ga_V q248 q249 q246 q241 q247) rfl rfl rfl (by decide +kernel) ⟨(Nat.le_of_ble_eq_true rfl), (Nat.le_of_ble_eq_true rfl)⟩) ⟨pb_blind, va_recv hK hPc (ci := 7) (q0 := 0) rfl rfl, pb_pre hK hPc hDc hZ hS hFc _⟩ rfl rfl hl.1 rfl (lv_room (Nat.le_of_ble_eq_true rfl)) dX4_mergeWithNext_103 ⟨(Nat.le_of_ble_eq_true rfl), (Nat.le_of_ble_eq_true rfl)⟩) hS (fun q _ h => hFc q h) hFc (fun u t H1 locs ht hvm hw hB hz1 hk1 hS => ?_)
          refine W.widen (k := 0) (n := 0) (Nat.le_of_ble_eq_true rfl) (Nat.le_of_ble_eq_true rfl) ?_
          obtain ⟨u4, rfl⟩ : ∃ z, z = u := ⟨_, rfl⟩
          have hw5 := hw
          clear hw
          obtain ⟨hP1, hD1⟩ := hB
          rw [ht] at hP1
          obtain ⟨hP, hD⟩ := va_join (wr := []) (w1 := [(z 0, .inr (7, [.ref (z 1), .ref (z 3), .int (nI nd), .int (nI (n2 + 1))])), (z 1, .inr (5, [.ref (z 2)])), (z 2, .inl (dA 0, 30, .inl tS)), (z 3, .inr (5, [.ref (z 4)])), (z 4, .inl (dA 0, 30, .inl (fl (mvF (sm + 1) 1 (fl (mgA sm tS tG) tG nd)) (fl (mgA sm tS tG) tG nd) nd)))]) hP hD [0, 1, 2, 3, 4] [] rfl rfl (by decide) (by decide) hk1 hFc hP1 hD1
          generalize H1 = H at hP hS ⊢
          replace hP : va_P D vwCl [(z 0, .inr (7, [.ref (z 1), .ref (z 3), .int (nI nd), .int (nI (n2 + 1))])), (z 1, .inr (5, [.ref (z 2)])), (z 2, .inl (dA 0, 30, .inl tS)), (z 3, .inr (5, [.ref (z 4)])), (z 4, .inl (dA 0, 30, .inl (fl (mvF (sm + 1) 1 (fl (mgA sm tS tG) tG nd)) (fl (mgA sm tS tG) tG nd) nd)))] H := hP
          replace hD : va_D A [(z 0, .inr (7, [.ref (z 1), .ref (z 3), .int (nI nd), .int (nI (n2 + 1))])), (z 1, .inr (5, [.ref (z 2)])), (z 2, .inl (dA 0, 30, .inl tS)), (z 3, .inr (5, [.ref (z 4)])), (z 4, .inl (dA 0, 30, .inl (fl (mvF (sm + 1) 1 (fl (mgA sm tS tG) tG nd)) (fl (mgA sm tS tG) tG nd) nd)))] := hD
          refine lv_iload_n hx hb dX4_mergeWithNext_106 rfl (lv_at hl 2 rfl) ?_
          refine W.widen (k := 0) (n := 0) (Nat.le_of_ble_eq_true rfl) (Nat.le_of_ble_eq_true rfl) ?_
          have hP9 := hP.sub (ws' := [(z 0, .inr (7, [.ref (z 1), .ref (z 3), .int (nI nd), .int (nI (n2 + 1))])), (z 1, .inr (5, [.ref (z 2)])), (z 2, .inl (dA 0, 30, .inl tS)), (z 3, .inr (5, [.ref (z 4)])), (z 4, .inl (dA 0, 30, .inl (fl (mvF (sm + 1) 1 (fl (mgA sm tS tG) tG nd)) (fl (mgA sm tS tG) tG nd) nd)))]) [0, 1, 2, 3, 4] rfl
          have hD9 := hD.sub (ws' := [(z 0, .inr (7, [.ref (z 1), .ref (z 3), .int (nI nd), .int (nI (n2 + 1))])), (z 1, .inr (5, [.ref (z 2)])), (z 2, .inl (dA 0, 30, .inl tS)), (z 3, .inr (5, [.ref (z 4)])), (z 4, .inl (dA 0, 30, .inl (fl (mvF (sm + 1) 1 (fl (mgA sm tS tG) tG nd)) (fl (mgA sm tS tG) tG nd) nd)))]) [0, 1, 2, 3, 4] (by decide) rfl
          exact W.iret (v := (nI (cn (mgB sm tS tG) nd))) hx hb hr (fun t ht hW => ⟨⟨(nI (cn (mgB sm tS tG) nd)), (fl (mvF (sm + 1) 1 (fl (mgA sm tS tG) tG nd)) (fl (mgA sm tS tG) tG nd) nd, (n2 + 1)), rfl, ⟨rfl, Or.inl ⟨by omega, rfl⟩⟩, ⟨by rw [ht]; exact hP9, hD9⟩⟩, hS.F ht⟩) hS.2.2 dX4_mergeWithNext_107
        · replace c3 := (nI_eq (a := (cn (mgL sm tS tG) nd)) (b := 0) (by omega) (by omega)).mp c3
          refine lv_iconst (v := 2) hx hb dX4_mergeWithNext_98 (by decide) ?_
          refine lv_goto (tgt := 103) hx hb dX4_mergeWithNext_99 (by decide) ?_
          replace hPc := hP.sub (ws' := [(z 0, .inr (7, [.ref (z 1), .ref (z 3), .int (nI nd), .int (nI ((n2 + 1) + 1))])), (z 1, .inr (5, [.ref (z 2)])), (z 2, .inl (dA 0, 30, .inl tS)), (z 3, .inr (5, [.ref (z 4)])), (z 4, .inl (dA 0, 30, .inl (fl (mgA sm tS tG) tG nd)))]) [0, 1, 2, 3, 4] rfl
          replace hDc := hD.sub (ws' := [(z 0, .inr (7, [.ref (z 1), .ref (z 3), .int (nI nd), .int (nI ((n2 + 1) + 1))])), (z 1, .inr (5, [.ref (z 2)])), (z 2, .inl (dA 0, 30, .inl tS)), (z 3, .inr (5, [.ref (z 4)])), (z 4, .inl (dA 0, 30, .inl (fl (mgA sm tS tG) tG nd)))]) [0, 1, 2, 3, 4] (by decide) rfl
          replace hFc := va_free (wc := [(z 0, .inr (7, [.ref (z 1), .ref (z 3), .int (nI nd), .int (nI ((n2 + 1) + 1))])), (z 1, .inr (5, [.ref (z 2)])), (z 2, .inl (dA 0, 30, .inl tS)), (z 3, .inr (5, [.ref (z 4)])), (z 4, .inl (dA 0, 30, .inl (fl (mgA sm tS tG) tG nd)))]) hD hS hA [0, 1, 2, 3, 4] rfl
          refine va_callv (va_runV (As := [.int (nI (sm + 1)), .int 2]) (rest := []) ⟨hx, hb, hml, hown, hts⟩ (s_moveUp l D dA E z tS (fl (mgA sm tS tG) tG nd) nd n2 (sm + 1) 2 H.size  (by omega) (by omega) (by omega)) (cwV 2 hts (ga_V q248 q249 q246 q241 q247) rfl rfl rfl (by decide +kernel) ⟨(Nat.le_of_ble_eq_true rfl), (Nat.le_of_ble_eq_true rfl)⟩) ⟨pb_blind, va_recv hK hPc (ci := 7) (q0 := 0) rfl rfl, pb_pre hK hPc hDc hZ hS hFc _⟩ rfl rfl hl.1 rfl (lv_room (Nat.le_of_ble_eq_true rfl)) dX4_mergeWithNext_103 ⟨(Nat.le_of_ble_eq_true rfl), (Nat.le_of_ble_eq_true rfl)⟩) hS (fun q _ h => hFc q h) hFc (fun u t H1 locs ht hvm hw hB hz1 hk1 hS => ?_)
          refine W.widen (k := 0) (n := 0) (Nat.le_of_ble_eq_true rfl) (Nat.le_of_ble_eq_true rfl) ?_
          obtain ⟨u6, rfl⟩ : ∃ z, z = u := ⟨_, rfl⟩
          have hw7 := hw
          clear hw
          obtain ⟨hP1, hD1⟩ := hB
          rw [ht] at hP1
          obtain ⟨hP, hD⟩ := va_join (wr := []) (w1 := [(z 0, .inr (7, [.ref (z 1), .ref (z 3), .int (nI nd), .int (nI n2)])), (z 1, .inr (5, [.ref (z 2)])), (z 2, .inl (dA 0, 30, .inl tS)), (z 3, .inr (5, [.ref (z 4)])), (z 4, .inl (dA 0, 30, .inl (fl (mvF (sm + 1) 2 (fl (mgA sm tS tG) tG nd)) (fl (mgA sm tS tG) tG nd) nd)))]) hP hD [0, 1, 2, 3, 4] [] rfl rfl (by decide) (by decide) hk1 hFc hP1 hD1
          generalize H1 = H at hP hS ⊢
          replace hP : va_P D vwCl [(z 0, .inr (7, [.ref (z 1), .ref (z 3), .int (nI nd), .int (nI n2)])), (z 1, .inr (5, [.ref (z 2)])), (z 2, .inl (dA 0, 30, .inl tS)), (z 3, .inr (5, [.ref (z 4)])), (z 4, .inl (dA 0, 30, .inl (fl (mvF (sm + 1) 2 (fl (mgA sm tS tG) tG nd)) (fl (mgA sm tS tG) tG nd) nd)))] H := hP
          replace hD : va_D A [(z 0, .inr (7, [.ref (z 1), .ref (z 3), .int (nI nd), .int (nI n2)])), (z 1, .inr (5, [.ref (z 2)])), (z 2, .inl (dA 0, 30, .inl tS)), (z 3, .inr (5, [.ref (z 4)])), (z 4, .inl (dA 0, 30, .inl (fl (mvF (sm + 1) 2 (fl (mgA sm tS tG) tG nd)) (fl (mgA sm tS tG) tG nd) nd)))] := hD
          refine lv_iload_n hx hb dX4_mergeWithNext_106 rfl (lv_at hl 2 rfl) ?_
          refine W.widen (k := 0) (n := 0) (Nat.le_of_ble_eq_true rfl) (Nat.le_of_ble_eq_true rfl) ?_
          have hP9 := hP.sub (ws' := [(z 0, .inr (7, [.ref (z 1), .ref (z 3), .int (nI nd), .int (nI n2)])), (z 1, .inr (5, [.ref (z 2)])), (z 2, .inl (dA 0, 30, .inl tS)), (z 3, .inr (5, [.ref (z 4)])), (z 4, .inl (dA 0, 30, .inl (fl (mvF (sm + 1) 2 (fl (mgA sm tS tG) tG nd)) (fl (mgA sm tS tG) tG nd) nd)))]) [0, 1, 2, 3, 4] rfl
          have hD9 := hD.sub (ws' := [(z 0, .inr (7, [.ref (z 1), .ref (z 3), .int (nI nd), .int (nI n2)])), (z 1, .inr (5, [.ref (z 2)])), (z 2, .inl (dA 0, 30, .inl tS)), (z 3, .inr (5, [.ref (z 4)])), (z 4, .inl (dA 0, 30, .inl (fl (mvF (sm + 1) 2 (fl (mgA sm tS tG) tG nd)) (fl (mgA sm tS tG) tG nd) nd)))]) [0, 1, 2, 3, 4] (by decide) rfl
          exact W.iret (v := (nI (cn (mgB sm tS tG) nd))) hx hb hr (fun t ht hW => ⟨⟨(nI (cn (mgB sm tS tG) nd)), (fl (mvF (sm + 1) 2 (fl (mgA sm tS tG) tG nd)) (fl (mgA sm tS tG) tG nd) nd, n2), rfl, ⟨rfl, Or.inr ⟨by omega, rfl⟩⟩, ⟨by rw [ht]; exact hP9, hD9⟩⟩, hS.F ht⟩) hS.2.2 dX4_mergeWithNext_107
      · replace c1 := mt (nI_leI (a := nd) (b := i7) (by omega) (by omega)).mpr c1
        refine lv_aload_n hx hb dX4_mergeWithNext_16 rfl (lv_at hl 3 rfl) ?_
        refine va_get (D := D) (ci := 7) (v := .ref (z 3)) (C := RX4) (T := TX4) (N := 4) hx hb hts inAX4 hown hK hP 0 rfl rfl 1 (by decide) (hts _ q244) (fun _ h9 => h9) rfl dX4_mergeWithNext_17 ?_
        refine lv_iload hx hb dX4_mergeWithNext_20 (lv_at hl 0 rfl) ?_
        replace hPc := hP.sub (ws' := [(z 3, .inr (5, [.ref (z 4)])), (z 4, .inl (dA 0, 30, .inl (fl (mgA sm tS tG) tG i7)))]) [3, 4] rfl
        replace hDc := hD.sub (ws' := [(z 3, .inr (5, [.ref (z 4)])), (z 4, .inl (dA 0, 30, .inl (fl (mgA sm tS tG) tG i7)))]) [3, 4] (by decide) rfl
        replace hFc := va_free (wc := [(z 3, .inr (5, [.ref (z 4)])), (z 4, .inl (dA 0, 30, .inl (fl (mgA sm tS tG) tG i7)))]) hD hS hA [3, 4] rfl
        refine va_calli (va_runV (As := [.int (nI i7)]) (rest := []) ⟨hx, hb, hml, hown, hts⟩ (t_getN l D dA E (z 3) (z 4) 30 (fl (mgA sm tS tG) tG i7) i7 H.size  (by omega) (by decide)) (cwV 1 hts (ga_V q236 q203 q200 q204 q201) rfl rfl rfl (by decide +kernel) ⟨(Nat.le_of_ble_eq_true rfl), (Nat.le_of_ble_eq_true rfl)⟩) ⟨pb_blind, va_recv hK hPc (ci := 5) (q0 := 0) rfl rfl, pb_pre hK hPc hDc hZ hS hFc _⟩ rfl rfl hl.1 rfl (lv_room (Nat.le_of_ble_eq_true rfl)) dX4_mergeWithNext_22 ⟨(Nat.le_of_ble_eq_true rfl), (Nat.le_of_ble_eq_true rfl)⟩) hS (fun q _ h => hFc q h) hFc (fun r u t H1 locs ht hvm hw hB hz1 hk1 hS => ?_)
        refine W.widen (k := 0) (n := 0) (Nat.le_of_ble_eq_true rfl) (Nat.le_of_ble_eq_true rfl) ?_
        obtain ⟨r8, rfl⟩ : ∃ z, z = r := ⟨_, rfl⟩
        obtain ⟨u9, rfl⟩ : ∃ z, z = u := ⟨_, rfl⟩
        have hw10 := hw
        clear hw
        obtain ⟨hP1, hD1⟩ := hB
        rw [ht] at hP1
        obtain ⟨hP, hD⟩ := va_join (wr := [(z 0, .inr (7, [.ref (z 1), .ref (z 3), .int (nI nd), .int (nI ((n2 + 1) + 1))])), (z 1, .inr (5, [.ref (z 2)])), (z 2, .inl (dA 0, 30, .inl tS))]) (w1 := [(z 3, .inr (5, [.ref (z 4)])), (z 4, .inl (dA 0, 30, .inl (fl (mgA sm tS tG) tG i7)))]) hP hD [3, 4] [0, 1, 2] rfl rfl (by decide) (by decide) hk1 hFc hP1 hD1
        generalize H1 = H at hP hS ⊢
        replace hP : va_P D vwCl [(z 0, .inr (7, [.ref (z 1), .ref (z 3), .int (nI nd), .int (nI ((n2 + 1) + 1))])), (z 1, .inr (5, [.ref (z 2)])), (z 2, .inl (dA 0, 30, .inl tS)), (z 3, .inr (5, [.ref (z 4)])), (z 4, .inl (dA 0, 30, .inl (fl (mgA sm tS tG) tG i7)))] H := hP
        replace hD : va_D A [(z 0, .inr (7, [.ref (z 1), .ref (z 3), .int (nI nd), .int (nI ((n2 + 1) + 1))])), (z 1, .inr (5, [.ref (z 2)])), (z 2, .inl (dA 0, 30, .inl tS)), (z 3, .inr (5, [.ref (z 4)])), (z 4, .inl (dA 0, 30, .inl (fl (mgA sm tS tG) tG i7)))] := hD
        obtain rfl : r8 = tG i7 := (show r8 = (fl (mgA sm tS tG) tG i7) i7 from hw10).trans (fl_out (Nat.le_refl _))
        refine lv_istore (lv' := [(5, .int (tG i7)), (4, .int (nI i7)), (3, .int (nI (cn (mgL sm tS tG) i7))), (2, .int (nI (cn (mgB sm tS tG) i7))), (0, .ref (z 0)), (1, .int (nI sm))]) hx hb dX4_mergeWithNext_25 hl (by decide) rfl (fun ls hl => ?_)
        refine lv_iload hx hb dX4_mergeWithNext_27 (lv_at hl 0 rfl) ?_
        refine lv_iload_n hx hb dX4_mergeWithNext_29 rfl (lv_at hl 5 rfl) ?_
        refine lv_icmp_eq (tgt := 44) hx hb dX4_mergeWithNext_30 (by decide) (fun c11 => ?_) (fun c11 => ?_)
        · refine lv_aload_n hx hb dX4_mergeWithNext_44 rfl (lv_at hl 4 rfl) ?_
          refine lv_iload hx hb dX4_mergeWithNext_45 (lv_at hl 1 rfl) ?_
          replace hPc := hP.sub (ws' := [(z 0, .inr (7, [.ref (z 1), .ref (z 3), .int (nI nd), .int (nI ((n2 + 1) + 1))])), (z 1, .inr (5, [.ref (z 2)])), (z 2, .inl (dA 0, 30, .inl tS)), (z 3, .inr (5, [.ref (z 4)])), (z 4, .inl (dA 0, 30, .inl (fl (mgA sm tS tG) tG i7)))]) [0, 1, 2, 3, 4] rfl
          replace hDc := hD.sub (ws' := [(z 0, .inr (7, [.ref (z 1), .ref (z 3), .int (nI nd), .int (nI ((n2 + 1) + 1))])), (z 1, .inr (5, [.ref (z 2)])), (z 2, .inl (dA 0, 30, .inl tS)), (z 3, .inr (5, [.ref (z 4)])), (z 4, .inl (dA 0, 30, .inl (fl (mgA sm tS tG) tG i7)))]) [0, 1, 2, 3, 4] (by decide) rfl
          replace hFc := va_free (wc := [(z 0, .inr (7, [.ref (z 1), .ref (z 3), .int (nI nd), .int (nI ((n2 + 1) + 1))])), (z 1, .inr (5, [.ref (z 2)])), (z 2, .inl (dA 0, 30, .inl tS)), (z 3, .inr (5, [.ref (z 4)])), (z 4, .inl (dA 0, 30, .inl (fl (mgA sm tS tG) tG i7)))]) hD hS hA [0, 1, 2, 3, 4] rfl
          refine va_calli (va_runV (As := [.int (nI i7)]) (rest := []) ⟨hx, hb, hml, hown, hts⟩ (s_stateOf l D dA E z tS (fl (mgA sm tS tG) tG i7) nd ((n2 + 1) + 1) i7 H.size  (by omega) (by omega) (by omega) hAC) (cwV 1 hts (ga_V q239 q240 q237 q241 q238) rfl rfl rfl (by decide +kernel) ⟨(Nat.le_of_ble_eq_true rfl), (Nat.le_of_ble_eq_true rfl)⟩) ⟨pb_blind, va_recv hK hPc (ci := 7) (q0 := 0) rfl rfl, pb_pre hK hPc hDc hZ hS hFc _⟩ rfl rfl hl.1 rfl (lv_room (Nat.le_of_ble_eq_true rfl)) dX4_mergeWithNext_47 ⟨(Nat.le_of_ble_eq_true rfl), (Nat.le_of_ble_eq_true rfl)⟩) hS (fun q _ h => hFc q h) hFc (fun r u t H1 locs ht hvm hw hB hz1 hk1 hS => ?_)
          refine W.widen (k := 0) (n := 0) (Nat.le_of_ble_eq_true rfl) (Nat.le_of_ble_eq_true rfl) ?_
          obtain ⟨r12, rfl⟩ : ∃ z, z = r := ⟨_, rfl⟩
          obtain ⟨u13, rfl⟩ : ∃ z, z = u := ⟨_, rfl⟩
          have hw14 := hw
          clear hw
          obtain ⟨hP1, hD1⟩ := hB
          rw [ht] at hP1
          obtain ⟨hP, hD⟩ := va_join (wr := []) (w1 := [(z 0, .inr (7, [.ref (z 1), .ref (z 3), .int (nI nd), .int (nI ((n2 + 1) + 1))])), (z 1, .inr (5, [.ref (z 2)])), (z 2, .inl (dA 0, 30, .inl tS)), (z 3, .inr (5, [.ref (z 4)])), (z 4, .inl (dA 0, 30, .inl (fl (mgA sm tS tG) tG i7)))]) hP hD [0, 1, 2, 3, 4] [] rfl rfl (by decide) (by decide) hk1 hFc hP1 hD1
          generalize H1 = H at hP hS ⊢
          replace hP : va_P D vwCl [(z 0, .inr (7, [.ref (z 1), .ref (z 3), .int (nI nd), .int (nI ((n2 + 1) + 1))])), (z 1, .inr (5, [.ref (z 2)])), (z 2, .inl (dA 0, 30, .inl tS)), (z 3, .inr (5, [.ref (z 4)])), (z 4, .inl (dA 0, 30, .inl (fl (mgA sm tS tG) tG i7)))] H := hP
          replace hD : va_D A [(z 0, .inr (7, [.ref (z 1), .ref (z 3), .int (nI nd), .int (nI ((n2 + 1) + 1))])), (z 1, .inr (5, [.ref (z 2)])), (z 2, .inl (dA 0, 30, .inl tS)), (z 3, .inr (5, [.ref (z 4)])), (z 4, .inl (dA 0, 30, .inl (fl (mgA sm tS tG) tG i7)))] := hD
          obtain rfl : r12 = tS i7 := hw14
          refine lv_bipush (v := 114) hx hb dX4_mergeWithNext_50 (by decide) ?_
          refine lv_icmp_ne (tgt := 71) hx hb dX4_mergeWithNext_52 (by decide) (fun c15 => ?_) (fun c15 => ?_)
          · refine lv_aload_n hx hb dX4_mergeWithNext_71 rfl (lv_at hl 4 rfl) ?_
            refine va_get (D := D) (ci := 7) (v := .ref (z 3)) (C := RX4) (T := TX4) (N := 4) hx hb hts inAX4 hown hK hP 0 rfl rfl 1 (by decide) (hts _ q244) (fun _ h9 => h9) rfl dX4_mergeWithNext_72 ?_
            refine lv_iload hx hb dX4_mergeWithNext_75 (lv_at hl 1 rfl) ?_
            refine lv_iload_n hx hb dX4_mergeWithNext_77 rfl (lv_at hl 5 rfl) ?_
            replace hPc := hP.sub (ws' := [(z 3, .inr (5, [.ref (z 4)])), (z 4, .inl (dA 0, 30, .inl (fl (mgA sm tS tG) tG i7)))]) [3, 4] rfl
            replace hDc := hD.sub (ws' := [(z 3, .inr (5, [.ref (z 4)])), (z 4, .inl (dA 0, 30, .inl (fl (mgA sm tS tG) tG i7)))]) [3, 4] (by decide) rfl
            replace hFc := va_free (wc := [(z 3, .inr (5, [.ref (z 4)])), (z 4, .inl (dA 0, 30, .inl (fl (mgA sm tS tG) tG i7)))]) hD hS hA [3, 4] rfl
            refine va_callv (va_runV (As := [.int (nI i7), .int (nI sm)]) (rest := []) ⟨hx, hb, hml, hown, hts⟩ (t_putN l D dA E (z 3) (z 4) 30 (fl (mgA sm tS tG) tG i7) i7 (nI sm) H.size  (by omega) (by decide)) (cwV 2 hts (ga_V q242 q210 q207 q204 q208) rfl rfl rfl (by decide +kernel) ⟨(Nat.le_of_ble_eq_true rfl), (Nat.le_of_ble_eq_true rfl)⟩) ⟨pb_blind, va_recv hK hPc (ci := 5) (q0 := 0) rfl rfl, pb_pre hK hPc hDc hZ hS hFc _⟩ rfl rfl hl.1 rfl (lv_room (Nat.le_of_ble_eq_true rfl)) dX4_mergeWithNext_78 ⟨(Nat.le_of_ble_eq_true rfl), (Nat.le_of_ble_eq_true rfl)⟩) hS (fun q _ h => hFc q h) hFc (fun u t H1 locs ht hvm hw hB hz1 hk1 hS => ?_)
            refine W.widen (k := 0) (n := 0) (Nat.le_of_ble_eq_true rfl) (Nat.le_of_ble_eq_true rfl) ?_
            obtain ⟨u16, rfl⟩ : ∃ z, z = u := ⟨_, rfl⟩
            have hw17 := hw
            clear hw
            obtain ⟨hP1, hD1⟩ := hB
            rw [ht] at hP1
            obtain ⟨hP, hD⟩ := va_join (wr := [(z 0, .inr (7, [.ref (z 1), .ref (z 3), .int (nI nd), .int (nI ((n2 + 1) + 1))])), (z 1, .inr (5, [.ref (z 2)])), (z 2, .inl (dA 0, 30, .inl tS))]) (w1 := [(z 3, .inr (5, [.ref (z 4)])), (z 4, .inl (dA 0, 30, .inl (upd (fl (mgA sm tS tG) tG i7) i7 (nI sm))))]) hP hD [3, 4] [0, 1, 2] rfl rfl (by decide) (by decide) hk1 hFc hP1 hD1
            generalize H1 = H at hP hS ⊢
            replace hP : va_P D vwCl [(z 0, .inr (7, [.ref (z 1), .ref (z 3), .int (nI nd), .int (nI ((n2 + 1) + 1))])), (z 1, .inr (5, [.ref (z 2)])), (z 2, .inl (dA 0, 30, .inl tS)), (z 3, .inr (5, [.ref (z 4)])), (z 4, .inl (dA 0, 30, .inl (upd (fl (mgA sm tS tG) tG i7) i7 (nI sm))))] H := hP
            replace hD : va_D A [(z 0, .inr (7, [.ref (z 1), .ref (z 3), .int (nI nd), .int (nI ((n2 + 1) + 1))])), (z 1, .inr (5, [.ref (z 2)])), (z 2, .inl (dA 0, 30, .inl tS)), (z 3, .inr (5, [.ref (z 4)])), (z 4, .inl (dA 0, 30, .inl (upd (fl (mgA sm tS tG) tG i7) i7 (nI sm))))] := hD
            refine lv_iinc (v := nI ((cn (mgL sm tS tG) i7) + 1)) (lv' := [(3, .int (nI ((cn (mgL sm tS tG) i7) + 1))), (5, .int (tG i7)), (4, .int (nI i7)), (2, .int (nI (cn (mgB sm tS tG) i7))), (0, .ref (z 0)), (1, .int (nI sm))]) hx hb dX4_mergeWithNext_81 hl (k := 2) rfl (nI_add (cn (mgL sm tS tG) i7) 1) (by decide) rfl (fun ls hl => ?_)
            refine lv_iinc (v := nI (i7 + 1)) (lv' := [(4, .int (nI (i7 + 1))), (3, .int (nI ((cn (mgL sm tS tG) i7) + 1))), (5, .int (tG i7)), (2, .int (nI (cn (mgB sm tS tG) i7))), (0, .ref (z 0)), (1, .int (nI sm))]) hx hb dX4_mergeWithNext_84 hl (k := 2) rfl (nI_add i7 1) (by decide) rfl (fun ls hl => ?_)
            refine lv_goto (tgt := 7) hx hb dX4_mergeWithNext_87 (by decide) ?_
            exact ih7 (i7 + 1) (upd (fl (mgA sm tS tG) tG i7) i7 (nI sm)) (nI (cn (mgB sm tS tG) i7)) (nI ((cn (mgL sm tS tG) i7) + 1)) (by omega) (by omega) (by omega) ⟨(fl_succ (by show _ = mgA _ _ _ _; simp [mgA, c11, c15])), (cn_n' (f := mgB sm tS tG) (by simp [mgB, c11, c15])), (cn_y (f := mgL sm tS tG) (by simp [mgL, c11, c15]))⟩ _ _ hP hD hS ls (lv_sub hl [0, 1, 3, 4, 5] rfl)
          · refine lv_aload_n hx hb dX4_mergeWithNext_55 rfl (lv_at hl 4 rfl) ?_
            refine va_get (D := D) (ci := 7) (v := .ref (z 3)) (C := RX4) (T := TX4) (N := 4) hx hb hts inAX4 hown hK hP 0 rfl rfl 1 (by decide) (hts _ q244) (fun _ h9 => h9) rfl dX4_mergeWithNext_56 ?_
            refine lv_iload hx hb dX4_mergeWithNext_59 (lv_at hl 1 rfl) ?_
            refine lv_iconst (v := (-1)) hx hb dX4_mergeWithNext_61 (by decide) ?_
            replace hPc := hP.sub (ws' := [(z 3, .inr (5, [.ref (z 4)])), (z 4, .inl (dA 0, 30, .inl (fl (mgA sm tS tG) tG i7)))]) [3, 4] rfl
            replace hDc := hD.sub (ws' := [(z 3, .inr (5, [.ref (z 4)])), (z 4, .inl (dA 0, 30, .inl (fl (mgA sm tS tG) tG i7)))]) [3, 4] (by decide) rfl
            replace hFc := va_free (wc := [(z 3, .inr (5, [.ref (z 4)])), (z 4, .inl (dA 0, 30, .inl (fl (mgA sm tS tG) tG i7)))]) hD hS hA [3, 4] rfl
            refine va_callv (va_runV (As := [.int (nI i7), .int (-1)]) (rest := []) ⟨hx, hb, hml, hown, hts⟩ (t_putN l D dA E (z 3) (z 4) 30 (fl (mgA sm tS tG) tG i7) i7 (-1) H.size  (by omega) (by decide)) (cwV 2 hts (ga_V q242 q210 q207 q204 q208) rfl rfl rfl (by decide +kernel) ⟨(Nat.le_of_ble_eq_true rfl), (Nat.le_of_ble_eq_true rfl)⟩) ⟨pb_blind, va_recv hK hPc (ci := 5) (q0 := 0) rfl rfl, pb_pre hK hPc hDc hZ hS hFc _⟩ rfl rfl hl.1 rfl (lv_room (Nat.le_of_ble_eq_true rfl)) dX4_mergeWithNext_62 ⟨(Nat.le_of_ble_eq_true rfl), (Nat.le_of_ble_eq_true rfl)⟩) hS (fun q _ h => hFc q h) hFc (fun u t H1 locs ht hvm hw hB hz1 hk1 hS => ?_)
            refine W.widen (k := 0) (n := 0) (Nat.le_of_ble_eq_true rfl) (Nat.le_of_ble_eq_true rfl) ?_
            obtain ⟨u18, rfl⟩ : ∃ z, z = u := ⟨_, rfl⟩
            have hw19 := hw
            clear hw
            obtain ⟨hP1, hD1⟩ := hB
            rw [ht] at hP1
            obtain ⟨hP, hD⟩ := va_join (wr := [(z 0, .inr (7, [.ref (z 1), .ref (z 3), .int (nI nd), .int (nI ((n2 + 1) + 1))])), (z 1, .inr (5, [.ref (z 2)])), (z 2, .inl (dA 0, 30, .inl tS))]) (w1 := [(z 3, .inr (5, [.ref (z 4)])), (z 4, .inl (dA 0, 30, .inl (upd (fl (mgA sm tS tG) tG i7) i7 (-1))))]) hP hD [3, 4] [0, 1, 2] rfl rfl (by decide) (by decide) hk1 hFc hP1 hD1
            generalize H1 = H at hP hS ⊢
            replace hP : va_P D vwCl [(z 0, .inr (7, [.ref (z 1), .ref (z 3), .int (nI nd), .int (nI ((n2 + 1) + 1))])), (z 1, .inr (5, [.ref (z 2)])), (z 2, .inl (dA 0, 30, .inl tS)), (z 3, .inr (5, [.ref (z 4)])), (z 4, .inl (dA 0, 30, .inl (upd (fl (mgA sm tS tG) tG i7) i7 (-1))))] H := hP
            replace hD : va_D A [(z 0, .inr (7, [.ref (z 1), .ref (z 3), .int (nI nd), .int (nI ((n2 + 1) + 1))])), (z 1, .inr (5, [.ref (z 2)])), (z 2, .inl (dA 0, 30, .inl tS)), (z 3, .inr (5, [.ref (z 4)])), (z 4, .inl (dA 0, 30, .inl (upd (fl (mgA sm tS tG) tG i7) i7 (-1))))] := hD
            refine lv_iinc (v := nI ((cn (mgB sm tS tG) i7) + 1)) (lv' := [(2, .int (nI ((cn (mgB sm tS tG) i7) + 1))), (5, .int (tG i7)), (4, .int (nI i7)), (3, .int (nI (cn (mgL sm tS tG) i7))), (0, .ref (z 0)), (1, .int (nI sm))]) hx hb dX4_mergeWithNext_65 hl (k := 3) rfl (nI_add (cn (mgB sm tS tG) i7) 1) (by decide) rfl (fun ls hl => ?_)
            refine lv_goto (tgt := 84) hx hb dX4_mergeWithNext_68 (by decide) ?_
            refine lv_iinc (v := nI (i7 + 1)) (lv' := [(4, .int (nI (i7 + 1))), (2, .int (nI ((cn (mgB sm tS tG) i7) + 1))), (5, .int (tG i7)), (3, .int (nI (cn (mgL sm tS tG) i7))), (0, .ref (z 0)), (1, .int (nI sm))]) hx hb dX4_mergeWithNext_84 hl (k := 2) rfl (nI_add i7 1) (by decide) rfl (fun ls hl => ?_)
            refine lv_goto (tgt := 7) hx hb dX4_mergeWithNext_87 (by decide) ?_
            exact ih7 (i7 + 1) (upd (fl (mgA sm tS tG) tG i7) i7 (-1)) (nI ((cn (mgB sm tS tG) i7) + 1)) (nI (cn (mgL sm tS tG) i7)) (by omega) (by omega) (by omega) ⟨(fl_succ (by show _ = mgA _ _ _ _; simp [mgA, c11, c15])), (cn_y (f := mgB sm tS tG) (by simp [mgB, c11, c15])), (cn_n' (f := mgL sm tS tG) (by simp [mgL, c11, c15]))⟩ _ _ hP hD hS ls (lv_sub hl [0, 3, 1, 4, 5] rfl)
        · refine lv_iload hx hb dX4_mergeWithNext_33 (lv_at hl 0 rfl) ?_
          refine lv_iload_n hx hb dX4_mergeWithNext_35 rfl (lv_at hl 5 rfl) ?_
          refine lv_iconst (v := 1) hx hb dX4_mergeWithNext_36 (by decide) ?_
          refine lv_iadd hx hb dX4_mergeWithNext_37 ?_
          refine lv_topi (fun x20 ex20 => ?_)
          obtain rfl : x20 = nI (sm + 1) := ex20.trans (nI_add sm 1)
          refine lv_icmp_eq (tgt := 44) hx hb dX4_mergeWithNext_38 (by decide) (fun c21 => ?_) (fun c21 => ?_)
          · refine lv_aload_n hx hb dX4_mergeWithNext_44 rfl (lv_at hl 4 rfl) ?_
            refine lv_iload hx hb dX4_mergeWithNext_45 (lv_at hl 1 rfl) ?_
            replace hPc := hP.sub (ws' := [(z 0, .inr (7, [.ref (z 1), .ref (z 3), .int (nI nd), .int (nI ((n2 + 1) + 1))])), (z 1, .inr (5, [.ref (z 2)])), (z 2, .inl (dA 0, 30, .inl tS)), (z 3, .inr (5, [.ref (z 4)])), (z 4, .inl (dA 0, 30, .inl (fl (mgA sm tS tG) tG i7)))]) [0, 1, 2, 3, 4] rfl
            replace hDc := hD.sub (ws' := [(z 0, .inr (7, [.ref (z 1), .ref (z 3), .int (nI nd), .int (nI ((n2 + 1) + 1))])), (z 1, .inr (5, [.ref (z 2)])), (z 2, .inl (dA 0, 30, .inl tS)), (z 3, .inr (5, [.ref (z 4)])), (z 4, .inl (dA 0, 30, .inl (fl (mgA sm tS tG) tG i7)))]) [0, 1, 2, 3, 4] (by decide) rfl
            replace hFc := va_free (wc := [(z 0, .inr (7, [.ref (z 1), .ref (z 3), .int (nI nd), .int (nI ((n2 + 1) + 1))])), (z 1, .inr (5, [.ref (z 2)])), (z 2, .inl (dA 0, 30, .inl tS)), (z 3, .inr (5, [.ref (z 4)])), (z 4, .inl (dA 0, 30, .inl (fl (mgA sm tS tG) tG i7)))]) hD hS hA [0, 1, 2, 3, 4] rfl
            refine va_calli (va_runV (As := [.int (nI i7)]) (rest := []) ⟨hx, hb, hml, hown, hts⟩ (s_stateOf l D dA E z tS (fl (mgA sm tS tG) tG i7) nd ((n2 + 1) + 1) i7 H.size  (by omega) (by omega) (by omega) hAC) (cwV 1 hts (ga_V q239 q240 q237 q241 q238) rfl rfl rfl (by decide +kernel) ⟨(Nat.le_of_ble_eq_true rfl), (Nat.le_of_ble_eq_true rfl)⟩) ⟨pb_blind, va_recv hK hPc (ci := 7) (q0 := 0) rfl rfl, pb_pre hK hPc hDc hZ hS hFc _⟩ rfl rfl hl.1 rfl (lv_room (Nat.le_of_ble_eq_true rfl)) dX4_mergeWithNext_47 ⟨(Nat.le_of_ble_eq_true rfl), (Nat.le_of_ble_eq_true rfl)⟩) hS (fun q _ h => hFc q h) hFc (fun r u t H1 locs ht hvm hw hB hz1 hk1 hS => ?_)
            refine W.widen (k := 0) (n := 0) (Nat.le_of_ble_eq_true rfl) (Nat.le_of_ble_eq_true rfl) ?_
            obtain ⟨r22, rfl⟩ : ∃ z, z = r := ⟨_, rfl⟩
            obtain ⟨u23, rfl⟩ : ∃ z, z = u := ⟨_, rfl⟩
            have hw24 := hw
            clear hw
            obtain ⟨hP1, hD1⟩ := hB
            rw [ht] at hP1
            obtain ⟨hP, hD⟩ := va_join (wr := []) (w1 := [(z 0, .inr (7, [.ref (z 1), .ref (z 3), .int (nI nd), .int (nI ((n2 + 1) + 1))])), (z 1, .inr (5, [.ref (z 2)])), (z 2, .inl (dA 0, 30, .inl tS)), (z 3, .inr (5, [.ref (z 4)])), (z 4, .inl (dA 0, 30, .inl (fl (mgA sm tS tG) tG i7)))]) hP hD [0, 1, 2, 3, 4] [] rfl rfl (by decide) (by decide) hk1 hFc hP1 hD1
            generalize H1 = H at hP hS ⊢
            replace hP : va_P D vwCl [(z 0, .inr (7, [.ref (z 1), .ref (z 3), .int (nI nd), .int (nI ((n2 + 1) + 1))])), (z 1, .inr (5, [.ref (z 2)])), (z 2, .inl (dA 0, 30, .inl tS)), (z 3, .inr (5, [.ref (z 4)])), (z 4, .inl (dA 0, 30, .inl (fl (mgA sm tS tG) tG i7)))] H := hP
            replace hD : va_D A [(z 0, .inr (7, [.ref (z 1), .ref (z 3), .int (nI nd), .int (nI ((n2 + 1) + 1))])), (z 1, .inr (5, [.ref (z 2)])), (z 2, .inl (dA 0, 30, .inl tS)), (z 3, .inr (5, [.ref (z 4)])), (z 4, .inl (dA 0, 30, .inl (fl (mgA sm tS tG) tG i7)))] := hD
            obtain rfl : r22 = tS i7 := hw24
            refine lv_bipush (v := 114) hx hb dX4_mergeWithNext_50 (by decide) ?_
            refine lv_icmp_ne (tgt := 71) hx hb dX4_mergeWithNext_52 (by decide) (fun c25 => ?_) (fun c25 => ?_)
            · refine lv_aload_n hx hb dX4_mergeWithNext_71 rfl (lv_at hl 4 rfl) ?_
              refine va_get (D := D) (ci := 7) (v := .ref (z 3)) (C := RX4) (T := TX4) (N := 4) hx hb hts inAX4 hown hK hP 0 rfl rfl 1 (by decide) (hts _ q244) (fun _ h9 => h9) rfl dX4_mergeWithNext_72 ?_
              refine lv_iload hx hb dX4_mergeWithNext_75 (lv_at hl 1 rfl) ?_
              refine lv_iload_n hx hb dX4_mergeWithNext_77 rfl (lv_at hl 5 rfl) ?_
              replace hPc := hP.sub (ws' := [(z 3, .inr (5, [.ref (z 4)])), (z 4, .inl (dA 0, 30, .inl (fl (mgA sm tS tG) tG i7)))]) [3, 4] rfl
              replace hDc := hD.sub (ws' := [(z 3, .inr (5, [.ref (z 4)])), (z 4, .inl (dA 0, 30, .inl (fl (mgA sm tS tG) tG i7)))]) [3, 4] (by decide) rfl
              replace hFc := va_free (wc := [(z 3, .inr (5, [.ref (z 4)])), (z 4, .inl (dA 0, 30, .inl (fl (mgA sm tS tG) tG i7)))]) hD hS hA [3, 4] rfl
              refine va_callv (va_runV (As := [.int (nI i7), .int (nI sm)]) (rest := []) ⟨hx, hb, hml, hown, hts⟩ (t_putN l D dA E (z 3) (z 4) 30 (fl (mgA sm tS tG) tG i7) i7 (nI sm) H.size  (by omega) (by decide)) (cwV 2 hts (ga_V q242 q210 q207 q204 q208) rfl rfl rfl (by decide +kernel) ⟨(Nat.le_of_ble_eq_true rfl), (Nat.le_of_ble_eq_true rfl)⟩) ⟨pb_blind, va_recv hK hPc (ci := 5) (q0 := 0) rfl rfl, pb_pre hK hPc hDc hZ hS hFc _⟩ rfl rfl hl.1 rfl (lv_room (Nat.le_of_ble_eq_true rfl)) dX4_mergeWithNext_78 ⟨(Nat.le_of_ble_eq_true rfl), (Nat.le_of_ble_eq_true rfl)⟩) hS (fun q _ h => hFc q h) hFc (fun u t H1 locs ht hvm hw hB hz1 hk1 hS => ?_)
              refine W.widen (k := 0) (n := 0) (Nat.le_of_ble_eq_true rfl) (Nat.le_of_ble_eq_true rfl) ?_
              obtain ⟨u26, rfl⟩ : ∃ z, z = u := ⟨_, rfl⟩
              have hw27 := hw
              clear hw
              obtain ⟨hP1, hD1⟩ := hB
              rw [ht] at hP1
              obtain ⟨hP, hD⟩ := va_join (wr := [(z 0, .inr (7, [.ref (z 1), .ref (z 3), .int (nI nd), .int (nI ((n2 + 1) + 1))])), (z 1, .inr (5, [.ref (z 2)])), (z 2, .inl (dA 0, 30, .inl tS))]) (w1 := [(z 3, .inr (5, [.ref (z 4)])), (z 4, .inl (dA 0, 30, .inl (upd (fl (mgA sm tS tG) tG i7) i7 (nI sm))))]) hP hD [3, 4] [0, 1, 2] rfl rfl (by decide) (by decide) hk1 hFc hP1 hD1
              generalize H1 = H at hP hS ⊢
              replace hP : va_P D vwCl [(z 0, .inr (7, [.ref (z 1), .ref (z 3), .int (nI nd), .int (nI ((n2 + 1) + 1))])), (z 1, .inr (5, [.ref (z 2)])), (z 2, .inl (dA 0, 30, .inl tS)), (z 3, .inr (5, [.ref (z 4)])), (z 4, .inl (dA 0, 30, .inl (upd (fl (mgA sm tS tG) tG i7) i7 (nI sm))))] H := hP
              replace hD : va_D A [(z 0, .inr (7, [.ref (z 1), .ref (z 3), .int (nI nd), .int (nI ((n2 + 1) + 1))])), (z 1, .inr (5, [.ref (z 2)])), (z 2, .inl (dA 0, 30, .inl tS)), (z 3, .inr (5, [.ref (z 4)])), (z 4, .inl (dA 0, 30, .inl (upd (fl (mgA sm tS tG) tG i7) i7 (nI sm))))] := hD
              refine lv_iinc (v := nI ((cn (mgL sm tS tG) i7) + 1)) (lv' := [(3, .int (nI ((cn (mgL sm tS tG) i7) + 1))), (5, .int (tG i7)), (4, .int (nI i7)), (2, .int (nI (cn (mgB sm tS tG) i7))), (0, .ref (z 0)), (1, .int (nI sm))]) hx hb dX4_mergeWithNext_81 hl (k := 2) rfl (nI_add (cn (mgL sm tS tG) i7) 1) (by decide) rfl (fun ls hl => ?_)
              refine lv_iinc (v := nI (i7 + 1)) (lv' := [(4, .int (nI (i7 + 1))), (3, .int (nI ((cn (mgL sm tS tG) i7) + 1))), (5, .int (tG i7)), (2, .int (nI (cn (mgB sm tS tG) i7))), (0, .ref (z 0)), (1, .int (nI sm))]) hx hb dX4_mergeWithNext_84 hl (k := 2) rfl (nI_add i7 1) (by decide) rfl (fun ls hl => ?_)
              refine lv_goto (tgt := 7) hx hb dX4_mergeWithNext_87 (by decide) ?_
              exact ih7 (i7 + 1) (upd (fl (mgA sm tS tG) tG i7) i7 (nI sm)) (nI (cn (mgB sm tS tG) i7)) (nI ((cn (mgL sm tS tG) i7) + 1)) (by omega) (by omega) (by omega) ⟨(fl_succ (by show _ = mgA _ _ _ _; simp [mgA, c11, c21, c25])), (cn_n' (f := mgB sm tS tG) (by simp [mgB, c11, c21, c25])), (cn_y (f := mgL sm tS tG) (by simp [mgL, c11, c21, c25]))⟩ _ _ hP hD hS ls (lv_sub hl [0, 1, 3, 4, 5] rfl)
            · refine lv_aload_n hx hb dX4_mergeWithNext_55 rfl (lv_at hl 4 rfl) ?_
              refine va_get (D := D) (ci := 7) (v := .ref (z 3)) (C := RX4) (T := TX4) (N := 4) hx hb hts inAX4 hown hK hP 0 rfl rfl 1 (by decide) (hts _ q244) (fun _ h9 => h9) rfl dX4_mergeWithNext_56 ?_
              refine lv_iload hx hb dX4_mergeWithNext_59 (lv_at hl 1 rfl) ?_
              refine lv_iconst (v := (-1)) hx hb dX4_mergeWithNext_61 (by decide) ?_
              replace hPc := hP.sub (ws' := [(z 3, .inr (5, [.ref (z 4)])), (z 4, .inl (dA 0, 30, .inl (fl (mgA sm tS tG) tG i7)))]) [3, 4] rfl
              replace hDc := hD.sub (ws' := [(z 3, .inr (5, [.ref (z 4)])), (z 4, .inl (dA 0, 30, .inl (fl (mgA sm tS tG) tG i7)))]) [3, 4] (by decide) rfl
              replace hFc := va_free (wc := [(z 3, .inr (5, [.ref (z 4)])), (z 4, .inl (dA 0, 30, .inl (fl (mgA sm tS tG) tG i7)))]) hD hS hA [3, 4] rfl
              refine va_callv (va_runV (As := [.int (nI i7), .int (-1)]) (rest := []) ⟨hx, hb, hml, hown, hts⟩ (t_putN l D dA E (z 3) (z 4) 30 (fl (mgA sm tS tG) tG i7) i7 (-1) H.size  (by omega) (by decide)) (cwV 2 hts (ga_V q242 q210 q207 q204 q208) rfl rfl rfl (by decide +kernel) ⟨(Nat.le_of_ble_eq_true rfl), (Nat.le_of_ble_eq_true rfl)⟩) ⟨pb_blind, va_recv hK hPc (ci := 5) (q0 := 0) rfl rfl, pb_pre hK hPc hDc hZ hS hFc _⟩ rfl rfl hl.1 rfl (lv_room (Nat.le_of_ble_eq_true rfl)) dX4_mergeWithNext_62 ⟨(Nat.le_of_ble_eq_true rfl), (Nat.le_of_ble_eq_true rfl)⟩) hS (fun q _ h => hFc q h) hFc (fun u t H1 locs ht hvm hw hB hz1 hk1 hS => ?_)
              refine W.widen (k := 0) (n := 0) (Nat.le_of_ble_eq_true rfl) (Nat.le_of_ble_eq_true rfl) ?_
              obtain ⟨u28, rfl⟩ : ∃ z, z = u := ⟨_, rfl⟩
              have hw29 := hw
              clear hw
              obtain ⟨hP1, hD1⟩ := hB
              rw [ht] at hP1
              obtain ⟨hP, hD⟩ := va_join (wr := [(z 0, .inr (7, [.ref (z 1), .ref (z 3), .int (nI nd), .int (nI ((n2 + 1) + 1))])), (z 1, .inr (5, [.ref (z 2)])), (z 2, .inl (dA 0, 30, .inl tS))]) (w1 := [(z 3, .inr (5, [.ref (z 4)])), (z 4, .inl (dA 0, 30, .inl (upd (fl (mgA sm tS tG) tG i7) i7 (-1))))]) hP hD [3, 4] [0, 1, 2] rfl rfl (by decide) (by decide) hk1 hFc hP1 hD1
              generalize H1 = H at hP hS ⊢
              replace hP : va_P D vwCl [(z 0, .inr (7, [.ref (z 1), .ref (z 3), .int (nI nd), .int (nI ((n2 + 1) + 1))])), (z 1, .inr (5, [.ref (z 2)])), (z 2, .inl (dA 0, 30, .inl tS)), (z 3, .inr (5, [.ref (z 4)])), (z 4, .inl (dA 0, 30, .inl (upd (fl (mgA sm tS tG) tG i7) i7 (-1))))] H := hP
              replace hD : va_D A [(z 0, .inr (7, [.ref (z 1), .ref (z 3), .int (nI nd), .int (nI ((n2 + 1) + 1))])), (z 1, .inr (5, [.ref (z 2)])), (z 2, .inl (dA 0, 30, .inl tS)), (z 3, .inr (5, [.ref (z 4)])), (z 4, .inl (dA 0, 30, .inl (upd (fl (mgA sm tS tG) tG i7) i7 (-1))))] := hD
              refine lv_iinc (v := nI ((cn (mgB sm tS tG) i7) + 1)) (lv' := [(2, .int (nI ((cn (mgB sm tS tG) i7) + 1))), (5, .int (tG i7)), (4, .int (nI i7)), (3, .int (nI (cn (mgL sm tS tG) i7))), (0, .ref (z 0)), (1, .int (nI sm))]) hx hb dX4_mergeWithNext_65 hl (k := 3) rfl (nI_add (cn (mgB sm tS tG) i7) 1) (by decide) rfl (fun ls hl => ?_)
              refine lv_goto (tgt := 84) hx hb dX4_mergeWithNext_68 (by decide) ?_
              refine lv_iinc (v := nI (i7 + 1)) (lv' := [(4, .int (nI (i7 + 1))), (2, .int (nI ((cn (mgB sm tS tG) i7) + 1))), (5, .int (tG i7)), (3, .int (nI (cn (mgL sm tS tG) i7))), (0, .ref (z 0)), (1, .int (nI sm))]) hx hb dX4_mergeWithNext_84 hl (k := 2) rfl (nI_add i7 1) (by decide) rfl (fun ls hl => ?_)
              refine lv_goto (tgt := 7) hx hb dX4_mergeWithNext_87 (by decide) ?_
              exact ih7 (i7 + 1) (upd (fl (mgA sm tS tG) tG i7) i7 (-1)) (nI ((cn (mgB sm tS tG) i7) + 1)) (nI (cn (mgL sm tS tG) i7)) (by omega) (by omega) (by omega) ⟨(fl_succ (by show _ = mgA _ _ _ _; simp [mgA, c11, c21, c25])), (cn_y (f := mgB sm tS tG) (by simp [mgB, c11, c21, c25])), (cn_n' (f := mgL sm tS tG) (by simp [mgL, c11, c21, c25]))⟩ _ _ hP hD hS ls (lv_sub hl [0, 3, 1, 4, 5] rfl)
          · refine lv_goto (tgt := 84) hx hb dX4_mergeWithNext_41 (by decide) ?_
            refine lv_iinc (v := nI (i7 + 1)) (lv' := [(4, .int (nI (i7 + 1))), (5, .int (tG i7)), (3, .int (nI (cn (mgL sm tS tG) i7))), (2, .int (nI (cn (mgB sm tS tG) i7))), (0, .ref (z 0)), (1, .int (nI sm))]) hx hb dX4_mergeWithNext_84 hl (k := 1) rfl (nI_add i7 1) (by decide) rfl (fun ls hl => ?_)
            refine lv_goto (tgt := 7) hx hb dX4_mergeWithNext_87 (by decide) ?_
            exact ih7 (i7 + 1) (fl (mgA sm tS tG) tG i7) (nI (cn (mgB sm tS tG) i7)) (nI (cn (mgL sm tS tG) i7)) (by omega) (by omega) (by omega) ⟨(fl_keep (by show  mgA _ _ _ _ = _; simp [mgA, c11, c21])), (cn_n' (f := mgB sm tS tG) (by simp [mgB, c11, c21])), (cn_n' (f := mgL sm tS tG) (by simp [mgL, c11, c21]))⟩ _ _ hP hD hS ls (lv_sub hl [0, 2, 3, 4, 5] rfl)
  exact K7 (nd + 1) 0 tG 0 0 (by omega) (by omega) (by omega) ⟨fl_0.symm, rfl, rfl⟩ _ _ hP hD hS ls hl
