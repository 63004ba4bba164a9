/-! CONTRACTS, general -/
set_option maxHeartbeats 4000000 in
set_option maxRecDepth 100000 in
theorem z_putInOrder (l : Launch) (D : va_G) (dA : Nat → ClassId) (E : Nat) (zq : Nat → Nat) (aq : Int32) (R : Nat → Int32) (h : Nat → Nat) (n dx : Nat) (sz : Nat) (hn : n < 30) (hdx : dx < 30) (hh : ∀ j, h j < 30)  : Met l yX3_putInOrder (wq (.code yX3_putInOrder cX3_putInOrder 3 none)) { frames := 1, cells := 0, slots := 0, locals := 22 } (va_Pc [.ref (zq 0), .int (nI dx)] (PcB D dA E [(zq 0, .inr (6, [.ref (zq 1), .ref (zq 3), .ref (zq 5), .ref (zq 7), .ref (zq 9), .ref (zq 11), .int aq, .int (nI n)])), (zq 7, .inr (5, [.ref (zq 8)])), (zq 8, .inl (dA 0, 30, .inl R)), (zq 9, .inr (5, [.ref (zq 10)])), (zq 10, .inl (dA 0, 30, .inl (nF h)))] sz)) (va_Qv (fun (u : Unit) => True) (fun u t => va_P D vwCl [(zq 0, .inr (6, [.ref (zq 1), .ref (zq 3), .ref (zq 5), .ref (zq 7), .ref (zq 9), .ref (zq 11), .int aq, .int (nI (n + 1))])), (zq 7, .inr (5, [.ref (zq 8)])), (zq 8, .inl (dA 0, 30, .inl R)), (zq 9, .inr (5, [.ref (zq 10)])), (zq 10, .inl (dA 0, 30, .inl (nF (shH h dx (stI R h dx n) n))))] t.heap ∧ va_D (va_A [(zq 0, .inr (6, [.ref (zq 1), .ref (zq 3), .ref (zq 5), .ref (zq 7), .ref (zq 9), .ref (zq 11), .int aq, .int (nI n)])), (zq 7, .inr (5, [.ref (zq 8)])), (zq 8, .inl (dA 0, 30, .inl R)), (zq 9, .inr (5, [.ref (zq 10)])), (zq 10, .inl (dA 0, 30, .inl (nF h)))] sz) [(zq 0, .inr (6, [.ref (zq 1), .ref (zq 3), .ref (zq 5), .ref (zq 7), .ref (zq 9), .ref (zq 11), .int aq, .int (nI (n + 1))])), (zq 7, .inr (5, [.ref (zq 8)])), (zq 8, .inl (dA 0, 30, .inl R)), (zq 9, .inr (5, [.ref (zq 10)])), (zq 10, .inl (dA 0, 30, .inl (nF (shH h dx (stI R h dx n) n))))]) (va_A [(zq 0, .inr (6, [.ref (zq 1), .ref (zq 3), .ref (zq 5), .ref (zq 7), .ref (zq 9), .ref (zq 11), .int aq, .int (nI n)])), (zq 7, .inr (5, [.ref (zq 8)])), (zq 8, .inl (dA 0, 30, .inl R)), (zq 9, .inr (5, [.ref (zq 10)])), (zq 10, .inl (dA 0, 30, .inl (nF h)))] sz)) 0 0 (va_A [(zq 0, .inr (6, [.ref (zq 1), .ref (zq 3), .ref (zq 5), .ref (zq 7), .ref (zq 9), .ref (zq 11), .int aq, .int (nI n)])), (zq 7, .inr (5, [.ref (zq 8)])), (zq 8, .inl (dA 0, 30, .inl R)), (zq 9, .inr (5, [.ref (zq 10)])), (zq 10, .inl (dA 0, 30, .inl (nF h)))] sz) := by
  refine mb_of (Qc := fun A => va_Qv (fun (u : Unit) => True) (fun u t => va_P D vwCl [(zq 0, .inr (6, [.ref (zq 1), .ref (zq 3), .ref (zq 5), .ref (zq 7), .ref (zq 9), .ref (zq 11), .int aq, .int (nI (n + 1))])), (zq 7, .inr (5, [.ref (zq 8)])), (zq 8, .inl (dA 0, 30, .inl R)), (zq 9, .inr (5, [.ref (zq 10)])), (zq 10, .inl (dA 0, 30, .inl (nF (shH h dx (stI R h dx n) n))))] t.heap ∧ va_D A [(zq 0, .inr (6, [.ref (zq 1), .ref (zq 3), .ref (zq 5), .ref (zq 7), .ref (zq 9), .ref (zq 11), .int aq, .int (nI (n + 1))])), (zq 7, .inr (5, [.ref (zq 8)])), (zq 8, .inl (dA 0, 30, .inl R)), (zq 9, .inr (5, [.ref (zq 10)])), (zq 10, .inl (dA 0, 30, .inl (nF (shH h dx (stI R h dx n) n))))]) A) RX3 rfl (by decide) (Nat.le_of_ble_eq_true rfl) ?_
  intro p e s m args below meth c hae hx hb hr hts hown hlocks hml hnm hP hK A hAe hD hZ hS hA ls hl
  replace hl : lv_has ls 3 [(0, .ref (zq 0)), (1, .int (nI dx))] := hl
  refine lv_aload_n hx hb dX3_putInOrder_0 rfl (lv_at hl 0 rfl) ?_
  refine va_get (D := D) (ci := 6) (v := .int (nI n)) (C := RX3) (T := TX3) (N := 8) hx hb hts inAX3 hown hK hP 0 rfl rfl 7 (by decide) (hts _ q443) (fun _ h9 => h9) rfl dX3_putInOrder_1 ?_
  refine lv_istore_n (lv' := [(2, .int (nI n)), (0, .ref (zq 0)), (1, .int (nI dx))]) hx hb dX3_putInOrder_4 rfl hl (by decide) rfl (fun ls hl => ?_)
  have K5 : ∀ (k5 : Nat) (g5_0 : Nat → Int32), k5 ≤ n → (upd g5_0 k5 (nI dx) = nF (shH h dx k5 n) ∧ stI R h dx n = stI R h dx k5) → ∀ (H : Heap) (locs : List Loc), va_P D vwCl [(zq 0, .inr (6, [.ref (zq 1), .ref (zq 3), .ref (zq 5), .ref (zq 7), .ref (zq 9), .ref (zq 11), .int aq, .int (nI n)])), (zq 7, .inr (5, [.ref (zq 8)])), (zq 8, .inl (dA 0, 30, .inl R)), (zq 9, .inr (5, [.ref (zq 10)])), (zq 10, .inl (dA 0, 30, .inl g5_0))] H → va_D A [(zq 0, .inr (6, [.ref (zq 1), .ref (zq 3), .ref (zq 5), .ref (zq 7), .ref (zq 9), .ref (zq 11), .int aq, .int (nI n)])), (zq 7, .inr (5, [.ref (zq 8)])), (zq 8, .inl (dA 0, 30, .inl R)), (zq 9, .inr (5, [.ref (zq 10)])), (zq 10, .inl (dA 0, 30, .inl g5_0))] → va_S A s.heap H locs → ∀ ls : Array Slot, lv_has ls 3 [(2, .int (nI k5)), (0, .ref (zq 0)), (1, .int (nI dx))] → W p l e { frames := 1, cells := 0, slots := 0, locals := 22 } s m args below meth c H locs 0 0 (MQ below (va_Qv (fun (u : Unit) => True) (fun u t => va_P D vwCl [(zq 0, .inr (6, [.ref (zq 1), .ref (zq 3), .ref (zq 5), .ref (zq 7), .ref (zq 9), .ref (zq 11), .int aq, .int (nI (n + 1))])), (zq 7, .inr (5, [.ref (zq 8)])), (zq 8, .inl (dA 0, 30, .inl R)), (zq 9, .inr (5, [.ref (zq 10)])), (zq 10, .inl (dA 0, 30, .inl (nF (shH h dx (stI R h dx n) n))))] t.heap ∧ va_D A [(zq 0, .inr (6, [.ref (zq 1), .ref (zq 3), .ref (zq 5), .ref (zq 7), .ref (zq 9), .ref (zq 11), .int aq, .int (nI (n + 1))])), (zq 7, .inr (5, [.ref (zq 8)])), (zq 8, .inl (dA 0, 30, .inl R)), (zq 9, .inr (5, [.ref (zq 10)])), (zq 10, .inl (dA 0, 30, .inl (nF (shH h dx (stI R h dx n) n))))]) A) args s 0 0 A) (F0 m 5 ls []) := by
    intro k5
    induction k5 with
    | zero =>
      intro g5_0 hkd5 hex5 H locs hP hD hS ls hl
      refine lv_iload_n hx hb dX3_putInOrder_5 rfl (lv_at hl 0 rfl) ?_
      refine lv_if_le (tgt := 61) hx hb dX3_putInOrder_6 (by decide) (fun _ => ?_) (fun h9 => absurd (show nI 0 ≤ 0 by decide) h9)
      refine lv_aload_n hx hb dX3_putInOrder_61 rfl (lv_at hl 1 rfl) ?_
      refine va_get (D := D) (ci := 6) (v := .ref (zq 9)) (C := RX3) (T := TX3) (N := 8) hx hb hts inAX3 hown hK hP 0 rfl rfl 4 (by decide) (hts _ q317) (fun _ h9 => h9) rfl dX3_putInOrder_62 ?_
      refine lv_iload_n hx hb dX3_putInOrder_65 rfl (lv_at hl 0 rfl) ?_
      refine lv_iload_n hx hb dX3_putInOrder_66 rfl (lv_at hl 2 rfl) ?_
      replace hPc := hP.sub (ws' := [(zq 9, .inr (5, [.ref (zq 10)])), (zq 10, .inl (dA 0, 30, .inl g5_0))]) [3, 4] rfl
      replace hDc := hD.sub (ws' := [(zq 9, .inr (5, [.ref (zq 10)])), (zq 10, .inl (dA 0, 30, .inl g5_0))]) [3, 4] (by decide) rfl
      replace hFc := va_free (wc := [(zq 9, .inr (5, [.ref (zq 10)])), (zq 10, .inl (dA 0, 30, .inl g5_0))]) hD hS hA [3, 4] rfl
      refine va_callv (va_runV (As := [.int (nI 0), .int (nI dx)]) (rest := []) ⟨hx, hb, hml, hown, hts⟩ (t_putN l D dA E (zq 9) (zq 10) 30 g5_0 0 (nI dx) H.size  (by omega) (by decide)) (cwV 2 hts (ga_V q444 q210 q207 q204 q208) rfl rfl rfl (by decide +kernel) ⟨(Nat.le_of_ble_eq_true rfl), (Nat.le_of_ble_eq_true rfl)⟩) ⟨pb_blind, va_recv hK hPc (ci := 5) (q0 := 0) rfl rfl, pb_pre hK hPc hDc hZ hS hFc _⟩ rfl rfl hl.1 rfl (lv_room (Nat.le_of_ble_eq_true rfl)) dX3_putInOrder_67 ⟨(Nat.le_of_ble_eq_true rfl), (Nat.le_of_ble_eq_true rfl)⟩) hS (fun q _ h => hFc q h) hFc (fun u t H1 locs ht hvm hw hB hz1 hk1 hS => ?_)
      refine W.widen (k := 0) (n := 0) (Nat.le_of_ble_eq_true rfl) (Nat.le_of_ble_eq_true rfl) ?_
      obtain ⟨u1, rfl⟩ : ∃ z, z = u := ⟨_, rfl⟩
      have hw2 := hw
      clear hw
      obtain ⟨hP1, hD1⟩ := hB
      rw [ht] at hP1
      obtain ⟨hP, hD⟩ := va_join (wr := [(zq 0, .inr (6, [.ref (zq 1), .ref (zq 3), .ref (zq 5), .ref (zq 7), .ref (zq 9), .ref (zq 11), .int aq, .int (nI n)])), (zq 7, .inr (5, [.ref (zq 8)])), (zq 8, .inl (dA 0, 30, .inl R))]) (w1 := [(zq 9, .inr (5, [.ref (zq 10)])), (zq 10, .inl (dA 0, 30, .inl (upd g5_0 0 (nI dx))))]) hP hD [3, 4] [0, 1, 2] rfl rfl (by decide) (by decide) hk1 hFc hP1 hD1
      generalize H1 = H at hP hS ⊢
      replace hP : va_P D vwCl [(zq 0, .inr (6, [.ref (zq 1), .ref (zq 3), .ref (zq 5), .ref (zq 7), .ref (zq 9), .ref (zq 11), .int aq, .int (nI n)])), (zq 7, .inr (5, [.ref (zq 8)])), (zq 8, .inl (dA 0, 30, .inl R)), (zq 9, .inr (5, [.ref (zq 10)])), (zq 10, .inl (dA 0, 30, .inl (upd g5_0 0 (nI dx))))] H := hP
      replace hD : va_D A [(zq 0, .inr (6, [.ref (zq 1), .ref (zq 3), .ref (zq 5), .ref (zq 7), .ref (zq 9), .ref (zq 11), .int aq, .int (nI n)])), (zq 7, .inr (5, [.ref (zq 8)])), (zq 8, .inl (dA 0, 30, .inl R)), (zq 9, .inr (5, [.ref (zq 10)])), (zq 10, .inl (dA 0, 30, .inl (upd g5_0 0 (nI dx))))] := hD
      rw [show upd g5_0 0 (nI dx) = nF (shH h dx (stI R h dx n) n) from (by rw [hex5.2]; exact hex5.1)] at hP hD
      replace hP : va_P D vwCl [(zq 0, .inr (6, [.ref (zq 1), .ref (zq 3), .ref (zq 5), .ref (zq 7), .ref (zq 9), .ref (zq 11), .int aq, .int (nI n)])), (zq 7, .inr (5, [.ref (zq 8)])), (zq 8, .inl (dA 0, 30, .inl R)), (zq 9, .inr (5, [.ref (zq 10)])), (zq 10, .inl (dA 0, 30, .inl (nF (shH h dx (stI R h dx n) n))))] H := hP
      replace hD : va_D A [(zq 0, .inr (6, [.ref (zq 1), .ref (zq 3), .ref (zq 5), .ref (zq 7), .ref (zq 9), .ref (zq 11), .int aq, .int (nI n)])), (zq 7, .inr (5, [.ref (zq 8)])), (zq 8, .inl (dA 0, 30, .inl R)), (zq 9, .inr (5, [.ref (zq 10)])), (zq 10, .inl (dA 0, 30, .inl (nF (shH h dx (stI R h dx n) n))))] := hD
      refine lv_aload_n hx hb dX3_putInOrder_70 rfl (lv_at hl 1 rfl) ?_
      refine lv_dup hx hb dX3_putInOrder_71 rfl ?_
      refine va_get (D := D) (ci := 6) (v := .int (nI n)) (C := RX3) (T := TX3) (N := 8) hx hb hts inAX3 hown hK hP 0 rfl rfl 7 (by decide) (hts _ q443) (fun _ h9 => h9) rfl dX3_putInOrder_72 ?_
      refine lv_iconst (v := 1) hx hb dX3_putInOrder_75 (by decide) ?_
      refine lv_iadd hx hb dX3_putInOrder_76 ?_
      refine lv_topi (fun x3 ex3 => ?_)
      obtain rfl : x3 = nI (n + 1) := ex3.trans (nI_add n 1)
      refine va_put (D := D) (ci := 6) (v := .int (nI (n + 1))) (ty := .int) (C := RX3) (T := TX3) (N := 8) hx hb hts inAX3 tyX3 tyX3_ok nmX3 hown hK hP hD hS 0 rfl rfl 7 (by decide) (hts _ q443) (fun _ h9 => h9) rfl (tyX3_ok 7 (by decide)) rfl rfl (Nat.le_of_ble_eq_true rfl) dX3_putInOrder_77 (fun H locs hP hD hS => ?_)
      replace hP : va_P D vwCl [(zq 0, .inr (6, [.ref (zq 1), .ref (zq 3), .ref (zq 5), .ref (zq 7), .ref (zq 9), .ref (zq 11), .int aq, .int (nI (n + 1))])), (zq 7, .inr (5, [.ref (zq 8)])), (zq 8, .inl (dA 0, 30, .inl R)), (zq 9, .inr (5, [.ref (zq 10)])), (zq 10, .inl (dA 0, 30, .inl (nF (shH h dx (stI R h dx n) n))))] H := hP
      replace hD : va_D A [(zq 0, .inr (6, [.ref (zq 1), .ref (zq 3), .ref (zq 5), .ref (zq 7), .ref (zq 9), .ref (zq 11), .int aq, .int (nI (n + 1))])), (zq 7, .inr (5, [.ref (zq 8)])), (zq 8, .inl (dA 0, 30, .inl R)), (zq 9, .inr (5, [.ref (zq 10)])), (zq 10, .inl (dA 0, 30, .inl (nF (shH h dx (stI R h dx n) n))))] := hD
      refine W.widen (k := 0) (n := 0) (Nat.le_of_ble_eq_true rfl) (Nat.le_of_ble_eq_true rfl) ?_
      have hP9 := hP.sub (ws' := [(zq 0, .inr (6, [.ref (zq 1), .ref (zq 3), .ref (zq 5), .ref (zq 7), .ref (zq 9), .ref (zq 11), .int aq, .int (nI (n + 1))])), (zq 7, .inr (5, [.ref (zq 8)])), (zq 8, .inl (dA 0, 30, .inl R)), (zq 9, .inr (5, [.ref (zq 10)])), (zq 10, .inl (dA 0, 30, .inl (nF (shH h dx (stI R h dx n) n))))]) [0, 1, 2, 3, 4] rfl
      have hD9 := hD.sub (ws' := [(zq 0, .inr (6, [.ref (zq 1), .ref (zq 3), .ref (zq 5), .ref (zq 7), .ref (zq 9), .ref (zq 11), .int aq, .int (nI (n + 1))])), (zq 7, .inr (5, [.ref (zq 8)])), (zq 8, .inl (dA 0, 30, .inl R)), (zq 9, .inr (5, [.ref (zq 10)])), (zq 10, .inl (dA 0, 30, .inl (nF (shH h dx (stI R h dx n) n))))]) [0, 1, 2, 3, 4] (by decide) rfl
      exact W.vret hx hb hr (fun t ht hW => ⟨⟨(), rfl, trivial, ⟨by rw [ht]; exact hP9, hD9⟩⟩, hS.F ht⟩) hS.2.2 dX3_putInOrder_80
    | succ k5 ih5 =>
      intro g5_0 hkd5 hex5 H locs hP hD hS ls hl
      refine lv_iload_n hx hb dX3_putInOrder_5 rfl (lv_at hl 0 rfl) ?_
      refine lv_if_le (tgt := 61) hx hb dX3_putInOrder_6 (by decide) (fun h9 => absurd h9 (nI_nle (by omega) (by omega))) (fun _ => ?_)
      refine lv_aload_n hx hb dX3_putInOrder_9 rfl (lv_at hl 1 rfl) ?_
      refine va_get (D := D) (ci := 6) (v := .ref (zq 7)) (C := RX3) (T := TX3) (N := 8) hx hb hts inAX3 hown hK hP 0 rfl rfl 3 (by decide) (hts _ q316) (fun _ h9 => h9) rfl dX3_putInOrder_10 ?_
      refine lv_aload_n hx hb dX3_putInOrder_13 rfl (lv_at hl 1 rfl) ?_
      refine va_get (D := D) (ci := 6) (v := .ref (zq 9)) (C := RX3) (T := TX3) (N := 8) hx hb hts inAX3 hown hK hP 0 rfl rfl 4 (by decide) (hts _ q317) (fun _ h9 => h9) rfl dX3_putInOrder_14 ?_
      refine lv_iload_n hx hb dX3_putInOrder_17 rfl (lv_at hl 0 rfl) ?_
      refine lv_iconst (v := 1) hx hb dX3_putInOrder_18 (by decide) ?_
      refine lv_isub hx hb dX3_putInOrder_19 ?_
      refine lv_topi (fun x4 ex4 => ?_)
      obtain rfl : x4 = nI k5 := ex4.trans (nI_pred k5)
      replace hPc := hP.sub (ws' := [(zq 9, .inr (5, [.ref (zq 10)])), (zq 10, .inl (dA 0, 30, .inl g5_0))]) [3, 4] rfl
      replace hDc := hD.sub (ws' := [(zq 9, .inr (5, [.ref (zq 10)])), (zq 10, .inl (dA 0, 30, .inl g5_0))]) [3, 4] (by decide) rfl
      replace hFc := va_free (wc := [(zq 9, .inr (5, [.ref (zq 10)])), (zq 10, .inl (dA 0, 30, .inl g5_0))]) hD hS hA [3, 4] rfl
      refine va_calli (va_runV (As := [.int (nI k5)]) (rest := [.ref (zq 7)]) ⟨hx, hb, hml, hown, hts⟩ (t_getN l D dA E (zq 9) (zq 10) 30 g5_0 k5 H.size  (by omega) (by decide)) (cwV 1 hts (ga_V q438 q203 q200 q204 q201) rfl rfl rfl (by decide +kernel) ⟨(Nat.le_of_ble_eq_true rfl), (Nat.le_of_ble_eq_true rfl)⟩) ⟨pb_blind, va_recv hK hPc (ci := 5) (q0 := 0) rfl rfl, pb_pre hK hPc hDc hZ hS hFc _⟩ rfl rfl hl.1 rfl (lv_room (Nat.le_of_ble_eq_true rfl)) dX3_putInOrder_20 ⟨(Nat.le_of_ble_eq_true rfl), (Nat.le_of_ble_eq_true rfl)⟩) hS (fun q _ h => hFc q h) hFc (fun r u t H1 locs ht hvm hw hB hz1 hk1 hS => ?_)
      refine W.widen (k := 0) (n := 0) (Nat.le_of_ble_eq_true rfl) (Nat.le_of_ble_eq_true rfl) ?_
      obtain ⟨r5, rfl⟩ : ∃ z, z = r := ⟨_, rfl⟩
      obtain ⟨u6, rfl⟩ : ∃ z, z = u := ⟨_, rfl⟩
      have hw7 := hw
      clear hw
      obtain ⟨hP1, hD1⟩ := hB
      rw [ht] at hP1
      obtain ⟨hP, hD⟩ := va_join (wr := [(zq 0, .inr (6, [.ref (zq 1), .ref (zq 3), .ref (zq 5), .ref (zq 7), .ref (zq 9), .ref (zq 11), .int aq, .int (nI n)])), (zq 7, .inr (5, [.ref (zq 8)])), (zq 8, .inl (dA 0, 30, .inl R))]) (w1 := [(zq 9, .inr (5, [.ref (zq 10)])), (zq 10, .inl (dA 0, 30, .inl g5_0))]) hP hD [3, 4] [0, 1, 2] rfl rfl (by decide) (by decide) hk1 hFc hP1 hD1
      generalize H1 = H at hP hS ⊢
      replace hP : va_P D vwCl [(zq 0, .inr (6, [.ref (zq 1), .ref (zq 3), .ref (zq 5), .ref (zq 7), .ref (zq 9), .ref (zq 11), .int aq, .int (nI n)])), (zq 7, .inr (5, [.ref (zq 8)])), (zq 8, .inl (dA 0, 30, .inl R)), (zq 9, .inr (5, [.ref (zq 10)])), (zq 10, .inl (dA 0, 30, .inl g5_0))] H := hP
      replace hD : va_D A [(zq 0, .inr (6, [.ref (zq 1), .ref (zq 3), .ref (zq 5), .ref (zq 7), .ref (zq 9), .ref (zq 11), .int aq, .int (nI n)])), (zq 7, .inr (5, [.ref (zq 8)])), (zq 8, .inl (dA 0, 30, .inl R)), (zq 9, .inr (5, [.ref (zq 10)])), (zq 10, .inl (dA 0, 30, .inl g5_0))] := hD
      obtain rfl : r5 = nI (h k5) := (show r5 = g5_0 k5 from hw7).trans (pio_rd hex5.1)
      have hhk5 := hh k5
      replace hPc := hP.sub (ws' := [(zq 7, .inr (5, [.ref (zq 8)])), (zq 8, .inl (dA 0, 30, .inl R))]) [1, 2] rfl
      replace hDc := hD.sub (ws' := [(zq 7, .inr (5, [.ref (zq 8)])), (zq 8, .inl (dA 0, 30, .inl R))]) [1, 2] (by decide) rfl
      replace hFc := va_free (wc := [(zq 7, .inr (5, [.ref (zq 8)])), (zq 8, .inl (dA 0, 30, .inl R))]) hD hS hA [1, 2] rfl
      refine va_calli (va_runV (As := [.int (nI (h k5))]) (rest := []) ⟨hx, hb, hml, hown, hts⟩ (t_getN l D dA E (zq 7) (zq 8) 30 R (h k5) H.size  (by omega) (by decide)) (cwV 1 hts (ga_V q438 q203 q200 q204 q201) rfl rfl rfl (by decide +kernel) ⟨(Nat.le_of_ble_eq_true rfl), (Nat.le_of_ble_eq_true rfl)⟩) ⟨pb_blind, va_recv hK hPc (ci := 5) (q0 := 0) rfl rfl, pb_pre hK hPc hDc hZ hS hFc _⟩ rfl rfl hl.1 rfl (lv_room (Nat.le_of_ble_eq_true rfl)) dX3_putInOrder_23 ⟨(Nat.le_of_ble_eq_true rfl), (Nat.le_of_ble_eq_true rfl)⟩) hS (fun q _ h => hFc q h) hFc (fun r u t H1 locs ht hvm hw hB hz1 hk1 hS => ?_)
      refine W.widen (k := 0) (n := 0) (Nat.le_of_ble_eq_true rfl) (Nat.le_of_ble_eq_true rfl) ?_
      obtain ⟨r8, rfl⟩ : ∃ z, z = r := ⟨_, rfl⟩
      obtain ⟨u9, rfl⟩ : ∃ z, z = u := ⟨_, rfl⟩
      have hw10 := hw
      clear hw
      obtain ⟨hP1, hD1⟩ := hB
      rw [ht] at hP1
      obtain ⟨hP, hD⟩ := va_join (wr := [(zq 0, .inr (6, [.ref (zq 1), .ref (zq 3), .ref (zq 5), .ref (zq 7), .ref (zq 9), .ref (zq 11), .int aq, .int (nI n)])), (zq 9, .inr (5, [.ref (zq 10)])), (zq 10, .inl (dA 0, 30, .inl g5_0))]) (w1 := [(zq 7, .inr (5, [.ref (zq 8)])), (zq 8, .inl (dA 0, 30, .inl R))]) hP hD [1, 2] [0, 3, 4] rfl rfl (by decide) (by decide) hk1 hFc hP1 hD1
      generalize H1 = H at hP hS ⊢
      replace hP : va_P D vwCl [(zq 0, .inr (6, [.ref (zq 1), .ref (zq 3), .ref (zq 5), .ref (zq 7), .ref (zq 9), .ref (zq 11), .int aq, .int (nI n)])), (zq 9, .inr (5, [.ref (zq 10)])), (zq 10, .inl (dA 0, 30, .inl g5_0)), (zq 7, .inr (5, [.ref (zq 8)])), (zq 8, .inl (dA 0, 30, .inl R))] H := hP
      replace hD : va_D A [(zq 0, .inr (6, [.ref (zq 1), .ref (zq 3), .ref (zq 5), .ref (zq 7), .ref (zq 9), .ref (zq 11), .int aq, .int (nI n)])), (zq 9, .inr (5, [.ref (zq 10)])), (zq 10, .inl (dA 0, 30, .inl g5_0)), (zq 7, .inr (5, [.ref (zq 8)])), (zq 8, .inl (dA 0, 30, .inl R))] := hD
      obtain rfl : r8 = R (h k5) := hw10
      refine lv_aload_n hx hb dX3_putInOrder_26 rfl (lv_at hl 1 rfl) ?_
      refine va_get (D := D) (ci := 6) (v := .ref (zq 7)) (C := RX3) (T := TX3) (N := 8) hx hb hts inAX3 hown hK hP 0 rfl rfl 3 (by decide) (hts _ q316) (fun _ h9 => h9) rfl dX3_putInOrder_27 ?_
      refine lv_iload_n hx hb dX3_putInOrder_30 rfl (lv_at hl 2 rfl) ?_
      replace hPc := hP.sub (ws' := [(zq 7, .inr (5, [.ref (zq 8)])), (zq 8, .inl (dA 0, 30, .inl R))]) [3, 4] rfl
      replace hDc := hD.sub (ws' := [(zq 7, .inr (5, [.ref (zq 8)])), (zq 8, .inl (dA 0, 30, .inl R))]) [3, 4] (by decide) rfl
      replace hFc := va_free (wc := [(zq 7, .inr (5, [.ref (zq 8)])), (zq 8, .inl (dA 0, 30, .inl R))]) hD hS hA [3, 4] rfl
      refine va_calli (va_runV (As := [.int (nI dx)]) (rest := [.int (R (h k5))]) ⟨hx, hb, hml, hown, hts⟩ (t_getN l D dA E (zq 7) (zq 8) 30 R dx H.size  (by omega) (by decide)) (cwV 1 hts (ga_V q438 q203 q200 q204 q201) rfl rfl rfl (by decide +kernel) ⟨(Nat.le_of_ble_eq_true rfl), (Nat.le_of_ble_eq_true rfl)⟩) ⟨pb_blind, va_recv hK hPc (ci := 5) (q0 := 0) rfl rfl, pb_pre hK hPc hDc hZ hS hFc _⟩ rfl rfl hl.1 rfl (lv_room (Nat.le_of_ble_eq_true rfl)) dX3_putInOrder_31 ⟨(Nat.le_of_ble_eq_true rfl), (Nat.le_of_ble_eq_true rfl)⟩) hS (fun q _ h => hFc q h) hFc (fun r u t H1 locs ht hvm hw hB hz1 hk1 hS => ?_)
      refine W.widen (k := 0) (n := 0) (Nat.le_of_ble_eq_true rfl) (Nat.le_of_ble_eq_true rfl) ?_
      obtain ⟨r11, rfl⟩ : ∃ z, z = r := ⟨_, rfl⟩
      obtain ⟨u12, rfl⟩ : ∃ z, z = u := ⟨_, rfl⟩
      have hw13 := hw
      clear hw
      obtain ⟨hP1, hD1⟩ := hB
      rw [ht] at hP1
      obtain ⟨hP, hD⟩ := va_join (wr := [(zq 0, .inr (6, [.ref (zq 1), .ref (zq 3), .ref (zq 5), .ref (zq 7), .ref (zq 9), .ref (zq 11), .int aq, .int (nI n)])), (zq 9, .inr (5, [.ref (zq 10)])), (zq 10, .inl (dA 0, 30, .inl g5_0))]) (w1 := [(zq 7, .inr (5, [.ref (zq 8)])), (zq 8, .inl (dA 0, 30, .inl R))]) hP hD [3, 4] [0, 1, 2] rfl rfl (by decide) (by decide) hk1 hFc hP1 hD1
      generalize H1 = H at hP hS ⊢
      replace hP : va_P D vwCl [(zq 0, .inr (6, [.ref (zq 1), .ref (zq 3), .ref (zq 5), .ref (zq 7), .ref (zq 9), .ref (zq 11), .int aq, .int (nI n)])), (zq 9, .inr (5, [.ref (zq 10)])), (zq 10, .inl (dA 0, 30, .inl g5_0)), (zq 7, .inr (5, [.ref (zq 8)])), (zq 8, .inl (dA 0, 30, .inl R))] H := hP
      replace hD : va_D A [(zq 0, .inr (6, [.ref (zq 1), .ref (zq 3), .ref (zq 5), .ref (zq 7), .ref (zq 9), .ref (zq 11), .int aq, .int (nI n)])), (zq 9, .inr (5, [.ref (zq 10)])), (zq 10, .inl (dA 0, 30, .inl g5_0)), (zq 7, .inr (5, [.ref (zq 8)])), (zq 8, .inl (dA 0, 30, .inl R))] := hD
      obtain rfl : r11 = R dx := hw13
      refine lv_icmp_ge (tgt := 61) hx hb dX3_putInOrder_34 (by decide) (fun c14 => ?_) (fun c14 => ?_)
      · refine lv_aload_n hx hb dX3_putInOrder_61 rfl (lv_at hl 1 rfl) ?_
        refine va_get (D := D) (ci := 6) (v := .ref (zq 9)) (C := RX3) (T := TX3) (N := 8) hx hb hts inAX3 hown hK hP 0 rfl rfl 4 (by decide) (hts _ q317) (fun _ h9 => h9) rfl dX3_putInOrder_62 ?_
        refine lv_iload_n hx hb dX3_putInOrder_65 rfl (lv_at hl 0 rfl) ?_
        refine lv_iload_n hx hb dX3_putInOrder_66 rfl (lv_at hl 2 rfl) ?_
        replace hPc := hP.sub (ws' := [(zq 9, .inr (5, [.ref (zq 10)])), (zq 10, .inl (dA 0, 30, .inl g5_0))]) [1, 2] rfl
        replace hDc := hD.sub (ws' := [(zq 9, .inr (5, [.ref (zq 10)])), (zq 10, .inl (dA 0, 30, .inl g5_0))]) [1, 2] (by decide) rfl
        replace hFc := va_free (wc := [(zq 9, .inr (5, [.ref (zq 10)])), (zq 10, .inl (dA 0, 30, .inl g5_0))]) hD hS hA [1, 2] rfl
        refine va_callv (va_runV (As := [.int (nI (k5 + 1)), .int (nI dx)]) (rest := []) ⟨hx, hb, hml, hown, hts⟩ (t_putN l D dA E (zq 9) (zq 10) 30 g5_0 (k5 + 1) (nI dx) H.size  (by omega) (by decide)) (cwV 2 hts (ga_V q444 q210 q207 q204 q208) rfl rfl rfl (by decide +kernel) ⟨(Nat.le_of_ble_eq_true rfl), (Nat.le_of_ble_eq_true rfl)⟩) ⟨pb_blind, va_recv hK hPc (ci := 5) (q0 := 0) rfl rfl, pb_pre hK hPc hDc hZ hS hFc _⟩ rfl rfl hl.1 rfl (lv_room (Nat.le_of_ble_eq_true rfl)) dX3_putInOrder_67 ⟨(Nat.le_of_ble_eq_true rfl), (Nat.le_of_ble_eq_true rfl)⟩) hS (fun q _ h => hFc q h) hFc (fun u t H1 locs ht hvm hw hB hz1 hk1 hS => ?_)
        refine W.widen (k := 0) (n := 0) (Nat.le_of_ble_eq_true rfl) (Nat.le_of_ble_eq_true rfl) ?_
        obtain ⟨u15, rfl⟩ : ∃ z, z = u := ⟨_, rfl⟩
        have hw16 := hw
        clear hw
        obtain ⟨hP1, hD1⟩ := hB
        rw [ht] at hP1
        obtain ⟨hP, hD⟩ := va_join (wr := [(zq 0, .inr (6, [.ref (zq 1), .ref (zq 3), .ref (zq 5), .ref (zq 7), .ref (zq 9), .ref (zq 11), .int aq, .int (nI n)])), (zq 7, .inr (5, [.ref (zq 8)])), (zq 8, .inl (dA 0, 30, .inl R))]) (w1 := [(zq 9, .inr (5, [.ref (zq 10)])), (zq 10, .inl (dA 0, 30, .inl (upd g5_0 (k5 + 1) (nI dx))))]) hP hD [1, 2] [0, 3, 4] rfl rfl (by decide) (by decide) hk1 hFc hP1 hD1
        generalize H1 = H at hP hS ⊢
        replace hP : va_P D vwCl [(zq 0, .inr (6, [.ref (zq 1), .ref (zq 3), .ref (zq 5), .ref (zq 7), .ref (zq 9), .ref (zq 11), .int aq, .int (nI n)])), (zq 7, .inr (5, [.ref (zq 8)])), (zq 8, .inl (dA 0, 30, .inl R)), (zq 9, .inr (5, [.ref (zq 10)])), (zq 10, .inl (dA 0, 30, .inl (upd g5_0 (k5 + 1) (nI dx))))] H := hP
        replace hD : va_D A [(zq 0, .inr (6, [.ref (zq 1), .ref (zq 3), .ref (zq 5), .ref (zq 7), .ref (zq 9), .ref (zq 11), .int aq, .int (nI n)])), (zq 7, .inr (5, [.ref (zq 8)])), (zq 8, .inl (dA 0, 30, .inl R)), (zq 9, .inr (5, [.ref (zq 10)])), (zq 10, .inl (dA 0, 30, .inl (upd g5_0 (k5 + 1) (nI dx))))] := hD
        rw [show upd g5_0 (k5 + 1) (nI dx) = nF (shH h dx (stI R h dx n) n) from (by rw [hex5.2.trans (if_neg (Int32.not_lt.mpr c14))]; exact hex5.1)] at hP hD
        replace hP : va_P D vwCl [(zq 0, .inr (6, [.ref (zq 1), .ref (zq 3), .ref (zq 5), .ref (zq 7), .ref (zq 9), .ref (zq 11), .int aq, .int (nI n)])), (zq 7, .inr (5, [.ref (zq 8)])), (zq 8, .inl (dA 0, 30, .inl R)), (zq 9, .inr (5, [.ref (zq 10)])), (zq 10, .inl (dA 0, 30, .inl (nF (shH h dx (stI R h dx n) n))))] H := hP
        replace hD : va_D A [(zq 0, .inr (6, [.ref (zq 1), .ref (zq 3), .ref (zq 5), .ref (zq 7), .ref (zq 9), .ref (zq 11), .int aq, .int (nI n)])), (zq 7, .inr (5, [.ref (zq 8)])), (zq 8, .inl (dA 0, 30, .inl R)), (zq 9, .inr (5, [.ref (zq 10)])), (zq 10, .inl (dA 0, 30, .inl (nF (shH h dx (stI R h dx n) n))))] := hD
        refine lv_aload_n hx hb dX3_putInOrder_70 rfl (lv_at hl 1 rfl) ?_
        refine lv_dup hx hb dX3_putInOrder_71 rfl ?_
        refine va_get (D := D) (ci := 6) (v := .int (nI n)) (C := RX3) (T := TX3) (N := 8) hx hb hts inAX3 hown hK hP 0 rfl rfl 7 (by decide) (hts _ q443) (fun _ h9 => h9) rfl dX3_putInOrder_72 ?_
        refine lv_iconst (v := 1) hx hb dX3_putInOrder_75 (by decide) ?_
        refine lv_iadd hx hb dX3_putInOrder_76 ?_
        refine lv_topi (fun x17 ex17 => ?_)
        obtain rfl : x17 = nI (n + 1) := ex17.trans (nI_add n 1)
        refine va_put (D := D) (ci := 6) (v := .int (nI (n + 1))) (ty := .int) (C := RX3) (T := TX3) (N := 8) hx hb hts inAX3 tyX3 tyX3_ok nmX3 hown hK hP hD hS 0 rfl rfl 7 (by decide) (hts _ q443) (fun _ h9 => h9) rfl (tyX3_ok 7 (by decide)) rfl rfl (Nat.le_of_ble_eq_true rfl) dX3_putInOrder_77 (fun H locs hP hD hS => ?_)
        replace hP : va_P D vwCl [(zq 0, .inr (6, [.ref (zq 1), .ref (zq 3), .ref (zq 5), .ref (zq 7), .ref (zq 9), .ref (zq 11), .int aq, .int (nI (n + 1))])), (zq 7, .inr (5, [.ref (zq 8)])), (zq 8, .inl (dA 0, 30, .inl R)), (zq 9, .inr (5, [.ref (zq 10)])), (zq 10, .inl (dA 0, 30, .inl (nF (shH h dx (stI R h dx n) n))))] H := hP
        replace hD : va_D A [(zq 0, .inr (6, [.ref (zq 1), .ref (zq 3), .ref (zq 5), .ref (zq 7), .ref (zq 9), .ref (zq 11), .int aq, .int (nI (n + 1))])), (zq 7, .inr (5, [.ref (zq 8)])), (zq 8, .inl (dA 0, 30, .inl R)), (zq 9, .inr (5, [.ref (zq 10)])), (zq 10, .inl (dA 0, 30, .inl (nF (shH h dx (stI R h dx n) n))))] := hD
        refine W.widen (k := 0) (n := 0) (Nat.le_of_ble_eq_true rfl) (Nat.le_of_ble_eq_true rfl) ?_
        have hP9 := hP.sub (ws' := [(zq 0, .inr (6, [.ref (zq 1), .ref (zq 3), .ref (zq 5), .ref (zq 7), .ref (zq 9), .ref (zq 11), .int aq, .int (nI (n + 1))])), (zq 7, .inr (5, [.ref (zq 8)])), (zq 8, .inl (dA 0, 30, .inl R)), (zq 9, .inr (5, [.ref (zq 10)])), (zq 10, .inl (dA 0, 30, .inl (nF (shH h dx (stI R h dx n) n))))]) [0, 1, 2, 3, 4] rfl
        have hD9 := hD.sub (ws' := [(zq 0, .inr (6, [.ref (zq 1), .ref (zq 3), .ref (zq 5), .ref (zq 7), .ref (zq 9), .ref (zq 11), .int aq, .int (nI (n + 1))])), (zq 7, .inr (5, [.ref (zq 8)])), (zq 8, .inl (dA 0, 30, .inl R)), (zq 9, .inr (5, [.ref (zq 10)])), (zq 10, .inl (dA 0, 30, .inl (nF (shH h dx (stI R h dx n) n))))]) [0, 1, 2, 3, 4] (by decide) rfl
        exact W.vret hx hb hr (fun t ht hW => ⟨⟨(), rfl, trivial, ⟨by rw [ht]; exact hP9, hD9⟩⟩, hS.F ht⟩) hS.2.2 dX3_putInOrder_80
      · refine lv_aload_n hx hb dX3_putInOrder_37 rfl (lv_at hl 1 rfl) ?_
        refine va_get (D := D) (ci := 6) (v := .ref (zq 9)) (C := RX3) (T := TX3) (N := 8) hx hb hts inAX3 hown hK hP 0 rfl rfl 4 (by decide) (hts _ q317) (fun _ h9 => h9) rfl dX3_putInOrder_38 ?_
        refine lv_iload_n hx hb dX3_putInOrder_41 rfl (lv_at hl 0 rfl) ?_
        refine lv_aload_n hx hb dX3_putInOrder_42 rfl (lv_at hl 1 rfl) ?_
        refine va_get (D := D) (ci := 6) (v := .ref (zq 9)) (C := RX3) (T := TX3) (N := 8) hx hb hts inAX3 hown hK hP 0 rfl rfl 4 (by decide) (hts _ q317) (fun _ h9 => h9) rfl dX3_putInOrder_43 ?_
        refine lv_iload_n hx hb dX3_putInOrder_46 rfl (lv_at hl 0 rfl) ?_
        refine lv_iconst (v := 1) hx hb dX3_putInOrder_47 (by decide) ?_
        refine lv_isub hx hb dX3_putInOrder_48 ?_
        refine lv_topi (fun x18 ex18 => ?_)
        obtain rfl : x18 = nI k5 := ex18.trans (nI_pred k5)
        replace hPc := hP.sub (ws' := [(zq 9, .inr (5, [.ref (zq 10)])), (zq 10, .inl (dA 0, 30, .inl g5_0))]) [1, 2] rfl
        replace hDc := hD.sub (ws' := [(zq 9, .inr (5, [.ref (zq 10)])), (zq 10, .inl (dA 0, 30, .inl g5_0))]) [1, 2] (by decide) rfl
        replace hFc := va_free (wc := [(zq 9, .inr (5, [.ref (zq 10)])), (zq 10, .inl (dA 0, 30, .inl g5_0))]) hD hS hA [1, 2] rfl
        refine va_calli (va_runV (As := [.int (nI k5)]) (rest := [.int (nI (k5 + 1)), .ref (zq 9)]) ⟨hx, hb, hml, hown, hts⟩ (t_getN l D dA E (zq 9) (zq 10) 30 g5_0 k5 H.size  (by omega) (by decide)) (cwV 1 hts (ga_V q438 q203 q200 q204 q201) rfl rfl rfl (by decide +kernel) ⟨(Nat.le_of_ble_eq_true rfl), (Nat.le_of_ble_eq_true rfl)⟩) ⟨pb_blind, va_recv hK hPc (ci := 5) (q0 := 0) rfl rfl, pb_pre hK hPc hDc hZ hS hFc _⟩ rfl rfl hl.1 rfl (lv_room (Nat.le_of_ble_eq_true rfl)) dX3_putInOrder_49 ⟨(Nat.le_of_ble_eq_true rfl), (Nat.le_of_ble_eq_true rfl)⟩) hS (fun q _ h => hFc q h) hFc (fun r u t H1 locs ht hvm hw hB hz1 hk1 hS => ?_)
        refine W.widen (k := 0) (n := 0) (Nat.le_of_ble_eq_true rfl) (Nat.le_of_ble_eq_true rfl) ?_
        obtain ⟨r19, rfl⟩ : ∃ z, z = r := ⟨_, rfl⟩
        obtain ⟨u20, rfl⟩ : ∃ z, z = u := ⟨_, rfl⟩
        have hw21 := hw
        clear hw
        obtain ⟨hP1, hD1⟩ := hB
        rw [ht] at hP1
        obtain ⟨hP, hD⟩ := va_join (wr := [(zq 0, .inr (6, [.ref (zq 1), .ref (zq 3), .ref (zq 5), .ref (zq 7), .ref (zq 9), .ref (zq 11), .int aq, .int (nI n)])), (zq 7, .inr (5, [.ref (zq 8)])), (zq 8, .inl (dA 0, 30, .inl R))]) (w1 := [(zq 9, .inr (5, [.ref (zq 10)])), (zq 10, .inl (dA 0, 30, .inl g5_0))]) hP hD [1, 2] [0, 3, 4] rfl rfl (by decide) (by decide) hk1 hFc hP1 hD1
        generalize H1 = H at hP hS ⊢
        replace hP : va_P D vwCl [(zq 0, .inr (6, [.ref (zq 1), .ref (zq 3), .ref (zq 5), .ref (zq 7), .ref (zq 9), .ref (zq 11), .int aq, .int (nI n)])), (zq 7, .inr (5, [.ref (zq 8)])), (zq 8, .inl (dA 0, 30, .inl R)), (zq 9, .inr (5, [.ref (zq 10)])), (zq 10, .inl (dA 0, 30, .inl g5_0))] H := hP
        replace hD : va_D A [(zq 0, .inr (6, [.ref (zq 1), .ref (zq 3), .ref (zq 5), .ref (zq 7), .ref (zq 9), .ref (zq 11), .int aq, .int (nI n)])), (zq 7, .inr (5, [.ref (zq 8)])), (zq 8, .inl (dA 0, 30, .inl R)), (zq 9, .inr (5, [.ref (zq 10)])), (zq 10, .inl (dA 0, 30, .inl g5_0))] := hD
        obtain rfl : r19 = nI (h k5) := (show r19 = g5_0 k5 from hw21).trans (pio_rd hex5.1)
        have hhk5 := hh k5
        replace hPc := hP.sub (ws' := [(zq 9, .inr (5, [.ref (zq 10)])), (zq 10, .inl (dA 0, 30, .inl g5_0))]) [3, 4] rfl
        replace hDc := hD.sub (ws' := [(zq 9, .inr (5, [.ref (zq 10)])), (zq 10, .inl (dA 0, 30, .inl g5_0))]) [3, 4] (by decide) rfl
        replace hFc := va_free (wc := [(zq 9, .inr (5, [.ref (zq 10)])), (zq 10, .inl (dA 0, 30, .inl g5_0))]) hD hS hA [3, 4] rfl
        refine va_callv (va_runV (As := [.int (nI (k5 + 1)), .int (nI (h k5))]) (rest := []) ⟨hx, hb, hml, hown, hts⟩ (t_putN l D dA E (zq 9) (zq 10) 30 g5_0 (k5 + 1) (nI (h k5)) H.size  (by omega) (by decide)) (cwV 2 hts (ga_V q444 q210 q207 q204 q208) rfl rfl rfl (by decide +kernel) ⟨(Nat.le_of_ble_eq_true rfl), (Nat.le_of_ble_eq_true rfl)⟩) ⟨pb_blind, va_recv hK hPc (ci := 5) (q0 := 0) rfl rfl, pb_pre hK hPc hDc hZ hS hFc _⟩ rfl rfl hl.1 rfl (lv_room (Nat.le_of_ble_eq_true rfl)) dX3_putInOrder_52 ⟨(Nat.le_of_ble_eq_true rfl), (Nat.le_of_ble_eq_true rfl)⟩) hS (fun q _ h => hFc q h) hFc (fun u t H1 locs ht hvm hw hB hz1 hk1 hS => ?_)
        refine W.widen (k := 0) (n := 0) (Nat.le_of_ble_eq_true rfl) (Nat.le_of_ble_eq_true rfl) ?_
        obtain ⟨u22, rfl⟩ : ∃ z, z = u := ⟨_, rfl⟩
        have hw23 := hw
        clear hw
        obtain ⟨hP1, hD1⟩ := hB
        rw [ht] at hP1
        obtain ⟨hP, hD⟩ := va_join (wr := [(zq 0, .inr (6, [.ref (zq 1), .ref (zq 3), .ref (zq 5), .ref (zq 7), .ref (zq 9), .ref (zq 11), .int aq, .int (nI n)])), (zq 7, .inr (5, [.ref (zq 8)])), (zq 8, .inl (dA 0, 30, .inl R))]) (w1 := [(zq 9, .inr (5, [.ref (zq 10)])), (zq 10, .inl (dA 0, 30, .inl (upd g5_0 (k5 + 1) (nI (h k5)))))]) hP hD [3, 4] [0, 1, 2] rfl rfl (by decide) (by decide) hk1 hFc hP1 hD1
        generalize H1 = H at hP hS ⊢
        replace hP : va_P D vwCl [(zq 0, .inr (6, [.ref (zq 1), .ref (zq 3), .ref (zq 5), .ref (zq 7), .ref (zq 9), .ref (zq 11), .int aq, .int (nI n)])), (zq 7, .inr (5, [.ref (zq 8)])), (zq 8, .inl (dA 0, 30, .inl R)), (zq 9, .inr (5, [.ref (zq 10)])), (zq 10, .inl (dA 0, 30, .inl (upd g5_0 (k5 + 1) (nI (h k5)))))] H := hP
        replace hD : va_D A [(zq 0, .inr (6, [.ref (zq 1), .ref (zq 3), .ref (zq 5), .ref (zq 7), .ref (zq 9), .ref (zq 11), .int aq, .int (nI n)])), (zq 7, .inr (5, [.ref (zq 8)])), (zq 8, .inl (dA 0, 30, .inl R)), (zq 9, .inr (5, [.ref (zq 10)])), (zq 10, .inl (dA 0, 30, .inl (upd g5_0 (k5 + 1) (nI (h k5)))))] := hD
        refine lv_iinc (v := nI k5) (lv' := [(2, .int (nI k5)), (0, .ref (zq 0)), (1, .int (nI dx))]) hx hb dX3_putInOrder_55 hl (k := 0) rfl (pk_m1 k5) (by decide) rfl (fun ls hl => ?_)
        refine lv_goto (tgt := 5) hx hb dX3_putInOrder_58 (by decide) ?_
        exact ih5 (upd g5_0 (k5 + 1) (nI (h k5))) (by omega) ⟨pio_st (by omega) hex5.1, hex5.2.trans (if_pos (Int32.not_le.mp c14))⟩ _ _ hP hD hS ls (lv_sub hl [0, 1, 2] rfl)
  exact K5 n (nF h) (by omega) ⟨shH_end.symm, rfl⟩ _ _ hP hD hS ls hl
