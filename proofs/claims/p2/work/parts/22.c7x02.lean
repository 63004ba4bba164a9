/-! CONTRACTS, general -/
set_option maxHeartbeats 4000000 in
set_option maxRecDepth 100000 in
theorem q_isCouple (l : Launch) (D : va_G) (dA : Nat → ClassId) (E : Nat) (qo : Nat) (qk qa qb qd qw qn : Int32) (tt : Nat → Nat) (tw tp tx : Nat → Int32) (nm : Nat) (ki kj : Nat) (sz : Nat) (hnm : nm ≤ 84) (hki : ki < 84) (hkj : kj < 84)  : Met l yX1_isCouple (wq (.code yX1_isCouple cX1_isCouple 5 (some .boolean))) { frames := 1, cells := 0, slots := 0, locals := 21 } (va_Pc [.ref qo, .ref (tt 0), .int (nI ki), .int (nI kj)] (PcB D dA E [(qo, .inr (4, [.int qk, .int qa, .int qb, .int qd, .int qw, .int qn])), (tt 0, .inr (9, [.ref (tt 1), .ref (tt 3), .ref (tt 5), .int (nI nm)])), (tt 1, .inr (5, [.ref (tt 2)])), (tt 2, .inl (dA 0, 84, .inl tw)), (tt 3, .inr (5, [.ref (tt 4)])), (tt 4, .inl (dA 0, 84, .inl tp)), (tt 5, .inr (5, [.ref (tt 6)])), (tt 6, .inl (dA 0, 84, .inl tx))] sz)) (va_Qi (fun (r : Int32) (u : Unit) => r = bI (icB qk qb qd tw tp ki kj)) (fun u t => va_P D vwCl [(qo, .inr (4, [.int qk, .int qa, .int qb, .int qd, .int qw, .int qn])), (tt 0, .inr (9, [.ref (tt 1), .ref (tt 3), .ref (tt 5), .int (nI nm)])), (tt 1, .inr (5, [.ref (tt 2)])), (tt 2, .inl (dA 0, 84, .inl tw)), (tt 3, .inr (5, [.ref (tt 4)])), (tt 4, .inl (dA 0, 84, .inl tp)), (tt 5, .inr (5, [.ref (tt 6)])), (tt 6, .inl (dA 0, 84, .inl tx))] t.heap ∧ va_D (va_A [(qo, .inr (4, [.int qk, .int qa, .int qb, .int qd, .int qw, .int qn])), (tt 0, .inr (9, [.ref (tt 1), .ref (tt 3), .ref (tt 5), .int (nI nm)])), (tt 1, .inr (5, [.ref (tt 2)])), (tt 2, .inl (dA 0, 84, .inl tw)), (tt 3, .inr (5, [.ref (tt 4)])), (tt 4, .inl (dA 0, 84, .inl tp)), (tt 5, .inr (5, [.ref (tt 6)])), (tt 6, .inl (dA 0, 84, .inl tx))] sz) [(qo, .inr (4, [.int qk, .int qa, .int qb, .int qd, .int qw, .int qn])), (tt 0, .inr (9, [.ref (tt 1), .ref (tt 3), .ref (tt 5), .int (nI nm)])), (tt 1, .inr (5, [.ref (tt 2)])), (tt 2, .inl (dA 0, 84, .inl tw)), (tt 3, .inr (5, [.ref (tt 4)])), (tt 4, .inl (dA 0, 84, .inl tp)), (tt 5, .inr (5, [.ref (tt 6)])), (tt 6, .inl (dA 0, 84, .inl tx))]) (va_A [(qo, .inr (4, [.int qk, .int qa, .int qb, .int qd, .int qw, .int qn])), (tt 0, .inr (9, [.ref (tt 1), .ref (tt 3), .ref (tt 5), .int (nI nm)])), (tt 1, .inr (5, [.ref (tt 2)])), (tt 2, .inl (dA 0, 84, .inl tw)), (tt 3, .inr (5, [.ref (tt 4)])), (tt 4, .inl (dA 0, 84, .inl tp)), (tt 5, .inr (5, [.ref (tt 6)])), (tt 6, .inl (dA 0, 84, .inl tx))] sz)) 0 0 (va_A [(qo, .inr (4, [.int qk, .int qa, .int qb, .int qd, .int qw, .int qn])), (tt 0, .inr (9, [.ref (tt 1), .ref (tt 3), .ref (tt 5), .int (nI nm)])), (tt 1, .inr (5, [.ref (tt 2)])), (tt 2, .inl (dA 0, 84, .inl tw)), (tt 3, .inr (5, [.ref (tt 4)])), (tt 4, .inl (dA 0, 84, .inl tp)), (tt 5, .inr (5, [.ref (tt 6)])), (tt 6, .inl (dA 0, 84, .inl tx))] sz) := by
  refine mb_of (Qc := fun A => va_Qi (fun (r : Int32) (u : Unit) => r = bI (icB qk qb qd tw tp ki kj)) (fun u t => va_P D vwCl [(qo, .inr (4, [.int qk, .int qa, .int qb, .int qd, .int qw, .int qn])), (tt 0, .inr (9, [.ref (tt 1), .ref (tt 3), .ref (tt 5), .int (nI nm)])), (tt 1, .inr (5, [.ref (tt 2)])), (tt 2, .inl (dA 0, 84, .inl tw)), (tt 3, .inr (5, [.ref (tt 4)])), (tt 4, .inl (dA 0, 84, .inl tp)), (tt 5, .inr (5, [.ref (tt 6)])), (tt 6, .inl (dA 0, 84, .inl tx))] t.heap ∧ va_D A [(qo, .inr (4, [.int qk, .int qa, .int qb, .int qd, .int qw, .int qn])), (tt 0, .inr (9, [.ref (tt 1), .ref (tt 3), .ref (tt 5), .int (nI nm)])), (tt 1, .inr (5, [.ref (tt 2)])), (tt 2, .inl (dA 0, 84, .inl tw)), (tt 3, .inr (5, [.ref (tt 4)])), (tt 4, .inl (dA 0, 84, .inl tp)), (tt 5, .inr (5, [.ref (tt 6)])), (tt 6, .inl (dA 0, 84, .inl tx))]) A) RX1 rfl (by decide) (Nat.le_of_ble_eq_true rfl) ?_
  intro p e s m args below meth c hae hx hb hr hts hown hlocks hml hnm hP hK A hAe hD hZ hS hA ls hl
  replace hl : lv_has ls 5 [(0, .ref qo), (1, .ref (tt 0)), (2, .int (nI ki)), (3, .int (nI kj))] := hl
  refine lv_aload_n hx hb dX1_isCouple_0 rfl (lv_at hl 1 rfl) ?_
  refine va_getN (D := D) (ci := 9) (v := .ref (tt 1)) (C := RX6) (T := TX6) (N := 4) hx hb hts inAX6 hown hK hP 1 rfl rfl 0 (by decide) (va_Nw.use rfl (hZ.1.2.2.1 _ (List.mem_of_getElem? (i := 2) rfl))) (fun _ h9 => h9) rfl dX1_isCouple_1 ?_
  refine lv_iload_n hx hb dX1_isCouple_4 rfl (lv_at hl 3 rfl) ?_
  replace hPc := hP.sub (ws' := [(tt 1, .inr (5, [.ref (tt 2)])), (tt 2, .inl (dA 0, 84, .inl tw))]) [2, 3] rfl
  replace hDc := hD.sub (ws' := [(tt 1, .inr (5, [.ref (tt 2)])), (tt 2, .inl (dA 0, 84, .inl tw))]) [2, 3] (by decide) rfl
  replace hFc := va_free (wc := [(tt 1, .inr (5, [.ref (tt 2)])), (tt 2, .inl (dA 0, 84, .inl tw))]) hD hS hA [2, 3] rfl
  refine va_calli (va_runV (As := [.int (nI kj)]) (rest := []) ⟨hx, hb, hml, hown, hts⟩ (t_getN l D dA E (tt 1) (tt 2) 84 tw kj s.heap.size  (by omega) (by decide)) (cwV 1 hts (ga_V q420 q203 q200 q204 q201) rfl rfl rfl (by decide +kernel) ⟨(Nat.le_of_ble_eq_true rfl), (Nat.le_of_ble_eq_true rfl)⟩) ⟨pb_blind, va_recv hK hPc (ci := 5) (q0 := 0) rfl rfl, pb_pre hK hPc hDc hZ hS hFc _⟩ rfl rfl hl.1 rfl (lv_room (Nat.le_of_ble_eq_true rfl)) dX1_isCouple_5 ⟨(Nat.le_of_ble_eq_true rfl), (Nat.le_of_ble_eq_true rfl)⟩) hS (fun q _ h => hFc q h) hFc (fun r u t H1 locs ht hvm hw hB hz1 hk1 hS => ?_)
  refine W.widen (k := 0) (n := 0) (Nat.le_of_ble_eq_true rfl) (Nat.le_of_ble_eq_true rfl) ?_
  obtain ⟨r1, rfl⟩ : ∃ z, z = r := ⟨_, rfl⟩
  obtain ⟨u2, rfl⟩ : ∃ z, z = u := ⟨_, rfl⟩
  have hw3 := hw
  clear hw
  obtain ⟨hP1, hD1⟩ := hB
  rw [ht] at hP1
  obtain ⟨hP, hD⟩ := va_join (wr := [(qo, .inr (4, [.int qk, .int qa, .int qb, .int qd, .int qw, .int qn])), (tt 0, .inr (9, [.ref (tt 1), .ref (tt 3), .ref (tt 5), .int (nI nm)])), (tt 3, .inr (5, [.ref (tt 4)])), (tt 4, .inl (dA 0, 84, .inl tp)), (tt 5, .inr (5, [.ref (tt 6)])), (tt 6, .inl (dA 0, 84, .inl tx))]) (w1 := [(tt 1, .inr (5, [.ref (tt 2)])), (tt 2, .inl (dA 0, 84, .inl tw))]) hP hD [2, 3] [0, 1, 4, 5, 6, 7] rfl rfl (by decide) (by decide) hk1 hFc hP1 hD1
  generalize H1 = H at hP hS ⊢
  replace hP : va_P D vwCl [(qo, .inr (4, [.int qk, .int qa, .int qb, .int qd, .int qw, .int qn])), (tt 0, .inr (9, [.ref (tt 1), .ref (tt 3), .ref (tt 5), .int (nI nm)])), (tt 3, .inr (5, [.ref (tt 4)])), (tt 4, .inl (dA 0, 84, .inl tp)), (tt 5, .inr (5, [.ref (tt 6)])), (tt 6, .inl (dA 0, 84, .inl tx)), (tt 1, .inr (5, [.ref (tt 2)])), (tt 2, .inl (dA 0, 84, .inl tw))] H := hP
  replace hD : va_D A [(qo, .inr (4, [.int qk, .int qa, .int qb, .int qd, .int qw, .int qn])), (tt 0, .inr (9, [.ref (tt 1), .ref (tt 3), .ref (tt 5), .int (nI nm)])), (tt 3, .inr (5, [.ref (tt 4)])), (tt 4, .inl (dA 0, 84, .inl tp)), (tt 5, .inr (5, [.ref (tt 6)])), (tt 6, .inl (dA 0, 84, .inl tx)), (tt 1, .inr (5, [.ref (tt 2)])), (tt 2, .inl (dA 0, 84, .inl tw))] := hD
  obtain rfl : r1 = tw kj := hw3
  refine lv_aload_n hx hb dX1_isCouple_8 rfl (lv_at hl 0 rfl) ?_
  refine va_get (D := D) (ci := 4) (v := .int qb) (C := RX1) (T := TX1) (N := 6) hx hb hts inAX1 hown hK hP 0 rfl rfl 2 (by decide) (hts _ q303) (fun _ h9 => h9) rfl dX1_isCouple_9 ?_
  refine lv_icmp_eq (tgt := 17) hx hb dX1_isCouple_12 (by decide) (fun c4 => ?_) (fun c4 => ?_)
  · refine lv_aload_n hx hb dX1_isCouple_17 rfl (lv_at hl 1 rfl) ?_
    refine va_getN (D := D) (ci := 9) (v := .ref (tt 3)) (C := RX6) (T := TX6) (N := 4) hx hb hts inAX6 hown hK hP 1 rfl rfl 1 (by decide) (va_Nw.use rfl (hZ.1.2.2.1 _ (List.mem_of_getElem? (i := 3) rfl))) (fun _ h9 => h9) rfl dX1_isCouple_18 ?_
    refine lv_iload_n hx hb dX1_isCouple_21 rfl (lv_at hl 3 rfl) ?_
    replace hPc := hP.sub (ws' := [(tt 3, .inr (5, [.ref (tt 4)])), (tt 4, .inl (dA 0, 84, .inl tp))]) [2, 3] rfl
    replace hDc := hD.sub (ws' := [(tt 3, .inr (5, [.ref (tt 4)])), (tt 4, .inl (dA 0, 84, .inl tp))]) [2, 3] (by decide) rfl
    replace hFc := va_free (wc := [(tt 3, .inr (5, [.ref (tt 4)])), (tt 4, .inl (dA 0, 84, .inl tp))]) hD hS hA [2, 3] rfl
    refine va_calli (va_runV (As := [.int (nI kj)]) (rest := []) ⟨hx, hb, hml, hown, hts⟩ (t_getN l D dA E (tt 3) (tt 4) 84 tp kj H.size  (by omega) (by decide)) (cwV 1 hts (ga_V q420 q203 q200 q204 q201) rfl rfl rfl (by decide +kernel) ⟨(Nat.le_of_ble_eq_true rfl), (Nat.le_of_ble_eq_true rfl)⟩) ⟨pb_blind, va_recv hK hPc (ci := 5) (q0 := 0) rfl rfl, pb_pre hK hPc hDc hZ hS hFc _⟩ rfl rfl hl.1 rfl (lv_room (Nat.le_of_ble_eq_true rfl)) dX1_isCouple_22 ⟨(Nat.le_of_ble_eq_true rfl), (Nat.le_of_ble_eq_true rfl)⟩) hS (fun q _ h => hFc q h) hFc (fun r u t H1 locs ht hvm hw hB hz1 hk1 hS => ?_)
    refine W.widen (k := 0) (n := 0) (Nat.le_of_ble_eq_true rfl) (Nat.le_of_ble_eq_true rfl) ?_
    obtain ⟨r5, rfl⟩ : ∃ z, z = r := ⟨_, rfl⟩
    obtain ⟨u6, rfl⟩ : ∃ z, z = u := ⟨_, rfl⟩
    have hw7 := hw
    clear hw
    obtain ⟨hP1, hD1⟩ := hB
    rw [ht] at hP1
    obtain ⟨hP, hD⟩ := va_join (wr := [(qo, .inr (4, [.int qk, .int qa, .int qb, .int qd, .int qw, .int qn])), (tt 0, .inr (9, [.ref (tt 1), .ref (tt 3), .ref (tt 5), .int (nI nm)])), (tt 5, .inr (5, [.ref (tt 6)])), (tt 6, .inl (dA 0, 84, .inl tx)), (tt 1, .inr (5, [.ref (tt 2)])), (tt 2, .inl (dA 0, 84, .inl tw))]) (w1 := [(tt 3, .inr (5, [.ref (tt 4)])), (tt 4, .inl (dA 0, 84, .inl tp))]) hP hD [2, 3] [0, 1, 4, 5, 6, 7] rfl rfl (by decide) (by decide) hk1 hFc hP1 hD1
    generalize H1 = H at hP hS ⊢
    replace hP : va_P D vwCl [(qo, .inr (4, [.int qk, .int qa, .int qb, .int qd, .int qw, .int qn])), (tt 0, .inr (9, [.ref (tt 1), .ref (tt 3), .ref (tt 5), .int (nI nm)])), (tt 5, .inr (5, [.ref (tt 6)])), (tt 6, .inl (dA 0, 84, .inl tx)), (tt 1, .inr (5, [.ref (tt 2)])), (tt 2, .inl (dA 0, 84, .inl tw)), (tt 3, .inr (5, [.ref (tt 4)])), (tt 4, .inl (dA 0, 84, .inl tp))] H := hP
    replace hD : va_D A [(qo, .inr (4, [.int qk, .int qa, .int qb, .int qd, .int qw, .int qn])), (tt 0, .inr (9, [.ref (tt 1), .ref (tt 3), .ref (tt 5), .int (nI nm)])), (tt 5, .inr (5, [.ref (tt 6)])), (tt 6, .inl (dA 0, 84, .inl tx)), (tt 1, .inr (5, [.ref (tt 2)])), (tt 2, .inl (dA 0, 84, .inl tw)), (tt 3, .inr (5, [.ref (tt 4)])), (tt 4, .inl (dA 0, 84, .inl tp))] := hD
    obtain rfl : r5 = tp kj := hw7
    refine lv_aload_n hx hb dX1_isCouple_25 rfl (lv_at hl 1 rfl) ?_
    refine va_getN (D := D) (ci := 9) (v := .ref (tt 3)) (C := RX6) (T := TX6) (N := 4) hx hb hts inAX6 hown hK hP 1 rfl rfl 1 (by decide) (va_Nw.use rfl (hZ.1.2.2.1 _ (List.mem_of_getElem? (i := 3) rfl))) (fun _ h9 => h9) rfl dX1_isCouple_26 ?_
    refine lv_iload_n hx hb dX1_isCouple_29 rfl (lv_at hl 2 rfl) ?_
    replace hPc := hP.sub (ws' := [(tt 3, .inr (5, [.ref (tt 4)])), (tt 4, .inl (dA 0, 84, .inl tp))]) [6, 7] rfl
    replace hDc := hD.sub (ws' := [(tt 3, .inr (5, [.ref (tt 4)])), (tt 4, .inl (dA 0, 84, .inl tp))]) [6, 7] (by decide) rfl
    replace hFc := va_free (wc := [(tt 3, .inr (5, [.ref (tt 4)])), (tt 4, .inl (dA 0, 84, .inl tp))]) hD hS hA [6, 7] rfl
    refine va_calli (va_runV (As := [.int (nI ki)]) (rest := [.int (tp kj)]) ⟨hx, hb, hml, hown, hts⟩ (t_getN l D dA E (tt 3) (tt 4) 84 tp ki H.size  (by omega) (by decide)) (cwV 1 hts (ga_V q420 q203 q200 q204 q201) rfl rfl rfl (by decide +kernel) ⟨(Nat.le_of_ble_eq_true rfl), (Nat.le_of_ble_eq_true rfl)⟩) ⟨pb_blind, va_recv hK hPc (ci := 5) (q0 := 0) rfl rfl, pb_pre hK hPc hDc hZ hS hFc _⟩ rfl rfl hl.1 rfl (lv_room (Nat.le_of_ble_eq_true rfl)) dX1_isCouple_30 ⟨(Nat.le_of_ble_eq_true rfl), (Nat.le_of_ble_eq_true rfl)⟩) hS (fun q _ h => hFc q h) hFc (fun r u t H1 locs ht hvm hw hB hz1 hk1 hS => ?_)
    refine W.widen (k := 0) (n := 0) (Nat.le_of_ble_eq_true rfl) (Nat.le_of_ble_eq_true rfl) ?_
    obtain ⟨r8, rfl⟩ : ∃ z, z = r := ⟨_, rfl⟩
    obtain ⟨u9, rfl⟩ : ∃ z, z = u := ⟨_, rfl⟩
    have hw10 := hw
    clear hw
    obtain ⟨hP1, hD1⟩ := hB
    rw [ht] at hP1
    obtain ⟨hP, hD⟩ := va_join (wr := [(qo, .inr (4, [.int qk, .int qa, .int qb, .int qd, .int qw, .int qn])), (tt 0, .inr (9, [.ref (tt 1), .ref (tt 3), .ref (tt 5), .int (nI nm)])), (tt 5, .inr (5, [.ref (tt 6)])), (tt 6, .inl (dA 0, 84, .inl tx)), (tt 1, .inr (5, [.ref (tt 2)])), (tt 2, .inl (dA 0, 84, .inl tw))]) (w1 := [(tt 3, .inr (5, [.ref (tt 4)])), (tt 4, .inl (dA 0, 84, .inl tp))]) hP hD [6, 7] [0, 1, 2, 3, 4, 5] rfl rfl (by decide) (by decide) hk1 hFc hP1 hD1
    generalize H1 = H at hP hS ⊢
    replace hP : va_P D vwCl [(qo, .inr (4, [.int qk, .int qa, .int qb, .int qd, .int qw, .int qn])), (tt 0, .inr (9, [.ref (tt 1), .ref (tt 3), .ref (tt 5), .int (nI nm)])), (tt 5, .inr (5, [.ref (tt 6)])), (tt 6, .inl (dA 0, 84, .inl tx)), (tt 1, .inr (5, [.ref (tt 2)])), (tt 2, .inl (dA 0, 84, .inl tw)), (tt 3, .inr (5, [.ref (tt 4)])), (tt 4, .inl (dA 0, 84, .inl tp))] H := hP
    replace hD : va_D A [(qo, .inr (4, [.int qk, .int qa, .int qb, .int qd, .int qw, .int qn])), (tt 0, .inr (9, [.ref (tt 1), .ref (tt 3), .ref (tt 5), .int (nI nm)])), (tt 5, .inr (5, [.ref (tt 6)])), (tt 6, .inl (dA 0, 84, .inl tx)), (tt 1, .inr (5, [.ref (tt 2)])), (tt 2, .inl (dA 0, 84, .inl tw)), (tt 3, .inr (5, [.ref (tt 4)])), (tt 4, .inl (dA 0, 84, .inl tp))] := hD
    obtain rfl : r8 = tp ki := hw10
    refine lv_isub hx hb dX1_isCouple_33 ?_
    refine lv_istore (lv' := [(4, .int ((tp kj) - (tp ki))), (0, .ref qo), (1, .ref (tt 0)), (2, .int (nI ki)), (3, .int (nI kj))]) hx hb dX1_isCouple_34 hl (by decide) rfl (fun ls hl => ?_)
    refine lv_aload_n hx hb dX1_isCouple_36 rfl (lv_at hl 1 rfl) ?_
    refine va_get (D := D) (ci := 4) (v := .int qk) (C := RX1) (T := TX1) (N := 6) hx hb hts inAX1 hown hK hP 0 rfl rfl 0 (by decide) (hts _ q301) (fun _ h9 => h9) rfl dX1_isCouple_37 ?_
    refine lv_bipush (v := 112) hx hb dX1_isCouple_40 (by decide) ?_
    refine lv_icmp_ne (tgt := 57) hx hb dX1_isCouple_42 (by decide) (fun c11 => ?_) (fun c11 => ?_)
    · refine lv_iload hx hb dX1_isCouple_57 (lv_at hl 0 rfl) ?_
      refine lv_if_eq (tgt := 85) hx hb dX1_isCouple_59 (by decide) (fun c12 => ?_) (fun c12 => ?_)
      · refine lv_iconst (v := 0) hx hb dX1_isCouple_85 (by decide) ?_
        refine W.widen (k := 0) (n := 0) (Nat.le_of_ble_eq_true rfl) (Nat.le_of_ble_eq_true rfl) ?_
        have hP9 := hP.sub (ws' := [(qo, .inr (4, [.int qk, .int qa, .int qb, .int qd, .int qw, .int qn])), (tt 0, .inr (9, [.ref (tt 1), .ref (tt 3), .ref (tt 5), .int (nI nm)])), (tt 1, .inr (5, [.ref (tt 2)])), (tt 2, .inl (dA 0, 84, .inl tw)), (tt 3, .inr (5, [.ref (tt 4)])), (tt 4, .inl (dA 0, 84, .inl tp)), (tt 5, .inr (5, [.ref (tt 6)])), (tt 6, .inl (dA 0, 84, .inl tx))]) [0, 1, 4, 5, 6, 7, 2, 3] rfl
        have hD9 := hD.sub (ws' := [(qo, .inr (4, [.int qk, .int qa, .int qb, .int qd, .int qw, .int qn])), (tt 0, .inr (9, [.ref (tt 1), .ref (tt 3), .ref (tt 5), .int (nI nm)])), (tt 1, .inr (5, [.ref (tt 2)])), (tt 2, .inl (dA 0, 84, .inl tw)), (tt 3, .inr (5, [.ref (tt 4)])), (tt 4, .inl (dA 0, 84, .inl tp)), (tt 5, .inr (5, [.ref (tt 6)])), (tt 6, .inl (dA 0, 84, .inl tx))]) [0, 1, 4, 5, 6, 7, 2, 3] (by decide) rfl
        exact W.zret (v := 0) hx hb hr rfl (fun t ht hW => ⟨⟨0, (), rfl, (show _ = bI (icB qk qb qd tw tp ki kj) from by simp [icB, bI, c4, c11, c12]), ⟨by rw [ht]; exact hP9, hD9⟩⟩, hS.F ht⟩) hS.2.2 dX1_isCouple_86
      · refine lv_iload hx hb dX1_isCouple_62 (lv_at hl 0 rfl) ?_
        refine lv_aload_n hx hb dX1_isCouple_64 rfl (lv_at hl 1 rfl) ?_
        refine va_get (D := D) (ci := 4) (v := .int qd) (C := RX1) (T := TX1) (N := 6) hx hb hts inAX1 hown hK hP 0 rfl rfl 3 (by decide) (hts _ q304) (fun _ h9 => h9) rfl dX1_isCouple_65 ?_
        refine lv_ineg hx hb dX1_isCouple_68 ?_
        refine lv_icmp_lt (tgt := 85) hx hb dX1_isCouple_69 (by decide) (fun c13 => ?_) (fun c13 => ?_)
        · refine lv_iconst (v := 0) hx hb dX1_isCouple_85 (by decide) ?_
          refine W.widen (k := 0) (n := 0) (Nat.le_of_ble_eq_true rfl) (Nat.le_of_ble_eq_true rfl) ?_
          have hP9 := hP.sub (ws' := [(qo, .inr (4, [.int qk, .int qa, .int qb, .int qd, .int qw, .int qn])), (tt 0, .inr (9, [.ref (tt 1), .ref (tt 3), .ref (tt 5), .int (nI nm)])), (tt 1, .inr (5, [.ref (tt 2)])), (tt 2, .inl (dA 0, 84, .inl tw)), (tt 3, .inr (5, [.ref (tt 4)])), (tt 4, .inl (dA 0, 84, .inl tp)), (tt 5, .inr (5, [.ref (tt 6)])), (tt 6, .inl (dA 0, 84, .inl tx))]) [0, 1, 4, 5, 6, 7, 2, 3] rfl
          have hD9 := hD.sub (ws' := [(qo, .inr (4, [.int qk, .int qa, .int qb, .int qd, .int qw, .int qn])), (tt 0, .inr (9, [.ref (tt 1), .ref (tt 3), .ref (tt 5), .int (nI nm)])), (tt 1, .inr (5, [.ref (tt 2)])), (tt 2, .inl (dA 0, 84, .inl tw)), (tt 3, .inr (5, [.ref (tt 4)])), (tt 4, .inl (dA 0, 84, .inl tp)), (tt 5, .inr (5, [.ref (tt 6)])), (tt 6, .inl (dA 0, 84, .inl tx))]) [0, 1, 4, 5, 6, 7, 2, 3] (by decide) rfl
          exact W.zret (v := 0) hx hb hr rfl (fun t ht hW => ⟨⟨0, (), rfl, (show _ = bI (icB qk qb qd tw tp ki kj) from by simp [icB, bI, c4, c11, c12, c13]), ⟨by rw [ht]; exact hP9, hD9⟩⟩, hS.F ht⟩) hS.2.2 dX1_isCouple_86
        · refine lv_iload hx hb dX1_isCouple_72 (lv_at hl 0 rfl) ?_
          refine lv_aload_n hx hb dX1_isCouple_74 rfl (lv_at hl 1 rfl) ?_
          refine va_get (D := D) (ci := 4) (v := .int qd) (C := RX1) (T := TX1) (N := 6) hx hb hts inAX1 hown hK hP 0 rfl rfl 3 (by decide) (hts _ q304) (fun _ h9 => h9) rfl dX1_isCouple_75 ?_
          refine lv_icmp_gt (tgt := 85) hx hb dX1_isCouple_78 (by decide) (fun c14 => ?_) (fun c14 => ?_)
          · refine lv_iconst (v := 0) hx hb dX1_isCouple_85 (by decide) ?_
            refine W.widen (k := 0) (n := 0) (Nat.le_of_ble_eq_true rfl) (Nat.le_of_ble_eq_true rfl) ?_
            have hP9 := hP.sub (ws' := [(qo, .inr (4, [.int qk, .int qa, .int qb, .int qd, .int qw, .int qn])), (tt 0, .inr (9, [.ref (tt 1), .ref (tt 3), .ref (tt 5), .int (nI nm)])), (tt 1, .inr (5, [.ref (tt 2)])), (tt 2, .inl (dA 0, 84, .inl tw)), (tt 3, .inr (5, [.ref (tt 4)])), (tt 4, .inl (dA 0, 84, .inl tp)), (tt 5, .inr (5, [.ref (tt 6)])), (tt 6, .inl (dA 0, 84, .inl tx))]) [0, 1, 4, 5, 6, 7, 2, 3] rfl
            have hD9 := hD.sub (ws' := [(qo, .inr (4, [.int qk, .int qa, .int qb, .int qd, .int qw, .int qn])), (tt 0, .inr (9, [.ref (tt 1), .ref (tt 3), .ref (tt 5), .int (nI nm)])), (tt 1, .inr (5, [.ref (tt 2)])), (tt 2, .inl (dA 0, 84, .inl tw)), (tt 3, .inr (5, [.ref (tt 4)])), (tt 4, .inl (dA 0, 84, .inl tp)), (tt 5, .inr (5, [.ref (tt 6)])), (tt 6, .inl (dA 0, 84, .inl tx))]) [0, 1, 4, 5, 6, 7, 2, 3] (by decide) rfl
            exact W.zret (v := 0) hx hb hr rfl (fun t ht hW => ⟨⟨0, (), rfl, (show _ = bI (icB qk qb qd tw tp ki kj) from by simp [icB, bI, c4, c11, c12, c13, c14]), ⟨by rw [ht]; exact hP9, hD9⟩⟩, hS.F ht⟩) hS.2.2 dX1_isCouple_86
          · refine lv_iconst (v := 1) hx hb dX1_isCouple_81 (by decide) ?_
            refine lv_goto (tgt := 86) hx hb dX1_isCouple_82 (by decide) ?_
            refine W.widen (k := 0) (n := 0) (Nat.le_of_ble_eq_true rfl) (Nat.le_of_ble_eq_true rfl) ?_
            have hP9 := hP.sub (ws' := [(qo, .inr (4, [.int qk, .int qa, .int qb, .int qd, .int qw, .int qn])), (tt 0, .inr (9, [.ref (tt 1), .ref (tt 3), .ref (tt 5), .int (nI nm)])), (tt 1, .inr (5, [.ref (tt 2)])), (tt 2, .inl (dA 0, 84, .inl tw)), (tt 3, .inr (5, [.ref (tt 4)])), (tt 4, .inl (dA 0, 84, .inl tp)), (tt 5, .inr (5, [.ref (tt 6)])), (tt 6, .inl (dA 0, 84, .inl tx))]) [0, 1, 4, 5, 6, 7, 2, 3] rfl
            have hD9 := hD.sub (ws' := [(qo, .inr (4, [.int qk, .int qa, .int qb, .int qd, .int qw, .int qn])), (tt 0, .inr (9, [.ref (tt 1), .ref (tt 3), .ref (tt 5), .int (nI nm)])), (tt 1, .inr (5, [.ref (tt 2)])), (tt 2, .inl (dA 0, 84, .inl tw)), (tt 3, .inr (5, [.ref (tt 4)])), (tt 4, .inl (dA 0, 84, .inl tp)), (tt 5, .inr (5, [.ref (tt 6)])), (tt 6, .inl (dA 0, 84, .inl tx))]) [0, 1, 4, 5, 6, 7, 2, 3] (by decide) rfl
            exact W.zret (v := 1) hx hb hr rfl (fun t ht hW => ⟨⟨1, (), rfl, (show _ = bI (icB qk qb qd tw tp ki kj) from by simp [icB, bI, c4, c11, c12, c13, c14]), ⟨by rw [ht]; exact hP9, hD9⟩⟩, hS.F ht⟩) hS.2.2 dX1_isCouple_86
    · refine lv_iload hx hb dX1_isCouple_45 (lv_at hl 0 rfl) ?_
      refine lv_iconst (v := 1) hx hb dX1_isCouple_47 (by decide) ?_
      refine lv_icmp_ne (tgt := 55) hx hb dX1_isCouple_48 (by decide) (fun c15 => ?_) (fun c15 => ?_)
      · refine lv_iconst (v := 0) hx hb dX1_isCouple_55 (by decide) ?_
        refine W.widen (k := 0) (n := 0) (Nat.le_of_ble_eq_true rfl) (Nat.le_of_ble_eq_true rfl) ?_
        have hP9 := hP.sub (ws' := [(qo, .inr (4, [.int qk, .int qa, .int qb, .int qd, .int qw, .int qn])), (tt 0, .inr (9, [.ref (tt 1), .ref (tt 3), .ref (tt 5), .int (nI nm)])), (tt 1, .inr (5, [.ref (tt 2)])), (tt 2, .inl (dA 0, 84, .inl tw)), (tt 3, .inr (5, [.ref (tt 4)])), (tt 4, .inl (dA 0, 84, .inl tp)), (tt 5, .inr (5, [.ref (tt 6)])), (tt 6, .inl (dA 0, 84, .inl tx))]) [0, 1, 4, 5, 6, 7, 2, 3] rfl
        have hD9 := hD.sub (ws' := [(qo, .inr (4, [.int qk, .int qa, .int qb, .int qd, .int qw, .int qn])), (tt 0, .inr (9, [.ref (tt 1), .ref (tt 3), .ref (tt 5), .int (nI nm)])), (tt 1, .inr (5, [.ref (tt 2)])), (tt 2, .inl (dA 0, 84, .inl tw)), (tt 3, .inr (5, [.ref (tt 4)])), (tt 4, .inl (dA 0, 84, .inl tp)), (tt 5, .inr (5, [.ref (tt 6)])), (tt 6, .inl (dA 0, 84, .inl tx))]) [0, 1, 4, 5, 6, 7, 2, 3] (by decide) rfl
        exact W.zret (v := 0) hx hb hr rfl (fun t ht hW => ⟨⟨0, (), rfl, (show _ = bI (icB qk qb qd tw tp ki kj) from by simp [icB, bI, c4, c11, c15]), ⟨by rw [ht]; exact hP9, hD9⟩⟩, hS.F ht⟩) hS.2.2 dX1_isCouple_56
      · refine lv_iconst (v := 1) hx hb dX1_isCouple_51 (by decide) ?_
        refine lv_goto (tgt := 56) hx hb dX1_isCouple_52 (by decide) ?_
        refine W.widen (k := 0) (n := 0) (Nat.le_of_ble_eq_true rfl) (Nat.le_of_ble_eq_true rfl) ?_
        have hP9 := hP.sub (ws' := [(qo, .inr (4, [.int qk, .int qa, .int qb, .int qd, .int qw, .int qn])), (tt 0, .inr (9, [.ref (tt 1), .ref (tt 3), .ref (tt 5), .int (nI nm)])), (tt 1, .inr (5, [.ref (tt 2)])), (tt 2, .inl (dA 0, 84, .inl tw)), (tt 3, .inr (5, [.ref (tt 4)])), (tt 4, .inl (dA 0, 84, .inl tp)), (tt 5, .inr (5, [.ref (tt 6)])), (tt 6, .inl (dA 0, 84, .inl tx))]) [0, 1, 4, 5, 6, 7, 2, 3] rfl
        have hD9 := hD.sub (ws' := [(qo, .inr (4, [.int qk, .int qa, .int qb, .int qd, .int qw, .int qn])), (tt 0, .inr (9, [.ref (tt 1), .ref (tt 3), .ref (tt 5), .int (nI nm)])), (tt 1, .inr (5, [.ref (tt 2)])), (tt 2, .inl (dA 0, 84, .inl tw)), (tt 3, .inr (5, [.ref (tt 4)])), (tt 4, .inl (dA 0, 84, .inl tp)), (tt 5, .inr (5, [.ref (tt 6)])), (tt 6, .inl (dA 0, 84, .inl tx))]) [0, 1, 4, 5, 6, 7, 2, 3] (by decide) rfl
        exact W.zret (v := 1) hx hb hr rfl (fun t ht hW => ⟨⟨1, (), rfl, (show _ = bI (icB qk qb qd tw tp ki kj) from by simp [icB, bI, c4, c11, c15]), ⟨by rw [ht]; exact hP9, hD9⟩⟩, hS.F ht⟩) hS.2.2 dX1_isCouple_56
  · refine lv_iconst (v := 0) hx hb dX1_isCouple_15 (by decide) ?_
    refine W.widen (k := 0) (n := 0) (Nat.le_of_ble_eq_true rfl) (Nat.le_of_ble_eq_true rfl) ?_
    have hP9 := hP.sub (ws' := [(qo, .inr (4, [.int qk, .int qa, .int qb, .int qd, .int qw, .int qn])), (tt 0, .inr (9, [.ref (tt 1), .ref (tt 3), .ref (tt 5), .int (nI nm)])), (tt 1, .inr (5, [.ref (tt 2)])), (tt 2, .inl (dA 0, 84, .inl tw)), (tt 3, .inr (5, [.ref (tt 4)])), (tt 4, .inl (dA 0, 84, .inl tp)), (tt 5, .inr (5, [.ref (tt 6)])), (tt 6, .inl (dA 0, 84, .inl tx))]) [0, 1, 6, 7, 2, 3, 4, 5] rfl
    have hD9 := hD.sub (ws' := [(qo, .inr (4, [.int qk, .int qa, .int qb, .int qd, .int qw, .int qn])), (tt 0, .inr (9, [.ref (tt 1), .ref (tt 3), .ref (tt 5), .int (nI nm)])), (tt 1, .inr (5, [.ref (tt 2)])), (tt 2, .inl (dA 0, 84, .inl tw)), (tt 3, .inr (5, [.ref (tt 4)])), (tt 4, .inl (dA 0, 84, .inl tp)), (tt 5, .inr (5, [.ref (tt 6)])), (tt 6, .inl (dA 0, 84, .inl tx))]) [0, 1, 6, 7, 2, 3, 4, 5] (by decide) rfl
    exact W.zret (v := 0) hx hb hr rfl (fun t ht hW => ⟨⟨0, (), rfl, (show _ = bI (icB qk qb qd tw tp ki kj) from by simp [icB, bI, c4]), ⟨by rw [ht]; exact hP9, hD9⟩⟩, hS.F ht⟩) hS.2.2 dX1_isCouple_16
