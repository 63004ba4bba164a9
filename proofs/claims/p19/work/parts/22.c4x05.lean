/-! CONTRACTS, general -/
set_option maxHeartbeats 4000000 in
set_option maxRecDepth 100000 in
theorem c_isWord (l : Launch) (D : va_G) (dA : Nat → ClassId) (E : Nat) (p0 : Int32) (sz : Nat)   : Met l yX8_isWord (wq (.code yX8_isWord cX8_isWord 1 (some .boolean))) { frames := 0, cells := 0, slots := 0, locals := 0 } (va_Pc [.int p0] (PcB D dA E [] sz)) (va_Qi (fun (r : Int32) (u : Unit) => r = bI (okW p0)) (fun u t => va_P D vwCl [] t.heap ∧ va_D (va_A [] sz) []) (va_A [] sz)) 0 0 (va_A [] sz) := by
  refine mb_of (Qc := fun A => va_Qi (fun (r : Int32) (u : Unit) => r = bI (okW p0)) (fun u t => va_P D vwCl [] t.heap ∧ va_D A []) A) RX8 rfl (by decide) (Nat.le_of_ble_eq_true rfl) ?_
  intro p e s m args below meth c hae hx hb hr hts hown hlocks hml hnm hP hK A hAe hD hZ hS hA ls hl
  replace hl : lv_has ls 1 [(0, .int p0)] := hl
  refine lv_iload_n hx hb dX8_isWord_0 rfl (lv_at hl 0 rfl) ?_
  refine lv_if_lt (tgt := 14) hx hb dX8_isWord_1 (by decide) (fun c1 => ?_) (fun c1 => ?_)
  · refine lv_iconst (v := 0) hx hb dX8_isWord_14 (by decide) ?_
    refine W.widen (k := 0) (n := 0) (Nat.le_of_ble_eq_true rfl) (Nat.le_of_ble_eq_true rfl) ?_
    have hP9 := hP.sub (ws' := []) [] rfl
    have hD9 := hD.sub (ws' := []) [] (by decide) rfl
    exact W.zret (v := 0) hx hb hr rfl (fun t ht hW => ⟨⟨0, (), rfl, (by simp [okW, inR, bI, c1]), ⟨by rw [ht]; exact hP9, hD9⟩⟩, hS.F ht⟩) hS.2.2 dX8_isWord_15
  · refine lv_iload_n hx hb dX8_isWord_4 rfl (lv_at hl 0 rfl) ?_
    refine lv_bipush (v := 60) hx hb dX8_isWord_5 (by decide) ?_
    refine lv_icmp_ge (tgt := 14) hx hb dX8_isWord_7 (by decide) (fun c2 => ?_) (fun c2 => ?_)
    · refine lv_iconst (v := 0) hx hb dX8_isWord_14 (by decide) ?_
      refine W.widen (k := 0) (n := 0) (Nat.le_of_ble_eq_true rfl) (Nat.le_of_ble_eq_true rfl) ?_
      have hP9 := hP.sub (ws' := []) [] rfl
      have hD9 := hD.sub (ws' := []) [] (by decide) rfl
      exact W.zret (v := 0) hx hb hr rfl (fun t ht hW => ⟨⟨0, (), rfl, (by simp [okW, inR, bI, c1, (i59 _).mp c2]), ⟨by rw [ht]; exact hP9, hD9⟩⟩, hS.F ht⟩) hS.2.2 dX8_isWord_15
    · refine lv_iconst (v := 1) hx hb dX8_isWord_10 (by decide) ?_
      refine lv_goto (tgt := 15) hx hb dX8_isWord_11 (by decide) ?_
      refine W.widen (k := 0) (n := 0) (Nat.le_of_ble_eq_true rfl) (Nat.le_of_ble_eq_true rfl) ?_
      have hP9 := hP.sub (ws' := []) [] rfl
      have hD9 := hD.sub (ws' := []) [] (by decide) rfl
      exact W.zret (v := 1) hx hb hr rfl (fun t ht hW => ⟨⟨1, (), rfl, (by simp [okW, inR, bI, c1, mt (i59 _).mpr c2]), ⟨by rw [ht]; exact hP9, hD9⟩⟩, hS.F ht⟩) hS.2.2 dX8_isWord_15

set_option maxHeartbeats 4000000 in
set_option maxRecDepth 100000 in
theorem c_canBe (l : Launch) (D : va_G) (dA : Nat → ClassId) (E : Nat) (p0 p1 p2 : Int32) (sz : Nat)   : Met l yX5_canBe (wq (.code yX5_canBe cX5_canBe 3 (some .boolean))) { frames := 1, cells := 0, slots := 0, locals := 20 } (va_Pc [.int p0, .int p1, .int p2] (PcB D dA E [] sz)) (va_Qi (fun (r : Int32) (u : Unit) => r = bI (okStep p0 p1 p2)) (fun u t => va_P D vwCl [] t.heap ∧ va_D (va_A [] sz) []) (va_A [] sz)) 0 0 (va_A [] sz) := by
  refine mb_of (Qc := fun A => va_Qi (fun (r : Int32) (u : Unit) => r = bI (okStep p0 p1 p2)) (fun u t => va_P D vwCl [] t.heap ∧ va_D A []) A) RX5 rfl (by decide) (Nat.le_of_ble_eq_true rfl) ?_
  intro p e s m args below meth c hae hx hb hr hts hown hlocks hml hnm hP hK A hAe hD hZ hS hA ls hl
  replace hl : lv_has ls 3 [(0, .int p0), (1, .int p1), (2, .int p2)] := hl
  refine lv_iload_n hx hb dX5_canBe_0 rfl (lv_at hl 0 rfl) ?_
  refine lv_bipush (v := 108) hx hb dX5_canBe_1 (by decide) ?_
  refine lv_icmp_eq (tgt := 12) hx hb dX5_canBe_3 (by decide) (fun c1 => ?_) (fun c1 => ?_)
  · refine lv_iconst (v := 1) hx hb dX5_canBe_12 (by decide) ?_
    refine W.widen (k := 0) (n := 0) (Nat.le_of_ble_eq_true rfl) (Nat.le_of_ble_eq_true rfl) ?_
    have hP9 := hP.sub (ws' := []) [] rfl
    have hD9 := hD.sub (ws' := []) [] (by decide) rfl
    exact W.zret (v := 1) hx hb hr rfl (fun t ht hW => ⟨⟨1, (), rfl, (by first | (unfold okStep; rw [c1]; done) | (unfold okStep; rw [c1]; rfl) | simp [okStep, bI, c1]), ⟨by rw [ht]; exact hP9, hD9⟩⟩, hS.F ht⟩) hS.2.2 dX5_canBe_13
  · refine lv_iload_n hx hb dX5_canBe_6 rfl (lv_at hl 0 rfl) ?_
    refine lv_bipush (v := 109) hx hb dX5_canBe_7 (by decide) ?_
    refine lv_icmp_ne (tgt := 14) hx hb dX5_canBe_9 (by decide) (fun c2 => ?_) (fun c2 => ?_)
    · refine lv_iload_n hx hb dX5_canBe_14 rfl (lv_at hl 0 rfl) ?_
      refine lv_bipush (v := 115) hx hb dX5_canBe_15 (by decide) ?_
      refine lv_icmp_eq (tgt := 26) hx hb dX5_canBe_17 (by decide) (fun c3 => ?_) (fun c3 => ?_)
      · refine lv_iload_n hx hb dX5_canBe_26 rfl (lv_at hl 1 rfl) ?_
        replace hPc := hP.sub (ws' := []) [] rfl
        replace hDc := hD.sub (ws' := []) [] (by decide) rfl
        replace hFc := va_free (wc := []) hD hS hA [] rfl
        refine va_calli (va_runSN (As := [.int p1]) (rest := []) ⟨hx, hb, hml, hown, hts⟩ (c_isWord l D dA E p1 s.heap.size ) ⟨(va_cnB (host := "TallowIndex") 1 hts (ga_I q345) rfl rfl rfl (znM_2 hZ.1) (hts _ q346) (by decide +kernel) ⟨(Nat.le_of_ble_eq_true rfl), (Nat.le_of_ble_eq_true rfl)⟩), hts _ q347, trivial⟩ ⟨pb_blind, pb_pre hK hPc hDc hZ hS hFc _⟩ rfl rfl hl.1 rfl (lv_room (Nat.le_of_ble_eq_true rfl)) dX5_canBe_27 ⟨(Nat.le_of_ble_eq_true rfl), (Nat.le_of_ble_eq_true rfl)⟩) hS (fun q _ h => hFc q h) hFc (fun r u t H1 locs ht hvm hw hB hz1 hk1 hS => ?_)
        refine W.widen (k := 0) (n := 0) (Nat.le_of_ble_eq_true rfl) (Nat.le_of_ble_eq_true rfl) ?_
        obtain ⟨r4, rfl⟩ : ∃ z, z = r := ⟨_, rfl⟩
        obtain ⟨u5, rfl⟩ : ∃ z, z = u := ⟨_, rfl⟩
        have hw6 := hw
        clear hw
        obtain ⟨hP1, hD1⟩ := hB
        rw [ht] at hP1
        obtain ⟨hP, hD⟩ := va_join (wr := []) (w1 := []) hP hD [] [] rfl rfl (by decide) (by decide) hk1 hFc hP1 hD1
        generalize H1 = H at hP hS ⊢
        replace hP : va_P D vwCl [] H := hP
        replace hD : va_D A [] := hD
        refine bt (b := (okW p1)) ?_ ?_
        · intro hB7
          obtain rfl : r4 = 1 := hw6.trans (by rw [hB7]; rfl)
          refine W.widen (k := 0) (n := 0) (Nat.le_of_ble_eq_true rfl) (Nat.le_of_ble_eq_true rfl) ?_
          have hP9 := hP.sub (ws' := []) [] rfl
          have hD9 := hD.sub (ws' := []) [] (by decide) rfl
          exact W.zret (v := 1) hx hb hr rfl (fun t ht hW => ⟨⟨1, (), rfl, (by first | (unfold okStep; rw [decide_eq_false c1, decide_eq_false c2, c3, hB7]; done) | (unfold okStep; rw [decide_eq_false c1, decide_eq_false c2, c3, hB7]; rfl) | simp [okStep, bI, c1, c2, c3, hB7]), ⟨by rw [ht]; exact hP9, hD9⟩⟩, hS.F ht⟩) hS.2.2 dX5_canBe_30
        · intro hB7
          obtain rfl : r4 = 0 := hw6.trans (by rw [hB7]; rfl)
          refine W.widen (k := 0) (n := 0) (Nat.le_of_ble_eq_true rfl) (Nat.le_of_ble_eq_true rfl) ?_
          have hP9 := hP.sub (ws' := []) [] rfl
          have hD9 := hD.sub (ws' := []) [] (by decide) rfl
          exact W.zret (v := 0) hx hb hr rfl (fun t ht hW => ⟨⟨0, (), rfl, (by first | (unfold okStep; rw [decide_eq_false c1, decide_eq_false c2, c3, hB7]; done) | (unfold okStep; rw [decide_eq_false c1, decide_eq_false c2, c3, hB7]; rfl) | simp [okStep, bI, c1, c2, c3, hB7]), ⟨by rw [ht]; exact hP9, hD9⟩⟩, hS.F ht⟩) hS.2.2 dX5_canBe_30
      · refine lv_iload_n hx hb dX5_canBe_20 rfl (lv_at hl 0 rfl) ?_
        refine lv_bipush (v := 99) hx hb dX5_canBe_21 (by decide) ?_
        refine lv_icmp_ne (tgt := 31) hx hb dX5_canBe_23 (by decide) (fun c8 => ?_) (fun c8 => ?_)
        · refine lv_iload_n hx hb dX5_canBe_31 rfl (lv_at hl 0 rfl) ?_
          refine lv_bipush (v := 121) hx hb dX5_canBe_32 (by decide) ?_
          refine lv_icmp_ne (tgt := 55) hx hb dX5_canBe_34 (by decide) (fun c9 => ?_) (fun c9 => ?_)
          · refine lv_iconst (v := 0) hx hb dX5_canBe_55 (by decide) ?_
            refine W.widen (k := 0) (n := 0) (Nat.le_of_ble_eq_true rfl) (Nat.le_of_ble_eq_true rfl) ?_
            have hP9 := hP.sub (ws' := []) [] rfl
            have hD9 := hD.sub (ws' := []) [] (by decide) rfl
            exact W.zret (v := 0) hx hb hr rfl (fun t ht hW => ⟨⟨0, (), rfl, (by first | (unfold okStep; rw [decide_eq_false c1, decide_eq_false c2, decide_eq_false c3, decide_eq_false c8, decide_eq_false c9]; done) | (unfold okStep; rw [decide_eq_false c1, decide_eq_false c2, decide_eq_false c3, decide_eq_false c8, decide_eq_false c9]; rfl) | simp [okStep, bI, c1, c2, c3, c8, c9]), ⟨by rw [ht]; exact hP9, hD9⟩⟩, hS.F ht⟩) hS.2.2 dX5_canBe_56
          · refine lv_iload_n hx hb dX5_canBe_37 rfl (lv_at hl 1 rfl) ?_
            replace hPc := hP.sub (ws' := []) [] rfl
            replace hDc := hD.sub (ws' := []) [] (by decide) rfl
            replace hFc := va_free (wc := []) hD hS hA [] rfl
            refine va_calli (va_runSN (As := [.int p1]) (rest := []) ⟨hx, hb, hml, hown, hts⟩ (c_isWord l D dA E p1 s.heap.size ) ⟨(va_cnB (host := "TallowIndex") 1 hts (ga_I q345) rfl rfl rfl (znM_2 hZ.1) (hts _ q346) (by decide +kernel) ⟨(Nat.le_of_ble_eq_true rfl), (Nat.le_of_ble_eq_true rfl)⟩), hts _ q347, trivial⟩ ⟨pb_blind, pb_pre hK hPc hDc hZ hS hFc _⟩ rfl rfl hl.1 rfl (lv_room (Nat.le_of_ble_eq_true rfl)) dX5_canBe_38 ⟨(Nat.le_of_ble_eq_true rfl), (Nat.le_of_ble_eq_true rfl)⟩) hS (fun q _ h => hFc q h) hFc (fun r u t H1 locs ht hvm hw hB hz1 hk1 hS => ?_)
            refine W.widen (k := 0) (n := 0) (Nat.le_of_ble_eq_true rfl) (Nat.le_of_ble_eq_true rfl) ?_
            obtain ⟨r10, rfl⟩ : ∃ z, z = r := ⟨_, rfl⟩
            obtain ⟨u11, rfl⟩ : ∃ z, z = u := ⟨_, rfl⟩
            have hw12 := hw
            clear hw
            obtain ⟨hP1, hD1⟩ := hB
            rw [ht] at hP1
            obtain ⟨hP, hD⟩ := va_join (wr := []) (w1 := []) hP hD [] [] rfl rfl (by decide) (by decide) hk1 hFc hP1 hD1
            generalize H1 = H at hP hS ⊢
            replace hP : va_P D vwCl [] H := hP
            replace hD : va_D A [] := hD
            refine bt (b := (okW p1)) ?_ ?_
            · intro hB13
              obtain rfl : r10 = 1 := hw12.trans (by rw [hB13]; rfl)
              refine lv_if_eq (tgt := 55) hx hb dX5_canBe_41 (by decide) (fun c14 => absurd c14 (by decide)) (fun _ => ?_)
              refine lv_iload_n hx hb dX5_canBe_44 rfl (lv_at hl 2 rfl) ?_
              replace hPc := hP.sub (ws' := []) [] rfl
              replace hDc := hD.sub (ws' := []) [] (by decide) rfl
              replace hFc := va_free (wc := []) hD hS hA [] rfl
              refine va_calli (va_runSN (As := [.int p2]) (rest := []) ⟨hx, hb, hml, hown, hts⟩ (c_isWord l D dA E p2 H.size ) ⟨(va_cnB (host := "TallowIndex") 1 hts (ga_I q345) rfl rfl rfl (znM_2 hZ.1) (hts _ q346) (by decide +kernel) ⟨(Nat.le_of_ble_eq_true rfl), (Nat.le_of_ble_eq_true rfl)⟩), hts _ q347, trivial⟩ ⟨pb_blind, pb_pre hK hPc hDc hZ hS hFc _⟩ rfl rfl hl.1 rfl (lv_room (Nat.le_of_ble_eq_true rfl)) dX5_canBe_45 ⟨(Nat.le_of_ble_eq_true rfl), (Nat.le_of_ble_eq_true rfl)⟩) hS (fun q _ h => hFc q h) hFc (fun r u t H1 locs ht hvm hw hB hz1 hk1 hS => ?_)
              refine W.widen (k := 0) (n := 0) (Nat.le_of_ble_eq_true rfl) (Nat.le_of_ble_eq_true rfl) ?_
              obtain ⟨r15, rfl⟩ : ∃ z, z = r := ⟨_, rfl⟩
              obtain ⟨u16, rfl⟩ : ∃ z, z = u := ⟨_, rfl⟩
              have hw17 := hw
              clear hw
              obtain ⟨hP1, hD1⟩ := hB
              rw [ht] at hP1
              obtain ⟨hP, hD⟩ := va_join (wr := []) (w1 := []) hP hD [] [] rfl rfl (by decide) (by decide) hk1 hFc hP1 hD1
              generalize H1 = H at hP hS ⊢
              replace hP : va_P D vwCl [] H := hP
              replace hD : va_D A [] := hD
              refine bt (b := (okW p2)) ?_ ?_
              · intro hB18
                obtain rfl : r15 = 1 := hw17.trans (by rw [hB18]; rfl)
                refine lv_if_eq (tgt := 55) hx hb dX5_canBe_48 (by decide) (fun c19 => absurd c19 (by decide)) (fun _ => ?_)
                refine lv_iconst (v := 1) hx hb dX5_canBe_51 (by decide) ?_
                refine lv_goto (tgt := 56) hx hb dX5_canBe_52 (by decide) ?_
                refine W.widen (k := 0) (n := 0) (Nat.le_of_ble_eq_true rfl) (Nat.le_of_ble_eq_true rfl) ?_
                have hP9 := hP.sub (ws' := []) [] rfl
                have hD9 := hD.sub (ws' := []) [] (by decide) rfl
                exact W.zret (v := 1) hx hb hr rfl (fun t ht hW => ⟨⟨1, (), rfl, (by first | (unfold okStep; rw [decide_eq_false c1, decide_eq_false c2, decide_eq_false c3, decide_eq_false c8, c9, hB13, hB18]; done) | (unfold okStep; rw [decide_eq_false c1, decide_eq_false c2, decide_eq_false c3, decide_eq_false c8, c9, hB13, hB18]; rfl) | simp [okStep, bI, c1, c2, c3, c8, c9, hB13, hB18]), ⟨by rw [ht]; exact hP9, hD9⟩⟩, hS.F ht⟩) hS.2.2 dX5_canBe_56
              · intro hB18
                obtain rfl : r15 = 0 := hw17.trans (by rw [hB18]; rfl)
                refine lv_if_eq (tgt := 55) hx hb dX5_canBe_48 (by decide) (fun _ => ?_) (fun c20 => absurd (by decide) c20)
                refine lv_iconst (v := 0) hx hb dX5_canBe_55 (by decide) ?_
                refine W.widen (k := 0) (n := 0) (Nat.le_of_ble_eq_true rfl) (Nat.le_of_ble_eq_true rfl) ?_
                have hP9 := hP.sub (ws' := []) [] rfl
                have hD9 := hD.sub (ws' := []) [] (by decide) rfl
                exact W.zret (v := 0) hx hb hr rfl (fun t ht hW => ⟨⟨0, (), rfl, (by first | (unfold okStep; rw [decide_eq_false c1, decide_eq_false c2, decide_eq_false c3, decide_eq_false c8, c9, hB13, hB18]; done) | (unfold okStep; rw [decide_eq_false c1, decide_eq_false c2, decide_eq_false c3, decide_eq_false c8, c9, hB13, hB18]; rfl) | simp [okStep, bI, c1, c2, c3, c8, c9, hB13, hB18]), ⟨by rw [ht]; exact hP9, hD9⟩⟩, hS.F ht⟩) hS.2.2 dX5_canBe_56
            · intro hB13
              obtain rfl : r10 = 0 := hw12.trans (by rw [hB13]; rfl)
              refine lv_if_eq (tgt := 55) hx hb dX5_canBe_41 (by decide) (fun _ => ?_) (fun c21 => absurd (by decide) c21)
              refine lv_iconst (v := 0) hx hb dX5_canBe_55 (by decide) ?_
              refine W.widen (k := 0) (n := 0) (Nat.le_of_ble_eq_true rfl) (Nat.le_of_ble_eq_true rfl) ?_
              have hP9 := hP.sub (ws' := []) [] rfl
              have hD9 := hD.sub (ws' := []) [] (by decide) rfl
              exact W.zret (v := 0) hx hb hr rfl (fun t ht hW => ⟨⟨0, (), rfl, (by first | (unfold okStep; rw [decide_eq_false c1, decide_eq_false c2, decide_eq_false c3, decide_eq_false c8, c9, hB13]; done) | (unfold okStep; rw [decide_eq_false c1, decide_eq_false c2, decide_eq_false c3, decide_eq_false c8, c9, hB13]; rfl) | simp [okStep, bI, c1, c2, c3, c8, c9, hB13]), ⟨by rw [ht]; exact hP9, hD9⟩⟩, hS.F ht⟩) hS.2.2 dX5_canBe_56
        · refine lv_iload_n hx hb dX5_canBe_26 rfl (lv_at hl 1 rfl) ?_
          replace hPc := hP.sub (ws' := []) [] rfl
          replace hDc := hD.sub (ws' := []) [] (by decide) rfl
          replace hFc := va_free (wc := []) hD hS hA [] rfl
          refine va_calli (va_runSN (As := [.int p1]) (rest := []) ⟨hx, hb, hml, hown, hts⟩ (c_isWord l D dA E p1 s.heap.size ) ⟨(va_cnB (host := "TallowIndex") 1 hts (ga_I q345) rfl rfl rfl (znM_2 hZ.1) (hts _ q346) (by decide +kernel) ⟨(Nat.le_of_ble_eq_true rfl), (Nat.le_of_ble_eq_true rfl)⟩), hts _ q347, trivial⟩ ⟨pb_blind, pb_pre hK hPc hDc hZ hS hFc _⟩ rfl rfl hl.1 rfl (lv_room (Nat.le_of_ble_eq_true rfl)) dX5_canBe_27 ⟨(Nat.le_of_ble_eq_true rfl), (Nat.le_of_ble_eq_true rfl)⟩) hS (fun q _ h => hFc q h) hFc (fun r u t H1 locs ht hvm hw hB hz1 hk1 hS => ?_)
          refine W.widen (k := 0) (n := 0) (Nat.le_of_ble_eq_true rfl) (Nat.le_of_ble_eq_true rfl) ?_
          obtain ⟨r22, rfl⟩ : ∃ z, z = r := ⟨_, rfl⟩
          obtain ⟨u23, rfl⟩ : ∃ z, z = u := ⟨_, rfl⟩
          have hw24 := hw
          clear hw
          obtain ⟨hP1, hD1⟩ := hB
          rw [ht] at hP1
          obtain ⟨hP, hD⟩ := va_join (wr := []) (w1 := []) hP hD [] [] rfl rfl (by decide) (by decide) hk1 hFc hP1 hD1
          generalize H1 = H at hP hS ⊢
          replace hP : va_P D vwCl [] H := hP
          replace hD : va_D A [] := hD
          refine bt (b := (okW p1)) ?_ ?_
          · intro hB25
            obtain rfl : r22 = 1 := hw24.trans (by rw [hB25]; rfl)
            refine W.widen (k := 0) (n := 0) (Nat.le_of_ble_eq_true rfl) (Nat.le_of_ble_eq_true rfl) ?_
            have hP9 := hP.sub (ws' := []) [] rfl
            have hD9 := hD.sub (ws' := []) [] (by decide) rfl
            exact W.zret (v := 1) hx hb hr rfl (fun t ht hW => ⟨⟨1, (), rfl, (by first | (unfold okStep; rw [decide_eq_false c1, decide_eq_false c2, decide_eq_false c3, c8, hB25]; done) | (unfold okStep; rw [decide_eq_false c1, decide_eq_false c2, decide_eq_false c3, c8, hB25]; rfl) | simp [okStep, bI, c1, c2, c3, c8, hB25]), ⟨by rw [ht]; exact hP9, hD9⟩⟩, hS.F ht⟩) hS.2.2 dX5_canBe_30
          · intro hB25
            obtain rfl : r22 = 0 := hw24.trans (by rw [hB25]; rfl)
            refine W.widen (k := 0) (n := 0) (Nat.le_of_ble_eq_true rfl) (Nat.le_of_ble_eq_true rfl) ?_
            have hP9 := hP.sub (ws' := []) [] rfl
            have hD9 := hD.sub (ws' := []) [] (by decide) rfl
            exact W.zret (v := 0) hx hb hr rfl (fun t ht hW => ⟨⟨0, (), rfl, (by first | (unfold okStep; rw [decide_eq_false c1, decide_eq_false c2, decide_eq_false c3, c8, hB25]; done) | (unfold okStep; rw [decide_eq_false c1, decide_eq_false c2, decide_eq_false c3, c8, hB25]; rfl) | simp [okStep, bI, c1, c2, c3, c8, hB25]), ⟨by rw [ht]; exact hP9, hD9⟩⟩, hS.F ht⟩) hS.2.2 dX5_canBe_30
    · refine lv_iconst (v := 1) hx hb dX5_canBe_12 (by decide) ?_
      refine W.widen (k := 0) (n := 0) (Nat.le_of_ble_eq_true rfl) (Nat.le_of_ble_eq_true rfl) ?_
      have hP9 := hP.sub (ws' := []) [] rfl
      have hD9 := hD.sub (ws' := []) [] (by decide) rfl
      exact W.zret (v := 1) hx hb hr rfl (fun t ht hW => ⟨⟨1, (), rfl, (by first | (unfold okStep; rw [decide_eq_false c1, c2]; done) | (unfold okStep; rw [decide_eq_false c1, c2]; rfl) | simp [okStep, bI, c1, c2]), ⟨by rw [ht]; exact hP9, hD9⟩⟩, hS.F ht⟩) hS.2.2 dX5_canBe_13
