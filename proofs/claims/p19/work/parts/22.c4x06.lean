/-! CONTRACTS, general -/
set_option maxHeartbeats 4000000 in
set_option maxRecDepth 100000 in
theorem c_canAsk (l : Launch) (D : va_G) (dA : Nat → ClassId) (E : Nat) (p0 p1 p2 p3 : Int32) (sz : Nat)   : Met l yX1_canAsk (wq (.code yX1_canAsk cX1_canAsk 5 (some .boolean))) { frames := 1, cells := 0, slots := 0, locals := 20 } (va_Pc [.int p0, .int p1, .int p2, .int p3] (PcB D dA E [] sz)) (va_Qi (fun (r : Int32) (u : Unit) => r = bI (okCan p0 p1 p2 p3)) (fun u t => va_P D vwCl [] t.heap ∧ va_D (va_A [] sz) []) (va_A [] sz)) 0 0 (va_A [] sz) := by
  refine mb_of (Qc := fun A => va_Qi (fun (r : Int32) (u : Unit) => r = bI (okCan p0 p1 p2 p3)) (fun u t => va_P D vwCl [] t.heap ∧ va_D A []) A) RX1 rfl (by decide) (Nat.le_of_ble_eq_true rfl) ?_
  intro p e s m args below meth c hae hx hb hr hts hown hlocks hml hnm hP hK A hAe hD hZ hS hA ls hl
  replace hl : lv_has ls 5 [(0, .int p0), (1, .int p1), (2, .int p2), (3, .int p3)] := hl
  refine lv_iload_n hx hb dX1_canAsk_0 rfl (lv_at hl 0 rfl) ?_
  refine lv_bipush (v := 119) hx hb dX1_canAsk_1 (by decide) ?_
  refine lv_icmp_ne (tgt := 11) hx hb dX1_canAsk_3 (by decide) (fun c1 => ?_) (fun c1 => ?_)
  · refine lv_iload_n hx hb dX1_canAsk_11 rfl (lv_at hl 0 rfl) ?_
    refine lv_bipush (v := 112) hx hb dX1_canAsk_12 (by decide) ?_
    refine lv_icmp_ne (tgt := 37) hx hb dX1_canAsk_14 (by decide) (fun c2 => ?_) (fun c2 => ?_)
    · refine lv_iload_n hx hb dX1_canAsk_37 rfl (lv_at hl 3 rfl) ?_
      refine lv_iconst (v := 1) hx hb dX1_canAsk_38 (by decide) ?_
      refine lv_icmp_lt (tgt := 52) hx hb dX1_canAsk_39 (by decide) (fun c3 => ?_) (fun c3 => ?_)
      · refine lv_iconst (v := 0) hx hb dX1_canAsk_52 (by decide) ?_
        refine lv_istore (lv' := [(4, .int 0), (0, .int p0), (1, .int p1), (2, .int p2), (3, .int p3)]) hx hb dX1_canAsk_53 hl (by decide) rfl (fun ls hl => ?_)
        refine lv_iload_n hx hb dX1_canAsk_55 rfl (lv_at hl 1 rfl) ?_
        refine lv_bipush (v := 110) hx hb dX1_canAsk_56 (by decide) ?_
        refine lv_icmp_ne (tgt := 84) hx hb dX1_canAsk_58 (by decide) (fun c4 => ?_) (fun c4 => ?_)
        · refine lv_iconst (v := 0) hx hb dX1_canAsk_84 (by decide) ?_
          refine W.widen (k := 0) (n := 0) (Nat.le_of_ble_eq_true rfl) (Nat.le_of_ble_eq_true rfl) ?_
          have hP9 := hP.sub (ws' := []) [] rfl
          have hD9 := hD.sub (ws' := []) [] (by decide) rfl
          exact W.zret (v := 0) hx hb hr rfl (fun t ht hW => ⟨⟨0, (), rfl, (by first | (unfold okCan inR; rw [decide_eq_false c1, decide_eq_false c2, decide_eq_false c4, decide_eq_true c3]; done) | (unfold okCan inR; rw [decide_eq_false c1, decide_eq_false c2, decide_eq_false c4, decide_eq_true c3]; rfl) | simp [okCan, inR, bI, c1, c2, c3, c4]), ⟨by rw [ht]; exact hP9, hD9⟩⟩, hS.F ht⟩) hS.2.2 dX1_canAsk_85
        · refine lv_iload_n hx hb dX1_canAsk_61 rfl (lv_at hl 2 rfl) ?_
          replace hPc := hP.sub (ws' := []) [] rfl
          replace hDc := hD.sub (ws' := []) [] (by decide) rfl
          replace hFc := va_free (wc := []) hD hS hA [] rfl
          refine va_calli (va_runSN (As := [.int p1]) (rest := []) ⟨hx, hb, hml, hown, hts⟩ (c_isWord l D dA E p1 s.heap.size ) ⟨(va_cnB (host := "TallowIndex") 1 hts (ga_I q345) rfl rfl rfl (znM_4 hZ.1) (hts _ q346) (by decide +kernel) ⟨(Nat.le_of_ble_eq_true rfl), (Nat.le_of_ble_eq_true rfl)⟩), hts _ q347, trivial⟩ ⟨pb_blind, pb_pre hK hPc hDc hZ hS hFc _⟩ rfl rfl hl.1 rfl (lv_room (Nat.le_of_ble_eq_true rfl)) dX1_canAsk_62 ⟨(Nat.le_of_ble_eq_true rfl), (Nat.le_of_ble_eq_true rfl)⟩) hS (fun q _ h => hFc q h) hFc (fun r u t H1 locs ht hvm hw hB hz1 hk1 hS => ?_)
          refine W.widen (k := 0) (n := 0) (Nat.le_of_ble_eq_true rfl) (Nat.le_of_ble_eq_true rfl) ?_
          obtain ⟨r5, rfl⟩ : ∃ z, z = r := ⟨_, rfl⟩
          obtain ⟨u6, rfl⟩ : ∃ z, z = u := ⟨_, rfl⟩
          have hw7 := hw
          clear hw
          obtain ⟨hP1, hD1⟩ := hB
          rw [ht] at hP1
          obtain ⟨hP, hD⟩ := va_join (wr := []) (w1 := []) hP hD [] [] rfl rfl (by decide) (by decide) hk1 hFc hP1 hD1
          generalize H1 = H at hP hS ⊢
          replace hP : va_P D vwCl [] H := hP
          replace hD : va_D A [] := hD
          refine bt (b := (okW p1)) ?_ ?_
          · intro hB8
            obtain rfl : r5 = 1 := hw7.trans (by rw [hB8]; rfl)
            refine lv_if_eq (tgt := 84) hx hb dX1_canAsk_65 (by decide) (fun c9 => absurd c9 (by decide)) (fun _ => ?_)
            refine lv_iload_n hx hb dX1_canAsk_68 rfl (lv_at hl 3 rfl) ?_
            replace hPc := hP.sub (ws' := []) [] rfl
            replace hDc := hD.sub (ws' := []) [] (by decide) rfl
            replace hFc := va_free (wc := []) hD hS hA [] rfl
            refine va_calli (va_runSN (As := [.int p2]) (rest := []) ⟨hx, hb, hml, hown, hts⟩ (c_isWord l D dA E p2 H.size ) ⟨(va_cnB (host := "TallowIndex") 1 hts (ga_I q345) rfl rfl rfl (znM_4 hZ.1) (hts _ q346) (by decide +kernel) ⟨(Nat.le_of_ble_eq_true rfl), (Nat.le_of_ble_eq_true rfl)⟩), hts _ q347, trivial⟩ ⟨pb_blind, pb_pre hK hPc hDc hZ hS hFc _⟩ rfl rfl hl.1 rfl (lv_room (Nat.le_of_ble_eq_true rfl)) dX1_canAsk_69 ⟨(Nat.le_of_ble_eq_true rfl), (Nat.le_of_ble_eq_true rfl)⟩) hS (fun q _ h => hFc q h) hFc (fun r u t H1 locs ht hvm hw hB hz1 hk1 hS => ?_)
            refine W.widen (k := 0) (n := 0) (Nat.le_of_ble_eq_true rfl) (Nat.le_of_ble_eq_true rfl) ?_
            obtain ⟨r10, rfl⟩ : ∃ z, z = r := ⟨_, rfl⟩
            obtain ⟨u11, rfl⟩ : ∃ z, z = u := ⟨_, rfl⟩
            have hw12 := hw
            clear hw
            obtain ⟨hP1, hD1⟩ := hB
            rw [ht] at hP1
            obtain ⟨hP, hD⟩ := va_join (wr := []) (w1 := []) hP hD [] [] rfl rfl (by decide) (by decide) hk1 hFc hP1 hD1
            generalize H1 = H at hP hS ⊢
            replace hP : va_P D vwCl [] H := hP
            replace hD : va_D A [] := hD
            refine bt (b := (okW p2)) ?_ ?_
            · intro hB13
              obtain rfl : r10 = 1 := hw12.trans (by rw [hB13]; rfl)
              refine lv_if_eq (tgt := 84) hx hb dX1_canAsk_72 (by decide) (fun c14 => absurd c14 (by decide)) (fun _ => ?_)
              refine lv_iload hx hb dX1_canAsk_75 (lv_at hl 0 rfl) ?_
              refine lv_if_eq (tgt := 84) hx hb dX1_canAsk_77 (by decide) (fun _ => ?_) (fun c15 => absurd (by decide) c15)
              refine lv_iconst (v := 0) hx hb dX1_canAsk_84 (by decide) ?_
              refine W.widen (k := 0) (n := 0) (Nat.le_of_ble_eq_true rfl) (Nat.le_of_ble_eq_true rfl) ?_
              have hP9 := hP.sub (ws' := []) [] rfl
              have hD9 := hD.sub (ws' := []) [] (by decide) rfl
              exact W.zret (v := 0) hx hb hr rfl (fun t ht hW => ⟨⟨0, (), rfl, (by first | (unfold okCan inR; rw [decide_eq_false c1, decide_eq_false c2, decide_eq_true c3, c4, hB8, hB13]; done) | (unfold okCan inR; rw [decide_eq_false c1, decide_eq_false c2, decide_eq_true c3, c4, hB8, hB13]; rfl) | simp [okCan, inR, bI, c1, c2, c3, c4, hB8, hB13]), ⟨by rw [ht]; exact hP9, hD9⟩⟩, hS.F ht⟩) hS.2.2 dX1_canAsk_85
            · intro hB13
              obtain rfl : r10 = 0 := hw12.trans (by rw [hB13]; rfl)
              refine lv_if_eq (tgt := 84) hx hb dX1_canAsk_72 (by decide) (fun _ => ?_) (fun c16 => absurd (by decide) c16)
              refine lv_iconst (v := 0) hx hb dX1_canAsk_84 (by decide) ?_
              refine W.widen (k := 0) (n := 0) (Nat.le_of_ble_eq_true rfl) (Nat.le_of_ble_eq_true rfl) ?_
              have hP9 := hP.sub (ws' := []) [] rfl
              have hD9 := hD.sub (ws' := []) [] (by decide) rfl
              exact W.zret (v := 0) hx hb hr rfl (fun t ht hW => ⟨⟨0, (), rfl, (by first | (unfold okCan inR; rw [decide_eq_false c1, decide_eq_false c2, decide_eq_true c3, c4, hB8, hB13]; done) | (unfold okCan inR; rw [decide_eq_false c1, decide_eq_false c2, decide_eq_true c3, c4, hB8, hB13]; rfl) | simp [okCan, inR, bI, c1, c2, c3, c4, hB8, hB13]), ⟨by rw [ht]; exact hP9, hD9⟩⟩, hS.F ht⟩) hS.2.2 dX1_canAsk_85
          · intro hB8
            obtain rfl : r5 = 0 := hw7.trans (by rw [hB8]; rfl)
            refine lv_if_eq (tgt := 84) hx hb dX1_canAsk_65 (by decide) (fun _ => ?_) (fun c17 => absurd (by decide) c17)
            refine lv_iconst (v := 0) hx hb dX1_canAsk_84 (by decide) ?_
            refine W.widen (k := 0) (n := 0) (Nat.le_of_ble_eq_true rfl) (Nat.le_of_ble_eq_true rfl) ?_
            have hP9 := hP.sub (ws' := []) [] rfl
            have hD9 := hD.sub (ws' := []) [] (by decide) rfl
            exact W.zret (v := 0) hx hb hr rfl (fun t ht hW => ⟨⟨0, (), rfl, (by first | (unfold okCan inR; rw [decide_eq_false c1, decide_eq_false c2, decide_eq_true c3, c4, hB8]; done) | (unfold okCan inR; rw [decide_eq_false c1, decide_eq_false c2, decide_eq_true c3, c4, hB8]; rfl) | simp [okCan, inR, bI, c1, c2, c3, c4, hB8]), ⟨by rw [ht]; exact hP9, hD9⟩⟩, hS.F ht⟩) hS.2.2 dX1_canAsk_85
      · refine lv_iload_n hx hb dX1_canAsk_42 rfl (lv_at hl 3 rfl) ?_
        refine lv_bipush (v := 9) hx hb dX1_canAsk_43 (by decide) ?_
        refine lv_icmp_gt (tgt := 52) hx hb dX1_canAsk_45 (by decide) (fun c18 => ?_) (fun c18 => ?_)
        · refine lv_iconst (v := 0) hx hb dX1_canAsk_52 (by decide) ?_
          refine lv_istore (lv' := [(4, .int 0), (0, .int p0), (1, .int p1), (2, .int p2), (3, .int p3)]) hx hb dX1_canAsk_53 hl (by decide) rfl (fun ls hl => ?_)
          refine lv_iload_n hx hb dX1_canAsk_55 rfl (lv_at hl 1 rfl) ?_
          refine lv_bipush (v := 110) hx hb dX1_canAsk_56 (by decide) ?_
          refine lv_icmp_ne (tgt := 84) hx hb dX1_canAsk_58 (by decide) (fun c19 => ?_) (fun c19 => ?_)
          · refine lv_iconst (v := 0) hx hb dX1_canAsk_84 (by decide) ?_
            refine W.widen (k := 0) (n := 0) (Nat.le_of_ble_eq_true rfl) (Nat.le_of_ble_eq_true rfl) ?_
            have hP9 := hP.sub (ws' := []) [] rfl
            have hD9 := hD.sub (ws' := []) [] (by decide) rfl
            exact W.zret (v := 0) hx hb hr rfl (fun t ht hW => ⟨⟨0, (), rfl, (by first | (unfold okCan inR; rw [decide_eq_false c1, decide_eq_false c2, decide_eq_false c19, decide_eq_false c3, decide_eq_true c18]; done) | (unfold okCan inR; rw [decide_eq_false c1, decide_eq_false c2, decide_eq_false c19, decide_eq_false c3, decide_eq_true c18]; rfl) | simp [okCan, inR, bI, c1, c2, c3, c18, c19]), ⟨by rw [ht]; exact hP9, hD9⟩⟩, hS.F ht⟩) hS.2.2 dX1_canAsk_85
          · refine lv_iload_n hx hb dX1_canAsk_61 rfl (lv_at hl 2 rfl) ?_
            replace hPc := hP.sub (ws' := []) [] rfl
            replace hDc := hD.sub (ws' := []) [] (by decide) rfl
            replace hFc := va_free (wc := []) hD hS hA [] rfl
            refine va_calli (va_runSN (As := [.int p1]) (rest := []) ⟨hx, hb, hml, hown, hts⟩ (c_isWord l D dA E p1 s.heap.size ) ⟨(va_cnB (host := "TallowIndex") 1 hts (ga_I q345) rfl rfl rfl (znM_4 hZ.1) (hts _ q346) (by decide +kernel) ⟨(Nat.le_of_ble_eq_true rfl), (Nat.le_of_ble_eq_true rfl)⟩), hts _ q347, trivial⟩ ⟨pb_blind, pb_pre hK hPc hDc hZ hS hFc _⟩ rfl rfl hl.1 rfl (lv_room (Nat.le_of_ble_eq_true rfl)) dX1_canAsk_62 ⟨(Nat.le_of_ble_eq_true rfl), (Nat.le_of_ble_eq_true rfl)⟩) hS (fun q _ h => hFc q h) hFc (fun r u t H1 locs ht hvm hw hB hz1 hk1 hS => ?_)
            refine W.widen (k := 0) (n := 0) (Nat.le_of_ble_eq_true rfl) (Nat.le_of_ble_eq_true rfl) ?_
            obtain ⟨r20, rfl⟩ : ∃ z, z = r := ⟨_, rfl⟩
            obtain ⟨u21, rfl⟩ : ∃ z, z = u := ⟨_, rfl⟩
            have hw22 := hw
            clear hw
            obtain ⟨hP1, hD1⟩ := hB
            rw [ht] at hP1
            obtain ⟨hP, hD⟩ := va_join (wr := []) (w1 := []) hP hD [] [] rfl rfl (by decide) (by decide) hk1 hFc hP1 hD1
            generalize H1 = H at hP hS ⊢
            replace hP : va_P D vwCl [] H := hP
            replace hD : va_D A [] := hD
            refine bt (b := (okW p1)) ?_ ?_
            · intro hB23
              obtain rfl : r20 = 1 := hw22.trans (by rw [hB23]; rfl)
              refine lv_if_eq (tgt := 84) hx hb dX1_canAsk_65 (by decide) (fun c24 => absurd c24 (by decide)) (fun _ => ?_)
              refine lv_iload_n hx hb dX1_canAsk_68 rfl (lv_at hl 3 rfl) ?_
              replace hPc := hP.sub (ws' := []) [] rfl
              replace hDc := hD.sub (ws' := []) [] (by decide) rfl
              replace hFc := va_free (wc := []) hD hS hA [] rfl
              refine va_calli (va_runSN (As := [.int p2]) (rest := []) ⟨hx, hb, hml, hown, hts⟩ (c_isWord l D dA E p2 H.size ) ⟨(va_cnB (host := "TallowIndex") 1 hts (ga_I q345) rfl rfl rfl (znM_4 hZ.1) (hts _ q346) (by decide +kernel) ⟨(Nat.le_of_ble_eq_true rfl), (Nat.le_of_ble_eq_true rfl)⟩), hts _ q347, trivial⟩ ⟨pb_blind, pb_pre hK hPc hDc hZ hS hFc _⟩ rfl rfl hl.1 rfl (lv_room (Nat.le_of_ble_eq_true rfl)) dX1_canAsk_69 ⟨(Nat.le_of_ble_eq_true rfl), (Nat.le_of_ble_eq_true rfl)⟩) hS (fun q _ h => hFc q h) hFc (fun r u t H1 locs ht hvm hw hB hz1 hk1 hS => ?_)
              refine W.widen (k := 0) (n := 0) (Nat.le_of_ble_eq_true rfl) (Nat.le_of_ble_eq_true rfl) ?_
              obtain ⟨r25, rfl⟩ : ∃ z, z = r := ⟨_, rfl⟩
              obtain ⟨u26, rfl⟩ : ∃ z, z = u := ⟨_, rfl⟩
              have hw27 := hw
              clear hw
              obtain ⟨hP1, hD1⟩ := hB
              rw [ht] at hP1
              obtain ⟨hP, hD⟩ := va_join (wr := []) (w1 := []) hP hD [] [] rfl rfl (by decide) (by decide) hk1 hFc hP1 hD1
              generalize H1 = H at hP hS ⊢
              replace hP : va_P D vwCl [] H := hP
              replace hD : va_D A [] := hD
              refine bt (b := (okW p2)) ?_ ?_
              · intro hB28
                obtain rfl : r25 = 1 := hw27.trans (by rw [hB28]; rfl)
                refine lv_if_eq (tgt := 84) hx hb dX1_canAsk_72 (by decide) (fun c29 => absurd c29 (by decide)) (fun _ => ?_)
                refine lv_iload hx hb dX1_canAsk_75 (lv_at hl 0 rfl) ?_
                refine lv_if_eq (tgt := 84) hx hb dX1_canAsk_77 (by decide) (fun _ => ?_) (fun c30 => absurd (by decide) c30)
                refine lv_iconst (v := 0) hx hb dX1_canAsk_84 (by decide) ?_
                refine W.widen (k := 0) (n := 0) (Nat.le_of_ble_eq_true rfl) (Nat.le_of_ble_eq_true rfl) ?_
                have hP9 := hP.sub (ws' := []) [] rfl
                have hD9 := hD.sub (ws' := []) [] (by decide) rfl
                exact W.zret (v := 0) hx hb hr rfl (fun t ht hW => ⟨⟨0, (), rfl, (by first | (unfold okCan inR; rw [decide_eq_false c1, decide_eq_false c2, decide_eq_false c3, decide_eq_true c18, c19, hB23, hB28]; done) | (unfold okCan inR; rw [decide_eq_false c1, decide_eq_false c2, decide_eq_false c3, decide_eq_true c18, c19, hB23, hB28]; rfl) | simp [okCan, inR, bI, c1, c2, c3, c18, c19, hB23, hB28]), ⟨by rw [ht]; exact hP9, hD9⟩⟩, hS.F ht⟩) hS.2.2 dX1_canAsk_85
              · intro hB28
                obtain rfl : r25 = 0 := hw27.trans (by rw [hB28]; rfl)
                refine lv_if_eq (tgt := 84) hx hb dX1_canAsk_72 (by decide) (fun _ => ?_) (fun c31 => absurd (by decide) c31)
                refine lv_iconst (v := 0) hx hb dX1_canAsk_84 (by decide) ?_
                refine W.widen (k := 0) (n := 0) (Nat.le_of_ble_eq_true rfl) (Nat.le_of_ble_eq_true rfl) ?_
                have hP9 := hP.sub (ws' := []) [] rfl
                have hD9 := hD.sub (ws' := []) [] (by decide) rfl
                exact W.zret (v := 0) hx hb hr rfl (fun t ht hW => ⟨⟨0, (), rfl, (by first | (unfold okCan inR; rw [decide_eq_false c1, decide_eq_false c2, decide_eq_false c3, decide_eq_true c18, c19, hB23, hB28]; done) | (unfold okCan inR; rw [decide_eq_false c1, decide_eq_false c2, decide_eq_false c3, decide_eq_true c18, c19, hB23, hB28]; rfl) | simp [okCan, inR, bI, c1, c2, c3, c18, c19, hB23, hB28]), ⟨by rw [ht]; exact hP9, hD9⟩⟩, hS.F ht⟩) hS.2.2 dX1_canAsk_85
            · intro hB23
              obtain rfl : r20 = 0 := hw22.trans (by rw [hB23]; rfl)
              refine lv_if_eq (tgt := 84) hx hb dX1_canAsk_65 (by decide) (fun _ => ?_) (fun c32 => absurd (by decide) c32)
              refine lv_iconst (v := 0) hx hb dX1_canAsk_84 (by decide) ?_
              refine W.widen (k := 0) (n := 0) (Nat.le_of_ble_eq_true rfl) (Nat.le_of_ble_eq_true rfl) ?_
              have hP9 := hP.sub (ws' := []) [] rfl
              have hD9 := hD.sub (ws' := []) [] (by decide) rfl
              exact W.zret (v := 0) hx hb hr rfl (fun t ht hW => ⟨⟨0, (), rfl, (by first | (unfold okCan inR; rw [decide_eq_false c1, decide_eq_false c2, decide_eq_false c3, decide_eq_true c18, c19, hB23]; done) | (unfold okCan inR; rw [decide_eq_false c1, decide_eq_false c2, decide_eq_false c3, decide_eq_true c18, c19, hB23]; rfl) | simp [okCan, inR, bI, c1, c2, c3, c18, c19, hB23]), ⟨by rw [ht]; exact hP9, hD9⟩⟩, hS.F ht⟩) hS.2.2 dX1_canAsk_85
        · refine lv_iconst (v := 1) hx hb dX1_canAsk_48 (by decide) ?_
          refine lv_goto (tgt := 53) hx hb dX1_canAsk_49 (by decide) ?_
          refine lv_istore (lv' := [(4, .int 1), (0, .int p0), (1, .int p1), (2, .int p2), (3, .int p3)]) hx hb dX1_canAsk_53 hl (by decide) rfl (fun ls hl => ?_)
          refine lv_iload_n hx hb dX1_canAsk_55 rfl (lv_at hl 1 rfl) ?_
          refine lv_bipush (v := 110) hx hb dX1_canAsk_56 (by decide) ?_
          refine lv_icmp_ne (tgt := 84) hx hb dX1_canAsk_58 (by decide) (fun c33 => ?_) (fun c33 => ?_)
          · refine lv_iconst (v := 0) hx hb dX1_canAsk_84 (by decide) ?_
            refine W.widen (k := 0) (n := 0) (Nat.le_of_ble_eq_true rfl) (Nat.le_of_ble_eq_true rfl) ?_
            have hP9 := hP.sub (ws' := []) [] rfl
            have hD9 := hD.sub (ws' := []) [] (by decide) rfl
            exact W.zret (v := 0) hx hb hr rfl (fun t ht hW => ⟨⟨0, (), rfl, (by first | (unfold okCan inR; rw [decide_eq_false c1, decide_eq_false c2, decide_eq_false c33, decide_eq_false c3, decide_eq_false c18]; done) | (unfold okCan inR; rw [decide_eq_false c1, decide_eq_false c2, decide_eq_false c33, decide_eq_false c3, decide_eq_false c18]; rfl) | simp [okCan, inR, bI, c1, c2, c3, c18, c33]), ⟨by rw [ht]; exact hP9, hD9⟩⟩, hS.F ht⟩) hS.2.2 dX1_canAsk_85
          · refine lv_iload_n hx hb dX1_canAsk_61 rfl (lv_at hl 2 rfl) ?_
            replace hPc := hP.sub (ws' := []) [] rfl
            replace hDc := hD.sub (ws' := []) [] (by decide) rfl
            replace hFc := va_free (wc := []) hD hS hA [] rfl
            refine va_calli (va_runSN (As := [.int p1]) (rest := []) ⟨hx, hb, hml, hown, hts⟩ (c_isWord l D dA E p1 s.heap.size ) ⟨(va_cnB (host := "TallowIndex") 1 hts (ga_I q345) rfl rfl rfl (znM_4 hZ.1) (hts _ q346) (by decide +kernel) ⟨(Nat.le_of_ble_eq_true rfl), (Nat.le_of_ble_eq_true rfl)⟩), hts _ q347, trivial⟩ ⟨pb_blind, pb_pre hK hPc hDc hZ hS hFc _⟩ rfl rfl hl.1 rfl (lv_room (Nat.le_of_ble_eq_true rfl)) dX1_canAsk_62 ⟨(Nat.le_of_ble_eq_true rfl), (Nat.le_of_ble_eq_true rfl)⟩) hS (fun q _ h => hFc q h) hFc (fun r u t H1 locs ht hvm hw hB hz1 hk1 hS => ?_)
            refine W.widen (k := 0) (n := 0) (Nat.le_of_ble_eq_true rfl) (Nat.le_of_ble_eq_true rfl) ?_
            obtain ⟨r34, rfl⟩ : ∃ z, z = r := ⟨_, rfl⟩
            obtain ⟨u35, rfl⟩ : ∃ z, z = u := ⟨_, rfl⟩
            have hw36 := hw
            clear hw
            obtain ⟨hP1, hD1⟩ := hB
            rw [ht] at hP1
            obtain ⟨hP, hD⟩ := va_join (wr := []) (w1 := []) hP hD [] [] rfl rfl (by decide) (by decide) hk1 hFc hP1 hD1
            generalize H1 = H at hP hS ⊢
            replace hP : va_P D vwCl [] H := hP
            replace hD : va_D A [] := hD
            refine bt (b := (okW p1)) ?_ ?_
            · intro hB37
              obtain rfl : r34 = 1 := hw36.trans (by rw [hB37]; rfl)
              refine lv_if_eq (tgt := 84) hx hb dX1_canAsk_65 (by decide) (fun c38 => absurd c38 (by decide)) (fun _ => ?_)
              refine lv_iload_n hx hb dX1_canAsk_68 rfl (lv_at hl 3 rfl) ?_
              replace hPc := hP.sub (ws' := []) [] rfl
              replace hDc := hD.sub (ws' := []) [] (by decide) rfl
              replace hFc := va_free (wc := []) hD hS hA [] rfl
              refine va_calli (va_runSN (As := [.int p2]) (rest := []) ⟨hx, hb, hml, hown, hts⟩ (c_isWord l D dA E p2 H.size ) ⟨(va_cnB (host := "TallowIndex") 1 hts (ga_I q345) rfl rfl rfl (znM_4 hZ.1) (hts _ q346) (by decide +kernel) ⟨(Nat.le_of_ble_eq_true rfl), (Nat.le_of_ble_eq_true rfl)⟩), hts _ q347, trivial⟩ ⟨pb_blind, pb_pre hK hPc hDc hZ hS hFc _⟩ rfl rfl hl.1 rfl (lv_room (Nat.le_of_ble_eq_true rfl)) dX1_canAsk_69 ⟨(Nat.le_of_ble_eq_true rfl), (Nat.le_of_ble_eq_true rfl)⟩) hS (fun q _ h => hFc q h) hFc (fun r u t H1 locs ht hvm hw hB hz1 hk1 hS => ?_)
              refine W.widen (k := 0) (n := 0) (Nat.le_of_ble_eq_true rfl) (Nat.le_of_ble_eq_true rfl) ?_
              obtain ⟨r39, rfl⟩ : ∃ z, z = r := ⟨_, rfl⟩
              obtain ⟨u40, rfl⟩ : ∃ z, z = u := ⟨_, rfl⟩
              have hw41 := hw
              clear hw
              obtain ⟨hP1, hD1⟩ := hB
              rw [ht] at hP1
              obtain ⟨hP, hD⟩ := va_join (wr := []) (w1 := []) hP hD [] [] rfl rfl (by decide) (by decide) hk1 hFc hP1 hD1
              generalize H1 = H at hP hS ⊢
              replace hP : va_P D vwCl [] H := hP
              replace hD : va_D A [] := hD
              refine bt (b := (okW p2)) ?_ ?_
              · intro hB42
                obtain rfl : r39 = 1 := hw41.trans (by rw [hB42]; rfl)
                refine lv_if_eq (tgt := 84) hx hb dX1_canAsk_72 (by decide) (fun c43 => absurd c43 (by decide)) (fun _ => ?_)
                refine lv_iload hx hb dX1_canAsk_75 (lv_at hl 0 rfl) ?_
                refine lv_if_eq (tgt := 84) hx hb dX1_canAsk_77 (by decide) (fun c44 => absurd c44 (by decide)) (fun _ => ?_)
                refine lv_iconst (v := 1) hx hb dX1_canAsk_80 (by decide) ?_
                refine lv_goto (tgt := 85) hx hb dX1_canAsk_81 (by decide) ?_
                refine W.widen (k := 0) (n := 0) (Nat.le_of_ble_eq_true rfl) (Nat.le_of_ble_eq_true rfl) ?_
                have hP9 := hP.sub (ws' := []) [] rfl
                have hD9 := hD.sub (ws' := []) [] (by decide) rfl
                exact W.zret (v := 1) hx hb hr rfl (fun t ht hW => ⟨⟨1, (), rfl, (by first | (unfold okCan inR; rw [decide_eq_false c1, decide_eq_false c2, decide_eq_false c3, decide_eq_false c18, c33, hB37, hB42]; done) | (unfold okCan inR; rw [decide_eq_false c1, decide_eq_false c2, decide_eq_false c3, decide_eq_false c18, c33, hB37, hB42]; rfl) | simp [okCan, inR, bI, c1, c2, c3, c18, c33, hB37, hB42]), ⟨by rw [ht]; exact hP9, hD9⟩⟩, hS.F ht⟩) hS.2.2 dX1_canAsk_85
              · intro hB42
                obtain rfl : r39 = 0 := hw41.trans (by rw [hB42]; rfl)
                refine lv_if_eq (tgt := 84) hx hb dX1_canAsk_72 (by decide) (fun _ => ?_) (fun c45 => absurd (by decide) c45)
                refine lv_iconst (v := 0) hx hb dX1_canAsk_84 (by decide) ?_
                refine W.widen (k := 0) (n := 0) (Nat.le_of_ble_eq_true rfl) (Nat.le_of_ble_eq_true rfl) ?_
                have hP9 := hP.sub (ws' := []) [] rfl
                have hD9 := hD.sub (ws' := []) [] (by decide) rfl
                exact W.zret (v := 0) hx hb hr rfl (fun t ht hW => ⟨⟨0, (), rfl, (by first | (unfold okCan inR; rw [decide_eq_false c1, decide_eq_false c2, decide_eq_false c3, decide_eq_false c18, c33, hB37, hB42]; done) | (unfold okCan inR; rw [decide_eq_false c1, decide_eq_false c2, decide_eq_false c3, decide_eq_false c18, c33, hB37, hB42]; rfl) | simp [okCan, inR, bI, c1, c2, c3, c18, c33, hB37, hB42]), ⟨by rw [ht]; exact hP9, hD9⟩⟩, hS.F ht⟩) hS.2.2 dX1_canAsk_85
            · intro hB37
              obtain rfl : r34 = 0 := hw36.trans (by rw [hB37]; rfl)
              refine lv_if_eq (tgt := 84) hx hb dX1_canAsk_65 (by decide) (fun _ => ?_) (fun c46 => absurd (by decide) c46)
              refine lv_iconst (v := 0) hx hb dX1_canAsk_84 (by decide) ?_
              refine W.widen (k := 0) (n := 0) (Nat.le_of_ble_eq_true rfl) (Nat.le_of_ble_eq_true rfl) ?_
              have hP9 := hP.sub (ws' := []) [] rfl
              have hD9 := hD.sub (ws' := []) [] (by decide) rfl
              exact W.zret (v := 0) hx hb hr rfl (fun t ht hW => ⟨⟨0, (), rfl, (by first | (unfold okCan inR; rw [decide_eq_false c1, decide_eq_false c2, decide_eq_false c3, decide_eq_false c18, c33, hB37]; done) | (unfold okCan inR; rw [decide_eq_false c1, decide_eq_false c2, decide_eq_false c3, decide_eq_false c18, c33, hB37]; rfl) | simp [okCan, inR, bI, c1, c2, c3, c18, c33, hB37]), ⟨by rw [ht]; exact hP9, hD9⟩⟩, hS.F ht⟩) hS.2.2 dX1_canAsk_85
    · refine lv_iload_n hx hb dX1_canAsk_17 rfl (lv_at hl 1 rfl) ?_
      replace hPc := hP.sub (ws' := []) [] rfl
      replace hDc := hD.sub (ws' := []) [] (by decide) rfl
      replace hFc := va_free (wc := []) hD hS hA [] rfl
      refine va_calli (va_runSN (As := [.int p1]) (rest := []) ⟨hx, hb, hml, hown, hts⟩ (c_isWord l D dA E p1 s.heap.size ) ⟨(va_cnB (host := "TallowIndex") 1 hts (ga_I q345) rfl rfl rfl (znM_4 hZ.1) (hts _ q346) (by decide +kernel) ⟨(Nat.le_of_ble_eq_true rfl), (Nat.le_of_ble_eq_true rfl)⟩), hts _ q347, trivial⟩ ⟨pb_blind, pb_pre hK hPc hDc hZ hS hFc _⟩ rfl rfl hl.1 rfl (lv_room (Nat.le_of_ble_eq_true rfl)) dX1_canAsk_18 ⟨(Nat.le_of_ble_eq_true rfl), (Nat.le_of_ble_eq_true rfl)⟩) hS (fun q _ h => hFc q h) hFc (fun r u t H1 locs ht hvm hw hB hz1 hk1 hS => ?_)
      refine W.widen (k := 0) (n := 0) (Nat.le_of_ble_eq_true rfl) (Nat.le_of_ble_eq_true rfl) ?_
      obtain ⟨r47, rfl⟩ : ∃ z, z = r := ⟨_, rfl⟩
      obtain ⟨u48, rfl⟩ : ∃ z, z = u := ⟨_, rfl⟩
      have hw49 := hw
      clear hw
      obtain ⟨hP1, hD1⟩ := hB
      rw [ht] at hP1
      obtain ⟨hP, hD⟩ := va_join (wr := []) (w1 := []) hP hD [] [] rfl rfl (by decide) (by decide) hk1 hFc hP1 hD1
      generalize H1 = H at hP hS ⊢
      replace hP : va_P D vwCl [] H := hP
      replace hD : va_D A [] := hD
      refine bt (b := (okW p1)) ?_ ?_
      · intro hB50
        obtain rfl : r47 = 1 := hw49.trans (by rw [hB50]; rfl)
        refine lv_if_eq (tgt := 35) hx hb dX1_canAsk_21 (by decide) (fun c51 => absurd c51 (by decide)) (fun _ => ?_)
        refine lv_iload_n hx hb dX1_canAsk_24 rfl (lv_at hl 2 rfl) ?_
        replace hPc := hP.sub (ws' := []) [] rfl
        replace hDc := hD.sub (ws' := []) [] (by decide) rfl
        replace hFc := va_free (wc := []) hD hS hA [] rfl
        refine va_calli (va_runSN (As := [.int p2]) (rest := []) ⟨hx, hb, hml, hown, hts⟩ (c_isWord l D dA E p2 H.size ) ⟨(va_cnB (host := "TallowIndex") 1 hts (ga_I q345) rfl rfl rfl (znM_4 hZ.1) (hts _ q346) (by decide +kernel) ⟨(Nat.le_of_ble_eq_true rfl), (Nat.le_of_ble_eq_true rfl)⟩), hts _ q347, trivial⟩ ⟨pb_blind, pb_pre hK hPc hDc hZ hS hFc _⟩ rfl rfl hl.1 rfl (lv_room (Nat.le_of_ble_eq_true rfl)) dX1_canAsk_25 ⟨(Nat.le_of_ble_eq_true rfl), (Nat.le_of_ble_eq_true rfl)⟩) hS (fun q _ h => hFc q h) hFc (fun r u t H1 locs ht hvm hw hB hz1 hk1 hS => ?_)
        refine W.widen (k := 0) (n := 0) (Nat.le_of_ble_eq_true rfl) (Nat.le_of_ble_eq_true rfl) ?_
        obtain ⟨r52, rfl⟩ : ∃ z, z = r := ⟨_, rfl⟩
        obtain ⟨u53, rfl⟩ : ∃ z, z = u := ⟨_, rfl⟩
        have hw54 := hw
        clear hw
        obtain ⟨hP1, hD1⟩ := hB
        rw [ht] at hP1
        obtain ⟨hP, hD⟩ := va_join (wr := []) (w1 := []) hP hD [] [] rfl rfl (by decide) (by decide) hk1 hFc hP1 hD1
        generalize H1 = H at hP hS ⊢
        replace hP : va_P D vwCl [] H := hP
        replace hD : va_D A [] := hD
        refine bt (b := (okW p2)) ?_ ?_
        · intro hB55
          obtain rfl : r52 = 1 := hw54.trans (by rw [hB55]; rfl)
          refine lv_if_eq (tgt := 35) hx hb dX1_canAsk_28 (by decide) (fun c56 => absurd c56 (by decide)) (fun _ => ?_)
          refine lv_iconst (v := 1) hx hb dX1_canAsk_31 (by decide) ?_
          refine lv_goto (tgt := 36) hx hb dX1_canAsk_32 (by decide) ?_
          refine W.widen (k := 0) (n := 0) (Nat.le_of_ble_eq_true rfl) (Nat.le_of_ble_eq_true rfl) ?_
          have hP9 := hP.sub (ws' := []) [] rfl
          have hD9 := hD.sub (ws' := []) [] (by decide) rfl
          exact W.zret (v := 1) hx hb hr rfl (fun t ht hW => ⟨⟨1, (), rfl, (by first | (unfold okCan; rw [decide_eq_false c1, c2, hB50, hB55]; done) | (unfold okCan; rw [decide_eq_false c1, c2, hB50, hB55]; rfl) | simp [okCan, inR, bI, c1, c2, hB50, hB55]), ⟨by rw [ht]; exact hP9, hD9⟩⟩, hS.F ht⟩) hS.2.2 dX1_canAsk_36
        · intro hB55
          obtain rfl : r52 = 0 := hw54.trans (by rw [hB55]; rfl)
          refine lv_if_eq (tgt := 35) hx hb dX1_canAsk_28 (by decide) (fun _ => ?_) (fun c57 => absurd (by decide) c57)
          refine lv_iconst (v := 0) hx hb dX1_canAsk_35 (by decide) ?_
          refine W.widen (k := 0) (n := 0) (Nat.le_of_ble_eq_true rfl) (Nat.le_of_ble_eq_true rfl) ?_
          have hP9 := hP.sub (ws' := []) [] rfl
          have hD9 := hD.sub (ws' := []) [] (by decide) rfl
          exact W.zret (v := 0) hx hb hr rfl (fun t ht hW => ⟨⟨0, (), rfl, (by first | (unfold okCan; rw [decide_eq_false c1, c2, hB50, hB55]; done) | (unfold okCan; rw [decide_eq_false c1, c2, hB50, hB55]; rfl) | simp [okCan, inR, bI, c1, c2, hB50, hB55]), ⟨by rw [ht]; exact hP9, hD9⟩⟩, hS.F ht⟩) hS.2.2 dX1_canAsk_36
      · intro hB50
        obtain rfl : r47 = 0 := hw49.trans (by rw [hB50]; rfl)
        refine lv_if_eq (tgt := 35) hx hb dX1_canAsk_21 (by decide) (fun _ => ?_) (fun c58 => absurd (by decide) c58)
        refine lv_iconst (v := 0) hx hb dX1_canAsk_35 (by decide) ?_
        refine W.widen (k := 0) (n := 0) (Nat.le_of_ble_eq_true rfl) (Nat.le_of_ble_eq_true rfl) ?_
        have hP9 := hP.sub (ws' := []) [] rfl
        have hD9 := hD.sub (ws' := []) [] (by decide) rfl
        exact W.zret (v := 0) hx hb hr rfl (fun t ht hW => ⟨⟨0, (), rfl, (by first | (unfold okCan; rw [decide_eq_false c1, c2, hB50]; done) | (unfold okCan; rw [decide_eq_false c1, c2, hB50]; rfl) | simp [okCan, inR, bI, c1, c2, hB50]), ⟨by rw [ht]; exact hP9, hD9⟩⟩, hS.F ht⟩) hS.2.2 dX1_canAsk_36
  · refine lv_iload_n hx hb dX1_canAsk_6 rfl (lv_at hl 1 rfl) ?_
    replace hPc := hP.sub (ws' := []) [] rfl
    replace hDc := hD.sub (ws' := []) [] (by decide) rfl
    replace hFc := va_free (wc := []) hD hS hA [] rfl
    refine va_calli (va_runSN (As := [.int p1]) (rest := []) ⟨hx, hb, hml, hown, hts⟩ (c_isWord l D dA E p1 s.heap.size ) ⟨(va_cnB (host := "TallowIndex") 1 hts (ga_I q345) rfl rfl rfl (znM_4 hZ.1) (hts _ q346) (by decide +kernel) ⟨(Nat.le_of_ble_eq_true rfl), (Nat.le_of_ble_eq_true rfl)⟩), hts _ q347, trivial⟩ ⟨pb_blind, pb_pre hK hPc hDc hZ hS hFc _⟩ rfl rfl hl.1 rfl (lv_room (Nat.le_of_ble_eq_true rfl)) dX1_canAsk_7 ⟨(Nat.le_of_ble_eq_true rfl), (Nat.le_of_ble_eq_true rfl)⟩) hS (fun q _ h => hFc q h) hFc (fun r u t H1 locs ht hvm hw hB hz1 hk1 hS => ?_)
    refine W.widen (k := 0) (n := 0) (Nat.le_of_ble_eq_true rfl) (Nat.le_of_ble_eq_true rfl) ?_
    obtain ⟨r59, rfl⟩ : ∃ z, z = r := ⟨_, rfl⟩
    obtain ⟨u60, rfl⟩ : ∃ z, z = u := ⟨_, rfl⟩
    have hw61 := hw
    clear hw
    obtain ⟨hP1, hD1⟩ := hB
    rw [ht] at hP1
    obtain ⟨hP, hD⟩ := va_join (wr := []) (w1 := []) hP hD [] [] rfl rfl (by decide) (by decide) hk1 hFc hP1 hD1
    generalize H1 = H at hP hS ⊢
    replace hP : va_P D vwCl [] H := hP
    replace hD : va_D A [] := hD
    refine bt (b := (okW p1)) ?_ ?_
    · intro hB62
      obtain rfl : r59 = 1 := hw61.trans (by rw [hB62]; rfl)
      refine W.widen (k := 0) (n := 0) (Nat.le_of_ble_eq_true rfl) (Nat.le_of_ble_eq_true rfl) ?_
      have hP9 := hP.sub (ws' := []) [] rfl
      have hD9 := hD.sub (ws' := []) [] (by decide) rfl
      exact W.zret (v := 1) hx hb hr rfl (fun t ht hW => ⟨⟨1, (), rfl, (by first | (unfold okCan; rw [c1, hB62]; done) | (unfold okCan; rw [c1, hB62]; rfl) | simp [okCan, inR, bI, c1, hB62]), ⟨by rw [ht]; exact hP9, hD9⟩⟩, hS.F ht⟩) hS.2.2 dX1_canAsk_10
    · intro hB62
      obtain rfl : r59 = 0 := hw61.trans (by rw [hB62]; rfl)
      refine W.widen (k := 0) (n := 0) (Nat.le_of_ble_eq_true rfl) (Nat.le_of_ble_eq_true rfl) ?_
      have hP9 := hP.sub (ws' := []) [] rfl
      have hD9 := hD.sub (ws' := []) [] (by decide) rfl
      exact W.zret (v := 0) hx hb hr rfl (fun t ht hW => ⟨⟨0, (), rfl, (by first | (unfold okCan; rw [c1, hB62]; done) | (unfold okCan; rw [c1, hB62]; rfl) | simp [okCan, inR, bI, c1, hB62]), ⟨by rw [ht]; exact hP9, hD9⟩⟩, hS.F ht⟩) hS.2.2 dX1_canAsk_10
