/-! CONTRACTS, general -/
set_option maxHeartbeats 4000000 in
set_option maxRecDepth 100000 in
theorem s_moveUp (l : Launch) (D : va_G) (dA : Nat → ClassId) (E : Nat) (z : Nat → Nat) (tS tG : Nat → Int32) (nd nsg : Nat) (sm nb : Nat) (sz : Nat) (hnd : nd ≤ 30) (hnsg : nsg ≤ 1000) (hb2 : nb ≤ 2)  : Met l yX4_moveUp (wq (.code yX4_moveUp cX4_moveUp 5 none)) { frames := 1, cells := 0, slots := 0, locals := 22 } (va_Pc [.ref (z 0), .int (nI sm), .int (nI nb)] (PcB D dA E [(z 0, .inr (7, [.ref (z 1), .ref (z 3), .int (nI nd), .int (nI (nsg + nb))])), (z 1, .inr (5, [.ref (z 2)])), (z 2, .inl (dA 0, 30, .inl tS)), (z 3, .inr (5, [.ref (z 4)])), (z 4, .inl (dA 0, 30, .inl tG))] sz)) (va_Qv (fun (u : Unit) => True) (fun u t => va_P D vwCl [(z 0, .inr (7, [.ref (z 1), .ref (z 3), .int (nI nd), .int (nI nsg)])), (z 1, .inr (5, [.ref (z 2)])), (z 2, .inl (dA 0, 30, .inl tS)), (z 3, .inr (5, [.ref (z 4)])), (z 4, .inl (dA 0, 30, .inl (fl (mvF sm nb tG) tG nd)))] t.heap ∧ va_D (va_A [(z 0, .inr (7, [.ref (z 1), .ref (z 3), .int (nI nd), .int (nI (nsg + nb))])), (z 1, .inr (5, [.ref (z 2)])), (z 2, .inl (dA 0, 30, .inl tS)), (z 3, .inr (5, [.ref (z 4)])), (z 4, .inl (dA 0, 30, .inl tG))] sz) [(z 0, .inr (7, [.ref (z 1), .ref (z 3), .int (nI nd), .int (nI nsg)])), (z 1, .inr (5, [.ref (z 2)])), (z 2, .inl (dA 0, 30, .inl tS)), (z 3, .inr (5, [.ref (z 4)])), (z 4, .inl (dA 0, 30, .inl (fl (mvF sm nb tG) tG nd)))]) (va_A [(z 0, .inr (7, [.ref (z 1), .ref (z 3), .int (nI nd), .int (nI (nsg + nb))])), (z 1, .inr (5, [.ref (z 2)])), (z 2, .inl (dA 0, 30, .inl tS)), (z 3, .inr (5, [.ref (z 4)])), (z 4, .inl (dA 0, 30, .inl tG))] sz)) 0 0 (va_A [(z 0, .inr (7, [.ref (z 1), .ref (z 3), .int (nI nd), .int (nI (nsg + nb))])), (z 1, .inr (5, [.ref (z 2)])), (z 2, .inl (dA 0, 30, .inl tS)), (z 3, .inr (5, [.ref (z 4)])), (z 4, .inl (dA 0, 30, .inl tG))] sz) := by
  refine mb_of (Qc := fun A => va_Qv (fun (u : Unit) => True) (fun u t => va_P D vwCl [(z 0, .inr (7, [.ref (z 1), .ref (z 3), .int (nI nd), .int (nI nsg)])), (z 1, .inr (5, [.ref (z 2)])), (z 2, .inl (dA 0, 30, .inl tS)), (z 3, .inr (5, [.ref (z 4)])), (z 4, .inl (dA 0, 30, .inl (fl (mvF sm nb tG) tG nd)))] t.heap ∧ va_D A [(z 0, .inr (7, [.ref (z 1), .ref (z 3), .int (nI nd), .int (nI nsg)])), (z 1, .inr (5, [.ref (z 2)])), (z 2, .inl (dA 0, 30, .inl tS)), (z 3, .inr (5, [.ref (z 4)])), (z 4, .inl (dA 0, 30, .inl (fl (mvF sm nb tG) tG nd)))]) A) RX4 rfl (by decide) (Nat.le_of_ble_eq_true rfl) ?_
  intro p e s m args below meth c hae hx hb hr hts hown hlocks hml hnm hP hK A hAe hD hZ hS hA ls hl
  replace hl : lv_has ls 5 [(0, .ref (z 0)), (1, .int (nI sm)), (2, .int (nI nb))] := hl
  refine lv_iconst (v := 0) hx hb dX4_moveUp_0 (by decide) ?_
  refine lv_istore_n (lv' := [(3, .int 0), (0, .ref (z 0)), (1, .int (nI sm)), (2, .int (nI nb))]) hx hb dX4_moveUp_1 rfl hl (by decide) rfl (fun ls hl => ?_)
  have K2 : ∀ (k2 i2 : Nat) (g2_0 : Nat → Int32), 0 ≤ i2 → i2 ≤ nd → nd < i2 + k2 → (g2_0 = fl (mvF sm nb tG) tG i2) → ∀ (H : Heap) (locs : List Loc), va_P D vwCl [(z 0, .inr (7, [.ref (z 1), .ref (z 3), .int (nI nd), .int (nI (nsg + nb))])), (z 1, .inr (5, [.ref (z 2)])), (z 2, .inl (dA 0, 30, .inl tS)), (z 3, .inr (5, [.ref (z 4)])), (z 4, .inl (dA 0, 30, .inl g2_0))] H → va_D A [(z 0, .inr (7, [.ref (z 1), .ref (z 3), .int (nI nd), .int (nI (nsg + nb))])), (z 1, .inr (5, [.ref (z 2)])), (z 2, .inl (dA 0, 30, .inl tS)), (z 3, .inr (5, [.ref (z 4)])), (z 4, .inl (dA 0, 30, .inl g2_0))] → va_S A s.heap H locs → ∀ ls : Array Slot, lv_has ls 5 [(3, .int (nI i2)), (0, .ref (z 0)), (1, .int (nI sm)), (2, .int (nI nb))] → W p l e { frames := 1, cells := 0, slots := 0, locals := 22 } s m args below meth c H locs 0 0 (MQ below (va_Qv (fun (u : Unit) => True) (fun u t => va_P D vwCl [(z 0, .inr (7, [.ref (z 1), .ref (z 3), .int (nI nd), .int (nI nsg)])), (z 1, .inr (5, [.ref (z 2)])), (z 2, .inl (dA 0, 30, .inl tS)), (z 3, .inr (5, [.ref (z 4)])), (z 4, .inl (dA 0, 30, .inl (fl (mvF sm nb tG) tG nd)))] t.heap ∧ va_D A [(z 0, .inr (7, [.ref (z 1), .ref (z 3), .int (nI nd), .int (nI nsg)])), (z 1, .inr (5, [.ref (z 2)])), (z 2, .inl (dA 0, 30, .inl tS)), (z 3, .inr (5, [.ref (z 4)])), (z 4, .inl (dA 0, 30, .inl (fl (mvF sm nb tG) tG nd)))]) A) args s 0 0 A) (F0 m 2 ls []) := by
    intro k2
    induction k2 with
    | zero => intro i2 g2_0 h1 h2 h3; exact absurd h3 (by omega)
    | succ k2 ih2 =>
      intro i2 g2_0 hlo2 hhi2 hms2 hinv2 H locs hP hD hS ls hl
      have eg2_0 := hinv2
      subst eg2_0
      refine lv_iload_n hx hb dX4_moveUp_2 rfl (lv_at hl 0 rfl) ?_
      refine lv_aload_n hx hb dX4_moveUp_3 rfl (lv_at hl 1 rfl) ?_
      refine va_get (D := D) (ci := 7) (v := .int (nI nd)) (C := RX4) (T := TX4) (N := 4) hx hb hts inAX4 hown hK hP 0 rfl rfl 2 (by decide) (hts _ q243) (fun _ h9 => h9) rfl dX4_moveUp_4 ?_
      refine lv_icmp_ge (tgt := 44) hx hb dX4_moveUp_7 (by decide) (fun c1 => ?_) (fun c1 => ?_)
      · replace c1 := (nI_leI (a := nd) (b := i2) (by omega) (by omega)).mp c1
        obtain rfl : nd = i2 := (by omega)
        replace hP : va_P D vwCl [(z 0, .inr (7, [.ref (z 1), .ref (z 3), .int (nI nd), .int (nI (nsg + nb))])), (z 1, .inr (5, [.ref (z 2)])), (z 2, .inl (dA 0, 30, .inl tS)), (z 3, .inr (5, [.ref (z 4)])), (z 4, .inl (dA 0, 30, .inl (fl (mvF sm nb tG) tG nd)))] H := hP
        replace hD : va_D A [(z 0, .inr (7, [.ref (z 1), .ref (z 3), .int (nI nd), .int (nI (nsg + nb))])), (z 1, .inr (5, [.ref (z 2)])), (z 2, .inl (dA 0, 30, .inl tS)), (z 3, .inr (5, [.ref (z 4)])), (z 4, .inl (dA 0, 30, .inl (fl (mvF sm nb tG) tG nd)))] := hD
        refine lv_aload_n hx hb dX4_moveUp_44 rfl (lv_at hl 1 rfl) ?_
        refine lv_dup hx hb dX4_moveUp_45 rfl ?_
        refine va_get (D := D) (ci := 7) (v := .int (nI (nsg + nb))) (C := RX4) (T := TX4) (N := 4) hx hb hts inAX4 hown hK hP 0 rfl rfl 3 (by decide) (hts _ q245) (fun _ h9 => h9) rfl dX4_moveUp_46 ?_
        refine lv_iload_n hx hb dX4_moveUp_49 rfl (lv_at hl 3 rfl) ?_
        refine lv_isub hx hb dX4_moveUp_50 ?_
        refine lv_topi (fun x2 ex2 => ?_)
        obtain rfl : x2 = nI nsg := ex2.trans ((pk_sub (a := nsg + nb) (b := nb) (by omega)).trans (by rw [Nat.add_sub_cancel]))
        refine va_put (D := D) (ci := 7) (v := .int (nI nsg)) (ty := .int) (C := RX4) (T := TX4) (N := 4) hx hb hts inAX4 tyX4 tyX4_ok nmX4 hown hK hP hD hS 0 rfl rfl 3 (by decide) (hts _ q245) (fun _ h9 => h9) rfl (tyX4_ok 3 (by decide)) rfl rfl (Nat.le_of_ble_eq_true rfl) dX4_moveUp_51 (fun H locs hP hD hS => ?_)
        replace hP : va_P D vwCl [(z 0, .inr (7, [.ref (z 1), .ref (z 3), .int (nI nd), .int (nI nsg)])), (z 1, .inr (5, [.ref (z 2)])), (z 2, .inl (dA 0, 30, .inl tS)), (z 3, .inr (5, [.ref (z 4)])), (z 4, .inl (dA 0, 30, .inl (fl (mvF sm nb tG) tG nd)))] H := hP
        replace hD : va_D A [(z 0, .inr (7, [.ref (z 1), .ref (z 3), .int (nI nd), .int (nI nsg)])), (z 1, .inr (5, [.ref (z 2)])), (z 2, .inl (dA 0, 30, .inl tS)), (z 3, .inr (5, [.ref (z 4)])), (z 4, .inl (dA 0, 30, .inl (fl (mvF sm nb tG) tG nd)))] := hD
        refine W.widen (k := 0) (n := 0) (Nat.le_of_ble_eq_true rfl) (Nat.le_of_ble_eq_true rfl) ?_
        have hP9 := hP.sub (ws' := [(z 0, .inr (7, [.ref (z 1), .ref (z 3), .int (nI nd), .int (nI nsg)])), (z 1, .inr (5, [.ref (z 2)])), (z 2, .inl (dA 0, 30, .inl tS)), (z 3, .inr (5, [.ref (z 4)])), (z 4, .inl (dA 0, 30, .inl (fl (mvF sm nb tG) tG nd)))]) [0, 1, 2, 3, 4] rfl
        have hD9 := hD.sub (ws' := [(z 0, .inr (7, [.ref (z 1), .ref (z 3), .int (nI nd), .int (nI nsg)])), (z 1, .inr (5, [.ref (z 2)])), (z 2, .inl (dA 0, 30, .inl tS)), (z 3, .inr (5, [.ref (z 4)])), (z 4, .inl (dA 0, 30, .inl (fl (mvF sm nb tG) tG nd)))]) [0, 1, 2, 3, 4] (by decide) rfl
        exact W.vret hx hb hr (fun t ht hW => ⟨⟨(), rfl, trivial, ⟨by rw [ht]; exact hP9, hD9⟩⟩, hS.F ht⟩) hS.2.2 dX4_moveUp_54
      · replace c1 := mt (nI_leI (a := nd) (b := i2) (by omega) (by omega)).mpr c1
        refine lv_aload_n hx hb dX4_moveUp_10 rfl (lv_at hl 1 rfl) ?_
        refine va_get (D := D) (ci := 7) (v := .ref (z 3)) (C := RX4) (T := TX4) (N := 4) hx hb hts inAX4 hown hK hP 0 rfl rfl 1 (by decide) (hts _ q244) (fun _ h9 => h9) rfl dX4_moveUp_11 ?_
        refine lv_iload_n hx hb dX4_moveUp_14 rfl (lv_at hl 0 rfl) ?_
        replace hPc := hP.sub (ws' := [(z 3, .inr (5, [.ref (z 4)])), (z 4, .inl (dA 0, 30, .inl (fl (mvF sm nb tG) tG i2)))]) [3, 4] rfl
        replace hDc := hD.sub (ws' := [(z 3, .inr (5, [.ref (z 4)])), (z 4, .inl (dA 0, 30, .inl (fl (mvF sm nb tG) tG i2)))]) [3, 4] (by decide) rfl
        replace hFc := va_free (wc := [(z 3, .inr (5, [.ref (z 4)])), (z 4, .inl (dA 0, 30, .inl (fl (mvF sm nb tG) tG i2)))]) hD hS hA [3, 4] rfl
        refine va_calli (va_runV (As := [.int (nI i2)]) (rest := []) ⟨hx, hb, hml, hown, hts⟩ (t_getN l D dA E (z 3) (z 4) 30 (fl (mvF sm nb tG) tG i2) i2 H.size  (by omega) (by decide)) (cwV 1 hts (ga_V q236 q203 q200 q204 q201) rfl rfl rfl (by decide +kernel) ⟨(Nat.le_of_ble_eq_true rfl), (Nat.le_of_ble_eq_true rfl)⟩) ⟨pb_blind, va_recv hK hPc (ci := 5) (q0 := 0) rfl rfl, pb_pre hK hPc hDc hZ hS hFc _⟩ rfl rfl hl.1 rfl (lv_room (Nat.le_of_ble_eq_true rfl)) dX4_moveUp_15 ⟨(Nat.le_of_ble_eq_true rfl), (Nat.le_of_ble_eq_true rfl)⟩) hS (fun q _ h => hFc q h) hFc (fun r u t H1 locs ht hvm hw hB hz1 hk1 hS => ?_)
        refine W.widen (k := 0) (n := 0) (Nat.le_of_ble_eq_true rfl) (Nat.le_of_ble_eq_true rfl) ?_
        obtain ⟨r3, rfl⟩ : ∃ z, z = r := ⟨_, rfl⟩
        obtain ⟨u4, rfl⟩ : ∃ z, z = u := ⟨_, rfl⟩
        have hw5 := hw
        clear hw
        obtain ⟨hP1, hD1⟩ := hB
        rw [ht] at hP1
        obtain ⟨hP, hD⟩ := va_join (wr := [(z 0, .inr (7, [.ref (z 1), .ref (z 3), .int (nI nd), .int (nI (nsg + nb))])), (z 1, .inr (5, [.ref (z 2)])), (z 2, .inl (dA 0, 30, .inl tS))]) (w1 := [(z 3, .inr (5, [.ref (z 4)])), (z 4, .inl (dA 0, 30, .inl (fl (mvF sm nb tG) tG i2)))]) hP hD [3, 4] [0, 1, 2] rfl rfl (by decide) (by decide) hk1 hFc hP1 hD1
        generalize H1 = H at hP hS ⊢
        replace hP : va_P D vwCl [(z 0, .inr (7, [.ref (z 1), .ref (z 3), .int (nI nd), .int (nI (nsg + nb))])), (z 1, .inr (5, [.ref (z 2)])), (z 2, .inl (dA 0, 30, .inl tS)), (z 3, .inr (5, [.ref (z 4)])), (z 4, .inl (dA 0, 30, .inl (fl (mvF sm nb tG) tG i2)))] H := hP
        replace hD : va_D A [(z 0, .inr (7, [.ref (z 1), .ref (z 3), .int (nI nd), .int (nI (nsg + nb))])), (z 1, .inr (5, [.ref (z 2)])), (z 2, .inl (dA 0, 30, .inl tS)), (z 3, .inr (5, [.ref (z 4)])), (z 4, .inl (dA 0, 30, .inl (fl (mvF sm nb tG) tG i2)))] := hD
        obtain rfl : r3 = tG i2 := (show r3 = (fl (mvF sm nb tG) tG i2) i2 from hw5).trans (fl_out (Nat.le_refl _))
        refine lv_istore (lv' := [(4, .int (tG i2)), (3, .int (nI i2)), (0, .ref (z 0)), (1, .int (nI sm)), (2, .int (nI nb))]) hx hb dX4_moveUp_18 hl (by decide) rfl (fun ls hl => ?_)
        refine lv_iload hx hb dX4_moveUp_20 (lv_at hl 0 rfl) ?_
        refine lv_iload_n hx hb dX4_moveUp_22 rfl (lv_at hl 3 rfl) ?_
        refine lv_icmp_le (tgt := 38) hx hb dX4_moveUp_23 (by decide) (fun c6 => ?_) (fun c6 => ?_)
        · refine lv_iinc (v := nI (i2 + 1)) (lv' := [(3, .int (nI (i2 + 1))), (4, .int (tG i2)), (0, .ref (z 0)), (1, .int (nI sm)), (2, .int (nI nb))]) hx hb dX4_moveUp_38 hl (k := 1) rfl (nI_add i2 1) (by decide) rfl (fun ls hl => ?_)
          refine lv_goto (tgt := 2) hx hb dX4_moveUp_41 (by decide) ?_
          exact ih2 (i2 + 1) (fl (mvF sm nb tG) tG i2) (by omega) (by omega) (by omega) (fl_keep (if_neg (Int32.not_lt.mpr c6))) _ _ hP hD hS ls (lv_sub hl [0, 2, 3, 4] rfl)
        · refine lv_aload_n hx hb dX4_moveUp_26 rfl (lv_at hl 2 rfl) ?_
          refine va_get (D := D) (ci := 7) (v := .ref (z 3)) (C := RX4) (T := TX4) (N := 4) hx hb hts inAX4 hown hK hP 0 rfl rfl 1 (by decide) (hts _ q244) (fun _ h9 => h9) rfl dX4_moveUp_27 ?_
          refine lv_iload_n hx hb dX4_moveUp_30 rfl (lv_at hl 1 rfl) ?_
          refine lv_iload hx hb dX4_moveUp_31 (lv_at hl 0 rfl) ?_
          refine lv_iload_n hx hb dX4_moveUp_33 rfl (lv_at hl 4 rfl) ?_
          refine lv_isub hx hb dX4_moveUp_34 ?_
          replace hPc := hP.sub (ws' := [(z 3, .inr (5, [.ref (z 4)])), (z 4, .inl (dA 0, 30, .inl (fl (mvF sm nb tG) tG i2)))]) [3, 4] rfl
          replace hDc := hD.sub (ws' := [(z 3, .inr (5, [.ref (z 4)])), (z 4, .inl (dA 0, 30, .inl (fl (mvF sm nb tG) tG i2)))]) [3, 4] (by decide) rfl
          replace hFc := va_free (wc := [(z 3, .inr (5, [.ref (z 4)])), (z 4, .inl (dA 0, 30, .inl (fl (mvF sm nb tG) tG i2)))]) hD hS hA [3, 4] rfl
          refine va_callv (va_runV (As := [.int (nI i2), .int ((tG i2) - (nI nb))]) (rest := []) ⟨hx, hb, hml, hown, hts⟩ (t_putN l D dA E (z 3) (z 4) 30 (fl (mvF sm nb tG) tG i2) i2 ((tG i2) - (nI nb)) H.size  (by omega) (by decide)) (cwV 2 hts (ga_V q242 q210 q207 q204 q208) rfl rfl rfl (by decide +kernel) ⟨(Nat.le_of_ble_eq_true rfl), (Nat.le_of_ble_eq_true rfl)⟩) ⟨pb_blind, va_recv hK hPc (ci := 5) (q0 := 0) rfl rfl, pb_pre hK hPc hDc hZ hS hFc _⟩ rfl rfl hl.1 rfl (lv_room (Nat.le_of_ble_eq_true rfl)) dX4_moveUp_35 ⟨(Nat.le_of_ble_eq_true rfl), (Nat.le_of_ble_eq_true rfl)⟩) hS (fun q _ h => hFc q h) hFc (fun u t H1 locs ht hvm hw hB hz1 hk1 hS => ?_)
          refine W.widen (k := 0) (n := 0) (Nat.le_of_ble_eq_true rfl) (Nat.le_of_ble_eq_true rfl) ?_
          obtain ⟨u7, rfl⟩ : ∃ z, z = u := ⟨_, rfl⟩
          have hw8 := hw
          clear hw
          obtain ⟨hP1, hD1⟩ := hB
          rw [ht] at hP1
          obtain ⟨hP, hD⟩ := va_join (wr := [(z 0, .inr (7, [.ref (z 1), .ref (z 3), .int (nI nd), .int (nI (nsg + nb))])), (z 1, .inr (5, [.ref (z 2)])), (z 2, .inl (dA 0, 30, .inl tS))]) (w1 := [(z 3, .inr (5, [.ref (z 4)])), (z 4, .inl (dA 0, 30, .inl (upd (fl (mvF sm nb tG) tG i2) i2 ((tG i2) - (nI nb)))))]) hP hD [3, 4] [0, 1, 2] rfl rfl (by decide) (by decide) hk1 hFc hP1 hD1
          generalize H1 = H at hP hS ⊢
          replace hP : va_P D vwCl [(z 0, .inr (7, [.ref (z 1), .ref (z 3), .int (nI nd), .int (nI (nsg + nb))])), (z 1, .inr (5, [.ref (z 2)])), (z 2, .inl (dA 0, 30, .inl tS)), (z 3, .inr (5, [.ref (z 4)])), (z 4, .inl (dA 0, 30, .inl (upd (fl (mvF sm nb tG) tG i2) i2 ((tG i2) - (nI nb)))))] H := hP
          replace hD : va_D A [(z 0, .inr (7, [.ref (z 1), .ref (z 3), .int (nI nd), .int (nI (nsg + nb))])), (z 1, .inr (5, [.ref (z 2)])), (z 2, .inl (dA 0, 30, .inl tS)), (z 3, .inr (5, [.ref (z 4)])), (z 4, .inl (dA 0, 30, .inl (upd (fl (mvF sm nb tG) tG i2) i2 ((tG i2) - (nI nb)))))] := hD
          refine lv_iinc (v := nI (i2 + 1)) (lv' := [(3, .int (nI (i2 + 1))), (4, .int (tG i2)), (0, .ref (z 0)), (1, .int (nI sm)), (2, .int (nI nb))]) hx hb dX4_moveUp_38 hl (k := 1) rfl (nI_add i2 1) (by decide) rfl (fun ls hl => ?_)
          refine lv_goto (tgt := 2) hx hb dX4_moveUp_41 (by decide) ?_
          exact ih2 (i2 + 1) (upd (fl (mvF sm nb tG) tG i2) i2 ((tG i2) - (nI nb))) (by omega) (by omega) (by omega) (fl_succ (if_pos (Int32.not_le.mp c6)).symm) _ _ hP hD hS ls (lv_sub hl [0, 2, 3, 4] rfl)
  exact K2 (nd + 1) 0 tG (by omega) (by omega) (by omega) fl_0.symm _ _ hP hD hS ls hl
