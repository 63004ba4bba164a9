/-! CONTRACTS, general -/
set_option maxHeartbeats 4000000 in
set_option maxRecDepth 100000 in
theorem q_timesIn (l : Launch) (D : va_G) (dA : Nat → ClassId) (E : Nat) (qo : Nat) (qk qa qb qd qw qn : Int32) (tt : Nat → Nat) (tw tp tx : Nat → Int32) (nm : Nat) (sz : Nat) (hnm : nm ≤ 84)  : Met l yX1_timesIn (wq (.code yX1_timesIn cX1_timesIn 5 (some .int))) { frames := 2, cells := 0, slots := 0, locals := 45 } (va_Pc [.ref qo, .ref (tt 0)] (PcB D dA E [(qo, .inr (4, [.int qk, .int qa, .int qb, .int qd, .int qw, .int qn])), (tt 0, .inr (9, [.ref (tt 1), .ref (tt 3), .ref (tt 5), .int (nI nm)])), (tt 1, .inr (5, [.ref (tt 2)])), (tt 2, .inl (dA 0, 84, .inl tw)), (tt 3, .inr (5, [.ref (tt 4)])), (tt 4, .inl (dA 0, 84, .inl tp)), (tt 5, .inr (5, [.ref (tt 6)])), (tt 6, .inl (dA 0, 84, .inl tx))] sz)) (va_Qi (fun (r : Int32) (u : Unit) => r = nI (tiV qk qa qb qd tw tp nm)) (fun u t => va_P D vwCl [(qo, .inr (4, [.int qk, .int qa, .int qb, .int qd, .int qw, .int qn])), (tt 0, .inr (9, [.ref (tt 1), .ref (tt 3), .ref (tt 5), .int (nI nm)])), (tt 1, .inr (5, [.ref (tt 2)])), (tt 2, .inl (dA 0, 84, .inl tw)), (tt 3, .inr (5, [.ref (tt 4)])), (tt 4, .inl (dA 0, 84, .inl tp)), (tt 5, .inr (5, [.ref (tt 6)])), (tt 6, .inl (dA 0, 84, .inl tx))] t.heap ∧ va_D (va_A [(qo, .inr (4, [.int qk, .int qa, .int qb, .int qd, .int qw, .int qn])), (tt 0, .inr (9, [.ref (tt 1), .ref (tt 3), .ref (tt 5), .int (nI nm)])), (tt 1, .inr (5, [.ref (tt 2)])), (tt 2, .inl (dA 0, 84, .inl tw)), (tt 3, .inr (5, [.ref (tt 4)])), (tt 4, .inl (dA 0, 84, .inl tp)), (tt 5, .inr (5, [.ref (tt 6)])), (tt 6, .inl (dA 0, 84, .inl tx))] sz) [(qo, .inr (4, [.int qk, .int qa, .int qb, .int qd, .int qw, .int qn])), (tt 0, .inr (9, [.ref (tt 1), .ref (tt 3), .ref (tt 5), .int (nI nm)])), (tt 1, .inr (5, [.ref (tt 2)])), (tt 2, .inl (dA 0, 84, .inl tw)), (tt 3, .inr (5, [.ref (tt 4)])), (tt 4, .inl (dA 0, 84, .inl tp)), (tt 5, .inr (5, [.ref (tt 6)])), (tt 6, .inl (dA 0, 84, .inl tx))]) (va_A [(qo, .inr (4, [.int qk, .int qa, .int qb, .int qd, .int qw, .int qn])), (tt 0, .inr (9, [.ref (tt 1), .ref (tt 3), .ref (tt 5), .int (nI nm)])), (tt 1, .inr (5, [.ref (tt 2)])), (tt 2, .inl (dA 0, 84, .inl tw)), (tt 3, .inr (5, [.ref (tt 4)])), (tt 4, .inl (dA 0, 84, .inl tp)), (tt 5, .inr (5, [.ref (tt 6)])), (tt 6, .inl (dA 0, 84, .inl tx))] sz)) 0 0 (va_A [(qo, .inr (4, [.int qk, .int qa, .int qb, .int qd, .int qw, .int qn])), (tt 0, .inr (9, [.ref (tt 1), .ref (tt 3), .ref (tt 5), .int (nI nm)])), (tt 1, .inr (5, [.ref (tt 2)])), (tt 2, .inl (dA 0, 84, .inl tw)), (tt 3, .inr (5, [.ref (tt 4)])), (tt 4, .inl (dA 0, 84, .inl tp)), (tt 5, .inr (5, [.ref (tt 6)])), (tt 6, .inl (dA 0, 84, .inl tx))] sz) := by
  refine mb_of (Qc := fun A => va_Qi (fun (r : Int32) (u : Unit) => r = nI (tiV qk qa qb qd tw tp nm)) (fun u t => va_P D vwCl [(qo, .inr (4, [.int qk, .int qa, .int qb, .int qd, .int qw, .int qn])), (tt 0, .inr (9, [.ref (tt 1), .ref (tt 3), .ref (tt 5), .int (nI nm)])), (tt 1, .inr (5, [.ref (tt 2)])), (tt 2, .inl (dA 0, 84, .inl tw)), (tt 3, .inr (5, [.ref (tt 4)])), (tt 4, .inl (dA 0, 84, .inl tp)), (tt 5, .inr (5, [.ref (tt 6)])), (tt 6, .inl (dA 0, 84, .inl tx))] t.heap ∧ va_D A [(qo, .inr (4, [.int qk, .int qa, .int qb, .int qd, .int qw, .int qn])), (tt 0, .inr (9, [.ref (tt 1), .ref (tt 3), .ref (tt 5), .int (nI nm)])), (tt 1, .inr (5, [.ref (tt 2)])), (tt 2, .inl (dA 0, 84, .inl tw)), (tt 3, .inr (5, [.ref (tt 4)])), (tt 4, .inl (dA 0, 84, .inl tp)), (tt 5, .inr (5, [.ref (tt 6)])), (tt 6, .inl (dA 0, 84, .inl tx))]) A) RX1 rfl (by decide) (Nat.le_of_ble_eq_true rfl) ?_
  intro p e s m args below meth c hae hx hb hr hts hown hlocks hml hnm hP hK A hAe hD hZ hS hA ls hl
  replace hl : lv_has ls 5 [(0, .ref qo), (1, .ref (tt 0))] := hl
  refine lv_aload_n hx hb dX1_timesIn_0 rfl (lv_at hl 0 rfl) ?_
  refine va_get (D := D) (ci := 4) (v := .int qk) (C := RX1) (T := TX1) (N := 6) hx hb hts inAX1 hown hK hP 0 rfl rfl 0 (by decide) (hts _ q301) (fun _ h9 => h9) rfl dX1_timesIn_1 ?_
  refine lv_bipush (v := 119) hx hb dX1_timesIn_4 (by decide) ?_
  refine lv_icmp_ne (tgt := 18) hx hb dX1_timesIn_6 (by decide) (fun c1 => ?_) (fun c1 => ?_)
  · refine lv_iconst (v := 0) hx hb dX1_timesIn_18 (by decide) ?_
    refine lv_istore_n (lv' := [(2, .int 0), (0, .ref qo), (1, .ref (tt 0))]) hx hb dX1_timesIn_19 rfl hl (by decide) rfl (fun ls hl => ?_)
    refine lv_iconst (v := 0) hx hb dX1_timesIn_20 (by decide) ?_
    refine lv_istore_n (lv' := [(3, .int 0), (2, .int 0), (0, .ref qo), (1, .ref (tt 0))]) hx hb dX1_timesIn_21 rfl hl (by decide) rfl (fun ls hl => ?_)
    have K22 : ∀ (k22 i22 : Nat) (g22_0 : Int32), 0 ≤ i22 → i22 ≤ nm → nm < i22 + k22 → (g22_0 = nI (tiN qk qa qb qd tw tp nm i22)) → ∀ (H : Heap) (locs : List Loc), va_P D vwCl [(qo, .inr (4, [.int qk, .int qa, .int qb, .int qd, .int qw, .int qn])), (tt 0, .inr (9, [.ref (tt 1), .ref (tt 3), .ref (tt 5), .int (nI nm)])), (tt 1, .inr (5, [.ref (tt 2)])), (tt 2, .inl (dA 0, 84, .inl tw)), (tt 3, .inr (5, [.ref (tt 4)])), (tt 4, .inl (dA 0, 84, .inl tp)), (tt 5, .inr (5, [.ref (tt 6)])), (tt 6, .inl (dA 0, 84, .inl tx))] H → va_D A [(qo, .inr (4, [.int qk, .int qa, .int qb, .int qd, .int qw, .int qn])), (tt 0, .inr (9, [.ref (tt 1), .ref (tt 3), .ref (tt 5), .int (nI nm)])), (tt 1, .inr (5, [.ref (tt 2)])), (tt 2, .inl (dA 0, 84, .inl tw)), (tt 3, .inr (5, [.ref (tt 4)])), (tt 4, .inl (dA 0, 84, .inl tp)), (tt 5, .inr (5, [.ref (tt 6)])), (tt 6, .inl (dA 0, 84, .inl tx))] → va_S A s.heap H locs → ∀ ls : Array Slot, lv_has ls 5 [(3, .int (nI i22)), (2, .int g22_0), (0, .ref qo), (1, .ref (tt 0))] → W p l e { frames := 2, cells := 0, slots := 0, locals := 45 } s m args below meth c H locs 0 0 (MQ below (va_Qi (fun (r : Int32) (u : Unit) => r = nI (tiV qk qa qb qd tw tp nm)) (fun u t => va_P D vwCl [(qo, .inr (4, [.int qk, .int qa, .int qb, .int qd, .int qw, .int qn])), (tt 0, .inr (9, [.ref (tt 1), .ref (tt 3), .ref (tt 5), .int (nI nm)])), (tt 1, .inr (5, [.ref (tt 2)])), (tt 2, .inl (dA 0, 84, .inl tw)), (tt 3, .inr (5, [.ref (tt 4)])), (tt 4, .inl (dA 0, 84, .inl tp)), (tt 5, .inr (5, [.ref (tt 6)])), (tt 6, .inl (dA 0, 84, .inl tx))] t.heap ∧ va_D A [(qo, .inr (4, [.int qk, .int qa, .int qb, .int qd, .int qw, .int qn])), (tt 0, .inr (9, [.ref (tt 1), .ref (tt 3), .ref (tt 5), .int (nI nm)])), (tt 1, .inr (5, [.ref (tt 2)])), (tt 2, .inl (dA 0, 84, .inl tw)), (tt 3, .inr (5, [.ref (tt 4)])), (tt 4, .inl (dA 0, 84, .inl tp)), (tt 5, .inr (5, [.ref (tt 6)])), (tt 6, .inl (dA 0, 84, .inl tx))]) A) args s 0 0 A) (F0 m 22 ls []) := by
      intro k22
      induction k22 with
      | zero => intro i22 g22_0 h1 h2 h3; exact absurd h3 (by omega)
      | succ k22 ih22 =>
        intro i22 g22_0 hlo22 hhi22 hms22 hinv22 H locs hP hD hS ls hl
        have eg22_0 := hinv22
        subst eg22_0
        have hti := tiN_le (k := qk) (a := qa) (b := qb) (d := qd) (w := tw) (p := tp) (n := nm) i22
        have htj : nm * i22 ≤ 84 * 84 := Nat.mul_le_mul (show nm ≤ 84 by omega) (by omega)
        refine lv_iload_n hx hb dX1_timesIn_22 rfl (lv_at hl 0 rfl) ?_
        refine lv_aload_n hx hb dX1_timesIn_23 rfl (lv_at hl 3 rfl) ?_
        refine va_getN (D := D) (ci := 9) (v := .int (nI nm)) (C := RX6) (T := TX6) (N := 4) hx hb hts inAX6 hown hK hP 1 rfl rfl 3 (by decide) (va_Nw.use rfl (znF_6 hZ.1)) (fun _ h9 => h9) rfl dX1_timesIn_24 ?_
        refine lv_icmp_ge (tgt := 103) hx hb dX1_timesIn_27 (by decide) (fun c2 => ?_) (fun c2 => ?_)
        · replace c2 := (nI_leI (a := nm) (b := i22) (by omega) (by omega)).mp c2
          obtain rfl : nm = i22 := (by omega)
          replace hP : va_P D vwCl [(qo, .inr (4, [.int qk, .int qa, .int qb, .int qd, .int qw, .int qn])), (tt 0, .inr (9, [.ref (tt 1), .ref (tt 3), .ref (tt 5), .int (nI nm)])), (tt 1, .inr (5, [.ref (tt 2)])), (tt 2, .inl (dA 0, 84, .inl tw)), (tt 3, .inr (5, [.ref (tt 4)])), (tt 4, .inl (dA 0, 84, .inl tp)), (tt 5, .inr (5, [.ref (tt 6)])), (tt 6, .inl (dA 0, 84, .inl tx))] H := hP
          replace hD : va_D A [(qo, .inr (4, [.int qk, .int qa, .int qb, .int qd, .int qw, .int qn])), (tt 0, .inr (9, [.ref (tt 1), .ref (tt 3), .ref (tt 5), .int (nI nm)])), (tt 1, .inr (5, [.ref (tt 2)])), (tt 2, .inl (dA 0, 84, .inl tw)), (tt 3, .inr (5, [.ref (tt 4)])), (tt 4, .inl (dA 0, 84, .inl tp)), (tt 5, .inr (5, [.ref (tt 6)])), (tt 6, .inl (dA 0, 84, .inl tx))] := hD
          refine lv_iload_n hx hb dX1_timesIn_103 rfl (lv_at hl 1 rfl) ?_
          refine W.widen (k := 0) (n := 0) (Nat.le_of_ble_eq_true rfl) (Nat.le_of_ble_eq_true rfl) ?_
          have hP9 := hP.sub (ws' := [(qo, .inr (4, [.int qk, .int qa, .int qb, .int qd, .int qw, .int qn])), (tt 0, .inr (9, [.ref (tt 1), .ref (tt 3), .ref (tt 5), .int (nI nm)])), (tt 1, .inr (5, [.ref (tt 2)])), (tt 2, .inl (dA 0, 84, .inl tw)), (tt 3, .inr (5, [.ref (tt 4)])), (tt 4, .inl (dA 0, 84, .inl tp)), (tt 5, .inr (5, [.ref (tt 6)])), (tt 6, .inl (dA 0, 84, .inl tx))]) [0, 1, 2, 3, 4, 5, 6, 7] rfl
          have hD9 := hD.sub (ws' := [(qo, .inr (4, [.int qk, .int qa, .int qb, .int qd, .int qw, .int qn])), (tt 0, .inr (9, [.ref (tt 1), .ref (tt 3), .ref (tt 5), .int (nI nm)])), (tt 1, .inr (5, [.ref (tt 2)])), (tt 2, .inl (dA 0, 84, .inl tw)), (tt 3, .inr (5, [.ref (tt 4)])), (tt 4, .inl (dA 0, 84, .inl tp)), (tt 5, .inr (5, [.ref (tt 6)])), (tt 6, .inl (dA 0, 84, .inl tx))]) [0, 1, 2, 3, 4, 5, 6, 7] (by decide) rfl
          exact W.iret (v := (nI (tiN qk qa qb qd tw tp nm nm))) hx hb hr (fun t ht hW => ⟨⟨(nI (tiN qk qa qb qd tw tp nm nm)), (), rfl, (show _ = nI (tiV _ _ _ _ _ _ _) from by rw [tiV, if_neg c1]), ⟨by rw [ht]; exact hP9, hD9⟩⟩, hS.F ht⟩) hS.2.2 dX1_timesIn_104
        · replace c2 := mt (nI_leI (a := nm) (b := i22) (by omega) (by omega)).mpr c2
          refine lv_aload_n hx hb dX1_timesIn_30 rfl (lv_at hl 3 rfl) ?_
          refine va_getN (D := D) (ci := 9) (v := .ref (tt 1)) (C := RX6) (T := TX6) (N := 4) hx hb hts inAX6 hown hK hP 1 rfl rfl 0 (by decide) (va_Nw.use rfl (znF_2 hZ.1)) (fun _ h9 => h9) rfl dX1_timesIn_31 ?_
          refine lv_iload_n hx hb dX1_timesIn_34 rfl (lv_at hl 0 rfl) ?_
          replace hPc := hP.sub (ws' := [(tt 1, .inr (5, [.ref (tt 2)])), (tt 2, .inl (dA 0, 84, .inl tw))]) [2, 3] rfl
          replace hDc := hD.sub (ws' := [(tt 1, .inr (5, [.ref (tt 2)])), (tt 2, .inl (dA 0, 84, .inl tw))]) [2, 3] (by decide) rfl
          replace hFc := va_free (wc := [(tt 1, .inr (5, [.ref (tt 2)])), (tt 2, .inl (dA 0, 84, .inl tw))]) hD hS hA [2, 3] rfl
          refine va_calli (va_runV (As := [.int (nI i22)]) (rest := []) ⟨hx, hb, hml, hown, hts⟩ (t_getN l D dA E (tt 1) (tt 2) 84 tw i22 H.size  (by omega) (by decide)) (cwV 1 hts (ga_V q420 q203 q200 q204 q201) rfl rfl rfl (by decide +kernel) ⟨(Nat.le_of_ble_eq_true rfl), (Nat.le_of_ble_eq_true rfl)⟩) ⟨pb_blind, va_recv hK hPc (ci := 5) (q0 := 0) rfl rfl, pb_pre hK hPc hDc hZ hS hFc _⟩ rfl rfl hl.1 rfl (lv_room (Nat.le_of_ble_eq_true rfl)) dX1_timesIn_35 ⟨(Nat.le_of_ble_eq_true rfl), (Nat.le_of_ble_eq_true rfl)⟩) hS (fun q _ h => hFc q h) hFc (fun r u t H1 locs ht hvm hw hB hz1 hk1 hS => ?_)
          refine W.widen (k := 0) (n := 0) (Nat.le_of_ble_eq_true rfl) (Nat.le_of_ble_eq_true rfl) ?_
          obtain ⟨r3, rfl⟩ : ∃ z, z = r := ⟨_, rfl⟩
          obtain ⟨u4, rfl⟩ : ∃ z, z = u := ⟨_, rfl⟩
          have hw5 := hw
          clear hw
          obtain ⟨hP1, hD1⟩ := hB
          rw [ht] at hP1
          obtain ⟨hP, hD⟩ := va_join (wr := [(qo, .inr (4, [.int qk, .int qa, .int qb, .int qd, .int qw, .int qn])), (tt 0, .inr (9, [.ref (tt 1), .ref (tt 3), .ref (tt 5), .int (nI nm)])), (tt 3, .inr (5, [.ref (tt 4)])), (tt 4, .inl (dA 0, 84, .inl tp)), (tt 5, .inr (5, [.ref (tt 6)])), (tt 6, .inl (dA 0, 84, .inl tx))]) (w1 := [(tt 1, .inr (5, [.ref (tt 2)])), (tt 2, .inl (dA 0, 84, .inl tw))]) hP hD [2, 3] [0, 1, 4, 5, 6, 7] rfl rfl (by decide) (by decide) hk1 hFc hP1 hD1
          generalize H1 = H at hP hS ⊢
          replace hP : va_P D vwCl [(qo, .inr (4, [.int qk, .int qa, .int qb, .int qd, .int qw, .int qn])), (tt 0, .inr (9, [.ref (tt 1), .ref (tt 3), .ref (tt 5), .int (nI nm)])), (tt 3, .inr (5, [.ref (tt 4)])), (tt 4, .inl (dA 0, 84, .inl tp)), (tt 5, .inr (5, [.ref (tt 6)])), (tt 6, .inl (dA 0, 84, .inl tx)), (tt 1, .inr (5, [.ref (tt 2)])), (tt 2, .inl (dA 0, 84, .inl tw))] H := hP
          replace hD : va_D A [(qo, .inr (4, [.int qk, .int qa, .int qb, .int qd, .int qw, .int qn])), (tt 0, .inr (9, [.ref (tt 1), .ref (tt 3), .ref (tt 5), .int (nI nm)])), (tt 3, .inr (5, [.ref (tt 4)])), (tt 4, .inl (dA 0, 84, .inl tp)), (tt 5, .inr (5, [.ref (tt 6)])), (tt 6, .inl (dA 0, 84, .inl tx)), (tt 1, .inr (5, [.ref (tt 2)])), (tt 2, .inl (dA 0, 84, .inl tw))] := hD
          obtain rfl : r3 = tw i22 := hw5
          refine lv_aload_n hx hb dX1_timesIn_38 rfl (lv_at hl 2 rfl) ?_
          refine va_get (D := D) (ci := 4) (v := .int qa) (C := RX1) (T := TX1) (N := 6) hx hb hts inAX1 hown hK hP 0 rfl rfl 1 (by decide) (hts _ q302) (fun _ h9 => h9) rfl dX1_timesIn_39 ?_
          refine lv_icmp_ne (tgt := 97) hx hb dX1_timesIn_42 (by decide) (fun c6 => ?_) (fun c6 => ?_)
          · refine lv_iinc (v := nI (i22 + 1)) (lv' := [(3, .int (nI (i22 + 1))), (2, .int (nI (tiN qk qa qb qd tw tp nm i22))), (0, .ref qo), (1, .ref (tt 0))]) hx hb dX1_timesIn_97 hl (k := 0) rfl (nI_add i22 1) (by decide) rfl (fun ls hl => ?_)
            refine lv_goto (tgt := 22) hx hb dX1_timesIn_100 (by decide) ?_
            replace hP := hP.sub (ws' := [(qo, .inr (4, [.int qk, .int qa, .int qb, .int qd, .int qw, .int qn])), (tt 0, .inr (9, [.ref (tt 1), .ref (tt 3), .ref (tt 5), .int (nI nm)])), (tt 1, .inr (5, [.ref (tt 2)])), (tt 2, .inl (dA 0, 84, .inl tw)), (tt 3, .inr (5, [.ref (tt 4)])), (tt 4, .inl (dA 0, 84, .inl tp)), (tt 5, .inr (5, [.ref (tt 6)])), (tt 6, .inl (dA 0, 84, .inl tx))]) [0, 1, 6, 7, 2, 3, 4, 5] rfl
            replace hD := hD.sub (ws' := [(qo, .inr (4, [.int qk, .int qa, .int qb, .int qd, .int qw, .int qn])), (tt 0, .inr (9, [.ref (tt 1), .ref (tt 3), .ref (tt 5), .int (nI nm)])), (tt 1, .inr (5, [.ref (tt 2)])), (tt 2, .inl (dA 0, 84, .inl tw)), (tt 3, .inr (5, [.ref (tt 4)])), (tt 4, .inl (dA 0, 84, .inl tp)), (tt 5, .inr (5, [.ref (tt 6)])), (tt 6, .inl (dA 0, 84, .inl tx))]) [0, 1, 6, 7, 2, 3, 4, 5] (by decide) rfl
            exact ih22 (i22 + 1) (nI (tiN qk qa qb qd tw tp nm i22)) (by omega) (by omega) (by omega) (ti_n c6) _ _ hP hD hS ls (lv_sub hl [0, 1, 2, 3] rfl)
          · refine lv_aload_n hx hb dX1_timesIn_45 rfl (lv_at hl 3 rfl) ?_
            refine lv_iload_n hx hb dX1_timesIn_46 rfl (lv_at hl 0 rfl) ?_
            replace hPc := hP.sub (ws' := [(tt 0, .inr (9, [.ref (tt 1), .ref (tt 3), .ref (tt 5), .int (nI nm)])), (tt 1, .inr (5, [.ref (tt 2)])), (tt 2, .inl (dA 0, 84, .inl tw)), (tt 3, .inr (5, [.ref (tt 4)])), (tt 4, .inl (dA 0, 84, .inl tp)), (tt 5, .inr (5, [.ref (tt 6)])), (tt 6, .inl (dA 0, 84, .inl tx))]) [1, 6, 7, 2, 3, 4, 5] rfl
            replace hDc := hD.sub (ws' := [(tt 0, .inr (9, [.ref (tt 1), .ref (tt 3), .ref (tt 5), .int (nI nm)])), (tt 1, .inr (5, [.ref (tt 2)])), (tt 2, .inl (dA 0, 84, .inl tw)), (tt 3, .inr (5, [.ref (tt 4)])), (tt 4, .inl (dA 0, 84, .inl tp)), (tt 5, .inr (5, [.ref (tt 6)])), (tt 6, .inl (dA 0, 84, .inl tx))]) [1, 6, 7, 2, 3, 4, 5] (by decide) rfl
            replace hFc := va_free (wc := [(tt 0, .inr (9, [.ref (tt 1), .ref (tt 3), .ref (tt 5), .int (nI nm)])), (tt 1, .inr (5, [.ref (tt 2)])), (tt 2, .inl (dA 0, 84, .inl tw)), (tt 3, .inr (5, [.ref (tt 4)])), (tt 4, .inl (dA 0, 84, .inl tp)), (tt 5, .inr (5, [.ref (tt 6)])), (tt 6, .inl (dA 0, 84, .inl tx))]) hD hS hA [1, 6, 7, 2, 3, 4, 5] rfl
            refine va_calli (va_runV (As := [.int (nI i22)]) (rest := []) ⟨hx, hb, hml, hown, hts⟩ (t_isFirstAtPlace l D dA E tt tw tp tx nm i22 H.size  (by omega) (by omega)) (cwV 1 hts (ga_V q423 q424 q421 q218 q422) rfl rfl rfl (by decide +kernel) ⟨(Nat.le_of_ble_eq_true rfl), (Nat.le_of_ble_eq_true rfl)⟩) ⟨pb_blind, va_recv hK hPc (ci := 9) (q0 := 0) rfl rfl, pb_pre hK hPc hDc hZ hS hFc _⟩ rfl rfl hl.1 rfl (lv_room (Nat.le_of_ble_eq_true rfl)) dX1_timesIn_47 ⟨(Nat.le_of_ble_eq_true rfl), (Nat.le_of_ble_eq_true rfl)⟩) hS (fun q _ h => hFc q h) hFc (fun r u t H1 locs ht hvm hw hB hz1 hk1 hS => ?_)
            refine W.widen (k := 0) (n := 0) (Nat.le_of_ble_eq_true rfl) (Nat.le_of_ble_eq_true rfl) ?_
            obtain ⟨r7, rfl⟩ : ∃ z, z = r := ⟨_, rfl⟩
            obtain ⟨u8, rfl⟩ : ∃ z, z = u := ⟨_, rfl⟩
            have hw9 := hw
            clear hw
            obtain ⟨hP1, hD1⟩ := hB
            rw [ht] at hP1
            obtain ⟨hP, hD⟩ := va_join (wr := [(qo, .inr (4, [.int qk, .int qa, .int qb, .int qd, .int qw, .int qn]))]) (w1 := [(tt 0, .inr (9, [.ref (tt 1), .ref (tt 3), .ref (tt 5), .int (nI nm)])), (tt 1, .inr (5, [.ref (tt 2)])), (tt 2, .inl (dA 0, 84, .inl tw)), (tt 3, .inr (5, [.ref (tt 4)])), (tt 4, .inl (dA 0, 84, .inl tp)), (tt 5, .inr (5, [.ref (tt 6)])), (tt 6, .inl (dA 0, 84, .inl tx))]) hP hD [1, 6, 7, 2, 3, 4, 5] [0] rfl rfl (by decide) (by decide) hk1 hFc hP1 hD1
            generalize H1 = H at hP hS ⊢
            replace hP : va_P D vwCl [(qo, .inr (4, [.int qk, .int qa, .int qb, .int qd, .int qw, .int qn])), (tt 0, .inr (9, [.ref (tt 1), .ref (tt 3), .ref (tt 5), .int (nI nm)])), (tt 1, .inr (5, [.ref (tt 2)])), (tt 2, .inl (dA 0, 84, .inl tw)), (tt 3, .inr (5, [.ref (tt 4)])), (tt 4, .inl (dA 0, 84, .inl tp)), (tt 5, .inr (5, [.ref (tt 6)])), (tt 6, .inl (dA 0, 84, .inl tx))] H := hP
            replace hD : va_D A [(qo, .inr (4, [.int qk, .int qa, .int qb, .int qd, .int qw, .int qn])), (tt 0, .inr (9, [.ref (tt 1), .ref (tt 3), .ref (tt 5), .int (nI nm)])), (tt 1, .inr (5, [.ref (tt 2)])), (tt 2, .inl (dA 0, 84, .inl tw)), (tt 3, .inr (5, [.ref (tt 4)])), (tt 4, .inl (dA 0, 84, .inl tp)), (tt 5, .inr (5, [.ref (tt 6)])), (tt 6, .inl (dA 0, 84, .inl tx))] := hD
            refine bt (b := (ffB tw tp i22 i22)) ?_ ?_
            · intro hB10
              obtain rfl : r7 = 1 := hw9.trans (by rw [hB10]; rfl)
              refine lv_if_ne (tgt := 56) hx hb dX1_timesIn_50 (by decide) (fun _ => ?_) (fun c11 => absurd c11 (by decide))
              refine lv_iconst (v := 0) hx hb dX1_timesIn_56 (by decide) ?_
              refine lv_istore (lv' := [(4, .int 0), (3, .int (nI i22)), (2, .int (nI (tiN qk qa qb qd tw tp nm i22))), (0, .ref qo), (1, .ref (tt 0))]) hx hb dX1_timesIn_57 hl (by decide) rfl (fun ls hl => ?_)
              have K59 : ∀ (k59 i59 : Nat) (g59_0 : Int32), 0 ≤ i59 → i59 ≤ nm → nm < i59 + k59 → (g59_0 = nI (tiN qk qa qb qd tw tp nm i22 + cn (icF qk qb qd tw tp i22) i59)) → ∀ (H : Heap) (locs : List Loc), va_P D vwCl [(qo, .inr (4, [.int qk, .int qa, .int qb, .int qd, .int qw, .int qn])), (tt 0, .inr (9, [.ref (tt 1), .ref (tt 3), .ref (tt 5), .int (nI nm)])), (tt 1, .inr (5, [.ref (tt 2)])), (tt 2, .inl (dA 0, 84, .inl tw)), (tt 3, .inr (5, [.ref (tt 4)])), (tt 4, .inl (dA 0, 84, .inl tp)), (tt 5, .inr (5, [.ref (tt 6)])), (tt 6, .inl (dA 0, 84, .inl tx))] H → va_D A [(qo, .inr (4, [.int qk, .int qa, .int qb, .int qd, .int qw, .int qn])), (tt 0, .inr (9, [.ref (tt 1), .ref (tt 3), .ref (tt 5), .int (nI nm)])), (tt 1, .inr (5, [.ref (tt 2)])), (tt 2, .inl (dA 0, 84, .inl tw)), (tt 3, .inr (5, [.ref (tt 4)])), (tt 4, .inl (dA 0, 84, .inl tp)), (tt 5, .inr (5, [.ref (tt 6)])), (tt 6, .inl (dA 0, 84, .inl tx))] → va_S A s.heap H locs → ∀ ls : Array Slot, lv_has ls 5 [(4, .int (nI i59)), (3, .int (nI i22)), (2, .int g59_0), (0, .ref qo), (1, .ref (tt 0))] → W p l e { frames := 2, cells := 0, slots := 0, locals := 45 } s m args below meth c H locs 0 0 (MQ below (va_Qi (fun (r : Int32) (u : Unit) => r = nI (tiV qk qa qb qd tw tp nm)) (fun u t => va_P D vwCl [(qo, .inr (4, [.int qk, .int qa, .int qb, .int qd, .int qw, .int qn])), (tt 0, .inr (9, [.ref (tt 1), .ref (tt 3), .ref (tt 5), .int (nI nm)])), (tt 1, .inr (5, [.ref (tt 2)])), (tt 2, .inl (dA 0, 84, .inl tw)), (tt 3, .inr (5, [.ref (tt 4)])), (tt 4, .inl (dA 0, 84, .inl tp)), (tt 5, .inr (5, [.ref (tt 6)])), (tt 6, .inl (dA 0, 84, .inl tx))] t.heap ∧ va_D A [(qo, .inr (4, [.int qk, .int qa, .int qb, .int qd, .int qw, .int qn])), (tt 0, .inr (9, [.ref (tt 1), .ref (tt 3), .ref (tt 5), .int (nI nm)])), (tt 1, .inr (5, [.ref (tt 2)])), (tt 2, .inl (dA 0, 84, .inl tw)), (tt 3, .inr (5, [.ref (tt 4)])), (tt 4, .inl (dA 0, 84, .inl tp)), (tt 5, .inr (5, [.ref (tt 6)])), (tt 6, .inl (dA 0, 84, .inl tx))]) A) args s 0 0 A) (F0 m 59 ls []) := by
                intro k59
                induction k59 with
                | zero => intro i59 g59_0 h1 h2 h3; exact absurd h3 (by omega)
                | succ k59 ih59 =>
                  intro i59 g59_0 hlo59 hhi59 hms59 hinv59 H locs hP hD hS ls hl
                  have eg59_0 := hinv59
                  subst eg59_0
                  have hci := cn_le (icF qk qb qd tw tp i22) i59
                  refine lv_iload hx hb dX1_timesIn_59 (lv_at hl 0 rfl) ?_
                  refine lv_aload_n hx hb dX1_timesIn_61 rfl (lv_at hl 4 rfl) ?_
                  refine va_getN (D := D) (ci := 9) (v := .int (nI nm)) (C := RX6) (T := TX6) (N := 4) hx hb hts inAX6 hown hK hP 1 rfl rfl 3 (by decide) (va_Nw.use rfl (znF_6 hZ.1)) (fun _ h9 => h9) rfl dX1_timesIn_62 ?_
                  refine lv_icmp_ge (tgt := 97) hx hb dX1_timesIn_65 (by decide) (fun c12 => ?_) (fun c12 => ?_)
                  · replace c12 := (nI_leI (a := nm) (b := i59) (by omega) (by omega)).mp c12
                    obtain rfl : nm = i59 := (by omega)
                    replace hP : va_P D vwCl [(qo, .inr (4, [.int qk, .int qa, .int qb, .int qd, .int qw, .int qn])), (tt 0, .inr (9, [.ref (tt 1), .ref (tt 3), .ref (tt 5), .int (nI nm)])), (tt 1, .inr (5, [.ref (tt 2)])), (tt 2, .inl (dA 0, 84, .inl tw)), (tt 3, .inr (5, [.ref (tt 4)])), (tt 4, .inl (dA 0, 84, .inl tp)), (tt 5, .inr (5, [.ref (tt 6)])), (tt 6, .inl (dA 0, 84, .inl tx))] H := hP
                    replace hD : va_D A [(qo, .inr (4, [.int qk, .int qa, .int qb, .int qd, .int qw, .int qn])), (tt 0, .inr (9, [.ref (tt 1), .ref (tt 3), .ref (tt 5), .int (nI nm)])), (tt 1, .inr (5, [.ref (tt 2)])), (tt 2, .inl (dA 0, 84, .inl tw)), (tt 3, .inr (5, [.ref (tt 4)])), (tt 4, .inl (dA 0, 84, .inl tp)), (tt 5, .inr (5, [.ref (tt 6)])), (tt 6, .inl (dA 0, 84, .inl tx))] := hD
                    refine lv_iinc (v := nI (i22 + 1)) (lv' := [(3, .int (nI (i22 + 1))), (4, .int (nI nm)), (2, .int (nI (tiN qk qa qb qd tw tp nm i22 + cn (icF qk qb qd tw tp i22) nm))), (0, .ref qo), (1, .ref (tt 0))]) hx hb dX1_timesIn_97 hl (k := 1) rfl (nI_add i22 1) (by decide) rfl (fun ls hl => ?_)
                    refine lv_goto (tgt := 22) hx hb dX1_timesIn_100 (by decide) ?_
                    exact ih22 (i22 + 1) (nI (tiN qk qa qb qd tw tp nm i22 + cn (icF qk qb qd tw tp i22) nm)) (by omega) (by omega) (by omega) (ti_y c6 hB10) _ _ hP hD hS ls (lv_sub hl [0, 2, 3, 4] rfl)
                  · replace c12 := mt (nI_leI (a := nm) (b := i59) (by omega) (by omega)).mpr c12
                    refine lv_aload_n hx hb dX1_timesIn_68 rfl (lv_at hl 3 rfl) ?_
                    refine lv_aload_n hx hb dX1_timesIn_69 rfl (lv_at hl 4 rfl) ?_
                    refine lv_iload_n hx hb dX1_timesIn_70 rfl (lv_at hl 1 rfl) ?_
                    refine lv_iload hx hb dX1_timesIn_71 (lv_at hl 0 rfl) ?_
                    replace hPc := hP.sub (ws' := [(qo, .inr (4, [.int qk, .int qa, .int qb, .int qd, .int qw, .int qn])), (tt 0, .inr (9, [.ref (tt 1), .ref (tt 3), .ref (tt 5), .int (nI nm)])), (tt 1, .inr (5, [.ref (tt 2)])), (tt 2, .inl (dA 0, 84, .inl tw)), (tt 3, .inr (5, [.ref (tt 4)])), (tt 4, .inl (dA 0, 84, .inl tp)), (tt 5, .inr (5, [.ref (tt 6)])), (tt 6, .inl (dA 0, 84, .inl tx))]) [0, 1, 2, 3, 4, 5, 6, 7] rfl
                    replace hDc := hD.sub (ws' := [(qo, .inr (4, [.int qk, .int qa, .int qb, .int qd, .int qw, .int qn])), (tt 0, .inr (9, [.ref (tt 1), .ref (tt 3), .ref (tt 5), .int (nI nm)])), (tt 1, .inr (5, [.ref (tt 2)])), (tt 2, .inl (dA 0, 84, .inl tw)), (tt 3, .inr (5, [.ref (tt 4)])), (tt 4, .inl (dA 0, 84, .inl tp)), (tt 5, .inr (5, [.ref (tt 6)])), (tt 6, .inl (dA 0, 84, .inl tx))]) [0, 1, 2, 3, 4, 5, 6, 7] (by decide) rfl
                    replace hFc := va_free (wc := [(qo, .inr (4, [.int qk, .int qa, .int qb, .int qd, .int qw, .int qn])), (tt 0, .inr (9, [.ref (tt 1), .ref (tt 3), .ref (tt 5), .int (nI nm)])), (tt 1, .inr (5, [.ref (tt 2)])), (tt 2, .inl (dA 0, 84, .inl tw)), (tt 3, .inr (5, [.ref (tt 4)])), (tt 4, .inl (dA 0, 84, .inl tp)), (tt 5, .inr (5, [.ref (tt 6)])), (tt 6, .inl (dA 0, 84, .inl tx))]) hD hS hA [0, 1, 2, 3, 4, 5, 6, 7] rfl
                    refine va_calli (va_runV (As := [.ref (tt 0), .int (nI i22), .int (nI i59)]) (rest := []) ⟨hx, hb, hml, hown, hts⟩ (q_isCouple l D dA E qo qk qa qb qd qw qn tt tw tp tx nm i22 i59 H.size  (by omega) (by omega) (by omega)) (cwV 3 hts (ga_V q427 q428 q425 q414 q426) rfl rfl rfl (by decide +kernel) ⟨(Nat.le_of_ble_eq_true rfl), (Nat.le_of_ble_eq_true rfl)⟩) ⟨pb_blind, va_recv hK hPc (ci := 4) (q0 := 0) rfl rfl, pb_pre hK hPc hDc hZ hS hFc _⟩ rfl rfl hl.1 rfl (lv_room (Nat.le_of_ble_eq_true rfl)) dX1_timesIn_73 ⟨(Nat.le_of_ble_eq_true rfl), (Nat.le_of_ble_eq_true rfl)⟩) hS (fun q _ h => hFc q h) hFc (fun r u t H1 locs ht hvm hw hB hz1 hk1 hS => ?_)
                    refine W.widen (k := 0) (n := 0) (Nat.le_of_ble_eq_true rfl) (Nat.le_of_ble_eq_true rfl) ?_
                    obtain ⟨r13, rfl⟩ : ∃ z, z = r := ⟨_, rfl⟩
                    obtain ⟨u14, rfl⟩ : ∃ z, z = u := ⟨_, rfl⟩
                    have hw15 := hw
                    clear hw
                    obtain ⟨hP1, hD1⟩ := hB
                    rw [ht] at hP1
                    obtain ⟨hP, hD⟩ := va_join (wr := []) (w1 := [(qo, .inr (4, [.int qk, .int qa, .int qb, .int qd, .int qw, .int qn])), (tt 0, .inr (9, [.ref (tt 1), .ref (tt 3), .ref (tt 5), .int (nI nm)])), (tt 1, .inr (5, [.ref (tt 2)])), (tt 2, .inl (dA 0, 84, .inl tw)), (tt 3, .inr (5, [.ref (tt 4)])), (tt 4, .inl (dA 0, 84, .inl tp)), (tt 5, .inr (5, [.ref (tt 6)])), (tt 6, .inl (dA 0, 84, .inl tx))]) hP hD [0, 1, 2, 3, 4, 5, 6, 7] [] rfl rfl (by decide) (by decide) hk1 hFc hP1 hD1
                    generalize H1 = H at hP hS ⊢
                    replace hP : va_P D vwCl [(qo, .inr (4, [.int qk, .int qa, .int qb, .int qd, .int qw, .int qn])), (tt 0, .inr (9, [.ref (tt 1), .ref (tt 3), .ref (tt 5), .int (nI nm)])), (tt 1, .inr (5, [.ref (tt 2)])), (tt 2, .inl (dA 0, 84, .inl tw)), (tt 3, .inr (5, [.ref (tt 4)])), (tt 4, .inl (dA 0, 84, .inl tp)), (tt 5, .inr (5, [.ref (tt 6)])), (tt 6, .inl (dA 0, 84, .inl tx))] H := hP
                    replace hD : va_D A [(qo, .inr (4, [.int qk, .int qa, .int qb, .int qd, .int qw, .int qn])), (tt 0, .inr (9, [.ref (tt 1), .ref (tt 3), .ref (tt 5), .int (nI nm)])), (tt 1, .inr (5, [.ref (tt 2)])), (tt 2, .inl (dA 0, 84, .inl tw)), (tt 3, .inr (5, [.ref (tt 4)])), (tt 4, .inl (dA 0, 84, .inl tp)), (tt 5, .inr (5, [.ref (tt 6)])), (tt 6, .inl (dA 0, 84, .inl tx))] := hD
                    refine bt (b := (icB qk qb qd tw tp i22 i59)) ?_ ?_
                    · intro hB16
                      obtain rfl : r13 = 1 := hw15.trans (by rw [hB16]; rfl)
                      refine lv_if_eq (tgt := 91) hx hb dX1_timesIn_76 (by decide) (fun c17 => absurd c17 (by decide)) (fun _ => ?_)
                      refine lv_aload_n hx hb dX1_timesIn_79 rfl (lv_at hl 4 rfl) ?_
                      refine lv_iload hx hb dX1_timesIn_80 (lv_at hl 0 rfl) ?_
                      replace hPc := hP.sub (ws' := [(tt 0, .inr (9, [.ref (tt 1), .ref (tt 3), .ref (tt 5), .int (nI nm)])), (tt 1, .inr (5, [.ref (tt 2)])), (tt 2, .inl (dA 0, 84, .inl tw)), (tt 3, .inr (5, [.ref (tt 4)])), (tt 4, .inl (dA 0, 84, .inl tp)), (tt 5, .inr (5, [.ref (tt 6)])), (tt 6, .inl (dA 0, 84, .inl tx))]) [1, 2, 3, 4, 5, 6, 7] rfl
                      replace hDc := hD.sub (ws' := [(tt 0, .inr (9, [.ref (tt 1), .ref (tt 3), .ref (tt 5), .int (nI nm)])), (tt 1, .inr (5, [.ref (tt 2)])), (tt 2, .inl (dA 0, 84, .inl tw)), (tt 3, .inr (5, [.ref (tt 4)])), (tt 4, .inl (dA 0, 84, .inl tp)), (tt 5, .inr (5, [.ref (tt 6)])), (tt 6, .inl (dA 0, 84, .inl tx))]) [1, 2, 3, 4, 5, 6, 7] (by decide) rfl
                      replace hFc := va_free (wc := [(tt 0, .inr (9, [.ref (tt 1), .ref (tt 3), .ref (tt 5), .int (nI nm)])), (tt 1, .inr (5, [.ref (tt 2)])), (tt 2, .inl (dA 0, 84, .inl tw)), (tt 3, .inr (5, [.ref (tt 4)])), (tt 4, .inl (dA 0, 84, .inl tp)), (tt 5, .inr (5, [.ref (tt 6)])), (tt 6, .inl (dA 0, 84, .inl tx))]) hD hS hA [1, 2, 3, 4, 5, 6, 7] rfl
                      refine va_calli (va_runV (As := [.int (nI i59)]) (rest := []) ⟨hx, hb, hml, hown, hts⟩ (t_isFirstAtPlace l D dA E tt tw tp tx nm i59 H.size  (by omega) (by omega)) (cwV 1 hts (ga_V q423 q424 q421 q218 q422) rfl rfl rfl (by decide +kernel) ⟨(Nat.le_of_ble_eq_true rfl), (Nat.le_of_ble_eq_true rfl)⟩) ⟨pb_blind, va_recv hK hPc (ci := 9) (q0 := 0) rfl rfl, pb_pre hK hPc hDc hZ hS hFc _⟩ rfl rfl hl.1 rfl (lv_room (Nat.le_of_ble_eq_true rfl)) dX1_timesIn_82 ⟨(Nat.le_of_ble_eq_true rfl), (Nat.le_of_ble_eq_true rfl)⟩) hS (fun q _ h => hFc q h) hFc (fun r u t H1 locs ht hvm hw hB hz1 hk1 hS => ?_)
                      refine W.widen (k := 0) (n := 0) (Nat.le_of_ble_eq_true rfl) (Nat.le_of_ble_eq_true rfl) ?_
                      obtain ⟨r18, rfl⟩ : ∃ z, z = r := ⟨_, rfl⟩
                      obtain ⟨u19, rfl⟩ : ∃ z, z = u := ⟨_, rfl⟩
                      have hw20 := hw
                      clear hw
                      obtain ⟨hP1, hD1⟩ := hB
                      rw [ht] at hP1
                      obtain ⟨hP, hD⟩ := va_join (wr := [(qo, .inr (4, [.int qk, .int qa, .int qb, .int qd, .int qw, .int qn]))]) (w1 := [(tt 0, .inr (9, [.ref (tt 1), .ref (tt 3), .ref (tt 5), .int (nI nm)])), (tt 1, .inr (5, [.ref (tt 2)])), (tt 2, .inl (dA 0, 84, .inl tw)), (tt 3, .inr (5, [.ref (tt 4)])), (tt 4, .inl (dA 0, 84, .inl tp)), (tt 5, .inr (5, [.ref (tt 6)])), (tt 6, .inl (dA 0, 84, .inl tx))]) hP hD [1, 2, 3, 4, 5, 6, 7] [0] rfl rfl (by decide) (by decide) hk1 hFc hP1 hD1
                      generalize H1 = H at hP hS ⊢
                      replace hP : va_P D vwCl [(qo, .inr (4, [.int qk, .int qa, .int qb, .int qd, .int qw, .int qn])), (tt 0, .inr (9, [.ref (tt 1), .ref (tt 3), .ref (tt 5), .int (nI nm)])), (tt 1, .inr (5, [.ref (tt 2)])), (tt 2, .inl (dA 0, 84, .inl tw)), (tt 3, .inr (5, [.ref (tt 4)])), (tt 4, .inl (dA 0, 84, .inl tp)), (tt 5, .inr (5, [.ref (tt 6)])), (tt 6, .inl (dA 0, 84, .inl tx))] H := hP
                      replace hD : va_D A [(qo, .inr (4, [.int qk, .int qa, .int qb, .int qd, .int qw, .int qn])), (tt 0, .inr (9, [.ref (tt 1), .ref (tt 3), .ref (tt 5), .int (nI nm)])), (tt 1, .inr (5, [.ref (tt 2)])), (tt 2, .inl (dA 0, 84, .inl tw)), (tt 3, .inr (5, [.ref (tt 4)])), (tt 4, .inl (dA 0, 84, .inl tp)), (tt 5, .inr (5, [.ref (tt 6)])), (tt 6, .inl (dA 0, 84, .inl tx))] := hD
                      refine bt (b := (ffB tw tp i59 i59)) ?_ ?_
                      · intro hB21
                        obtain rfl : r18 = 1 := hw20.trans (by rw [hB21]; rfl)
                        refine lv_if_eq (tgt := 91) hx hb dX1_timesIn_85 (by decide) (fun c22 => absurd c22 (by decide)) (fun _ => ?_)
                        refine lv_iinc (v := nI ((tiN qk qa qb qd tw tp nm i22 + cn (icF qk qb qd tw tp i22) i59) + 1)) (lv' := [(2, .int (nI ((tiN qk qa qb qd tw tp nm i22 + cn (icF qk qb qd tw tp i22) i59) + 1))), (4, .int (nI i59)), (3, .int (nI i22)), (0, .ref qo), (1, .ref (tt 0))]) hx hb dX1_timesIn_88 hl (k := 2) rfl (nI_add (tiN qk qa qb qd tw tp nm i22 + cn (icF qk qb qd tw tp i22) i59) 1) (by decide) rfl (fun ls hl => ?_)
                        refine lv_iinc (v := nI (i59 + 1)) (lv' := [(4, .int (nI (i59 + 1))), (2, .int (nI ((tiN qk qa qb qd tw tp nm i22 + cn (icF qk qb qd tw tp i22) i59) + 1))), (3, .int (nI i22)), (0, .ref qo), (1, .ref (tt 0))]) hx hb dX1_timesIn_91 hl (k := 1) rfl (nI_add i59 1) (by decide) rfl (fun ls hl => ?_)
                        refine lv_goto (tgt := 59) hx hb dX1_timesIn_94 (by decide) ?_
                        exact ih59 (i59 + 1) (nI ((tiN qk qa qb qd tw tp nm i22 + cn (icF qk qb qd tw tp i22) i59) + 1)) (by omega) (by omega) (by omega) (ic_y (by simp only [icF, hB16, hB21]; rfl)) _ _ hP hD hS ls (lv_sub hl [0, 2, 1, 3, 4] rfl)
                      · intro hB21
                        obtain rfl : r18 = 0 := hw20.trans (by rw [hB21]; rfl)
                        refine lv_if_eq (tgt := 91) hx hb dX1_timesIn_85 (by decide) (fun _ => ?_) (fun c23 => absurd (by decide) c23)
                        refine lv_iinc (v := nI (i59 + 1)) (lv' := [(4, .int (nI (i59 + 1))), (3, .int (nI i22)), (2, .int (nI (tiN qk qa qb qd tw tp nm i22 + cn (icF qk qb qd tw tp i22) i59))), (0, .ref qo), (1, .ref (tt 0))]) hx hb dX1_timesIn_91 hl (k := 0) rfl (nI_add i59 1) (by decide) rfl (fun ls hl => ?_)
                        refine lv_goto (tgt := 59) hx hb dX1_timesIn_94 (by decide) ?_
                        exact ih59 (i59 + 1) (nI (tiN qk qa qb qd tw tp nm i22 + cn (icF qk qb qd tw tp i22) i59)) (by omega) (by omega) (by omega) (ic_n (by simp only [icF, hB16, hB21]; rfl)) _ _ hP hD hS ls (lv_sub hl [0, 1, 2, 3, 4] rfl)
                    · intro hB16
                      obtain rfl : r13 = 0 := hw15.trans (by rw [hB16]; rfl)
                      refine lv_if_eq (tgt := 91) hx hb dX1_timesIn_76 (by decide) (fun _ => ?_) (fun c24 => absurd (by decide) c24)
                      refine lv_iinc (v := nI (i59 + 1)) (lv' := [(4, .int (nI (i59 + 1))), (3, .int (nI i22)), (2, .int (nI (tiN qk qa qb qd tw tp nm i22 + cn (icF qk qb qd tw tp i22) i59))), (0, .ref qo), (1, .ref (tt 0))]) hx hb dX1_timesIn_91 hl (k := 0) rfl (nI_add i59 1) (by decide) rfl (fun ls hl => ?_)
                      refine lv_goto (tgt := 59) hx hb dX1_timesIn_94 (by decide) ?_
                      exact ih59 (i59 + 1) (nI (tiN qk qa qb qd tw tp nm i22 + cn (icF qk qb qd tw tp i22) i59)) (by omega) (by omega) (by omega) (ic_n (by simp only [icF, hB16, Bool.false_and])) _ _ hP hD hS ls (lv_sub hl [0, 1, 2, 3, 4] rfl)
              exact K59 (nm + 1) 0 (nI (tiN qk qa qb qd tw tp nm i22)) (by omega) (by omega) (by omega) rfl _ _ hP hD hS ls hl
            · intro hB10
              obtain rfl : r7 = 0 := hw9.trans (by rw [hB10]; rfl)
              refine lv_if_ne (tgt := 56) hx hb dX1_timesIn_50 (by decide) (fun c25 => absurd (by decide) c25) (fun _ => ?_)
              refine lv_goto (tgt := 97) hx hb dX1_timesIn_53 (by decide) ?_
              refine lv_iinc (v := nI (i22 + 1)) (lv' := [(3, .int (nI (i22 + 1))), (2, .int (nI (tiN qk qa qb qd tw tp nm i22))), (0, .ref qo), (1, .ref (tt 0))]) hx hb dX1_timesIn_97 hl (k := 0) rfl (nI_add i22 1) (by decide) rfl (fun ls hl => ?_)
              refine lv_goto (tgt := 22) hx hb dX1_timesIn_100 (by decide) ?_
              exact ih22 (i22 + 1) (nI (tiN qk qa qb qd tw tp nm i22)) (by omega) (by omega) (by omega) (ti_n2 hB10) _ _ hP hD hS ls (lv_sub hl [0, 1, 2, 3] rfl)
    exact K22 (nm + 1) 0 0 (by omega) (by omega) (by omega) rfl _ _ hP hD hS ls hl
  · refine lv_aload_n hx hb dX1_timesIn_9 rfl (lv_at hl 1 rfl) ?_
    refine lv_aload_n hx hb dX1_timesIn_10 rfl (lv_at hl 0 rfl) ?_
    refine va_get (D := D) (ci := 4) (v := .int qa) (C := RX1) (T := TX1) (N := 6) hx hb hts inAX1 hown hK hP 0 rfl rfl 1 (by decide) (hts _ q302) (fun _ h9 => h9) rfl dX1_timesIn_11 ?_
    replace hPc := hP.sub (ws' := [(tt 0, .inr (9, [.ref (tt 1), .ref (tt 3), .ref (tt 5), .int (nI nm)])), (tt 1, .inr (5, [.ref (tt 2)])), (tt 2, .inl (dA 0, 84, .inl tw)), (tt 3, .inr (5, [.ref (tt 4)])), (tt 4, .inl (dA 0, 84, .inl tp)), (tt 5, .inr (5, [.ref (tt 6)])), (tt 6, .inl (dA 0, 84, .inl tx))]) [1, 2, 3, 4, 5, 6, 7] rfl
    replace hDc := hD.sub (ws' := [(tt 0, .inr (9, [.ref (tt 1), .ref (tt 3), .ref (tt 5), .int (nI nm)])), (tt 1, .inr (5, [.ref (tt 2)])), (tt 2, .inl (dA 0, 84, .inl tw)), (tt 3, .inr (5, [.ref (tt 4)])), (tt 4, .inl (dA 0, 84, .inl tp)), (tt 5, .inr (5, [.ref (tt 6)])), (tt 6, .inl (dA 0, 84, .inl tx))]) [1, 2, 3, 4, 5, 6, 7] (by decide) rfl
    replace hFc := va_free (wc := [(tt 0, .inr (9, [.ref (tt 1), .ref (tt 3), .ref (tt 5), .int (nI nm)])), (tt 1, .inr (5, [.ref (tt 2)])), (tt 2, .inl (dA 0, 84, .inl tw)), (tt 3, .inr (5, [.ref (tt 4)])), (tt 4, .inl (dA 0, 84, .inl tp)), (tt 5, .inr (5, [.ref (tt 6)])), (tt 6, .inl (dA 0, 84, .inl tx))]) hD hS hA [1, 2, 3, 4, 5, 6, 7] rfl
    refine va_calli (va_runV (As := [.int qa]) (rest := []) ⟨hx, hb, hml, hown, hts⟩ (t_times l D dA E tt tw tp tx nm qa s.heap.size  (by omega)) (cwV 1 hts (ga_V q431 q432 q429 q218 q430) rfl rfl rfl (by decide +kernel) ⟨(Nat.le_of_ble_eq_true rfl), (Nat.le_of_ble_eq_true rfl)⟩) ⟨pb_blind, va_recv hK hPc (ci := 9) (q0 := 0) rfl rfl, pb_pre hK hPc hDc hZ hS hFc _⟩ rfl rfl hl.1 rfl (lv_room (Nat.le_of_ble_eq_true rfl)) dX1_timesIn_14 ⟨(Nat.le_of_ble_eq_true rfl), (Nat.le_of_ble_eq_true rfl)⟩) hS (fun q _ h => hFc q h) hFc (fun r u t H1 locs ht hvm hw hB hz1 hk1 hS => ?_)
    refine W.widen (k := 0) (n := 0) (Nat.le_of_ble_eq_true rfl) (Nat.le_of_ble_eq_true rfl) ?_
    obtain ⟨r26, rfl⟩ : ∃ z, z = r := ⟨_, rfl⟩
    obtain ⟨u27, rfl⟩ : ∃ z, z = u := ⟨_, rfl⟩
    have hw28 := hw
    clear hw
    obtain ⟨hP1, hD1⟩ := hB
    rw [ht] at hP1
    obtain ⟨hP, hD⟩ := va_join (wr := [(qo, .inr (4, [.int qk, .int qa, .int qb, .int qd, .int qw, .int qn]))]) (w1 := [(tt 0, .inr (9, [.ref (tt 1), .ref (tt 3), .ref (tt 5), .int (nI nm)])), (tt 1, .inr (5, [.ref (tt 2)])), (tt 2, .inl (dA 0, 84, .inl tw)), (tt 3, .inr (5, [.ref (tt 4)])), (tt 4, .inl (dA 0, 84, .inl tp)), (tt 5, .inr (5, [.ref (tt 6)])), (tt 6, .inl (dA 0, 84, .inl tx))]) hP hD [1, 2, 3, 4, 5, 6, 7] [0] rfl rfl (by decide) (by decide) hk1 hFc hP1 hD1
    generalize H1 = H at hP hS ⊢
    replace hP : va_P D vwCl [(qo, .inr (4, [.int qk, .int qa, .int qb, .int qd, .int qw, .int qn])), (tt 0, .inr (9, [.ref (tt 1), .ref (tt 3), .ref (tt 5), .int (nI nm)])), (tt 1, .inr (5, [.ref (tt 2)])), (tt 2, .inl (dA 0, 84, .inl tw)), (tt 3, .inr (5, [.ref (tt 4)])), (tt 4, .inl (dA 0, 84, .inl tp)), (tt 5, .inr (5, [.ref (tt 6)])), (tt 6, .inl (dA 0, 84, .inl tx))] H := hP
    replace hD : va_D A [(qo, .inr (4, [.int qk, .int qa, .int qb, .int qd, .int qw, .int qn])), (tt 0, .inr (9, [.ref (tt 1), .ref (tt 3), .ref (tt 5), .int (nI nm)])), (tt 1, .inr (5, [.ref (tt 2)])), (tt 2, .inl (dA 0, 84, .inl tw)), (tt 3, .inr (5, [.ref (tt 4)])), (tt 4, .inl (dA 0, 84, .inl tp)), (tt 5, .inr (5, [.ref (tt 6)])), (tt 6, .inl (dA 0, 84, .inl tx))] := hD
    obtain rfl : r26 = nI (cn (fun i => decide (tw i = qa)) nm) := hw28
    have hcw28 := cn_le (fun i => decide (tw i = qa)) nm
    refine W.widen (k := 0) (n := 0) (Nat.le_of_ble_eq_true rfl) (Nat.le_of_ble_eq_true rfl) ?_
    have hP9 := hP.sub (ws' := [(qo, .inr (4, [.int qk, .int qa, .int qb, .int qd, .int qw, .int qn])), (tt 0, .inr (9, [.ref (tt 1), .ref (tt 3), .ref (tt 5), .int (nI nm)])), (tt 1, .inr (5, [.ref (tt 2)])), (tt 2, .inl (dA 0, 84, .inl tw)), (tt 3, .inr (5, [.ref (tt 4)])), (tt 4, .inl (dA 0, 84, .inl tp)), (tt 5, .inr (5, [.ref (tt 6)])), (tt 6, .inl (dA 0, 84, .inl tx))]) [0, 1, 2, 3, 4, 5, 6, 7] rfl
    have hD9 := hD.sub (ws' := [(qo, .inr (4, [.int qk, .int qa, .int qb, .int qd, .int qw, .int qn])), (tt 0, .inr (9, [.ref (tt 1), .ref (tt 3), .ref (tt 5), .int (nI nm)])), (tt 1, .inr (5, [.ref (tt 2)])), (tt 2, .inl (dA 0, 84, .inl tw)), (tt 3, .inr (5, [.ref (tt 4)])), (tt 4, .inl (dA 0, 84, .inl tp)), (tt 5, .inr (5, [.ref (tt 6)])), (tt 6, .inl (dA 0, 84, .inl tx))]) [0, 1, 2, 3, 4, 5, 6, 7] (by decide) rfl
    exact W.iret (v := (nI (cn (fun i => decide (tw i = qa)) nm))) hx hb hr (fun t ht hW => ⟨⟨(nI (cn (fun i => decide (tw i = qa)) nm)), (), rfl, (show _ = nI (tiV _ _ _ _ _ _ _) from by rw [tiV, if_pos c1]), ⟨by rw [ht]; exact hP9, hD9⟩⟩, hS.F ht⟩) hS.2.2 dX1_timesIn_17
