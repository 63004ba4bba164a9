/-! CONTRACTS, general -/
set_option maxHeartbeats 4000000 in
set_option maxRecDepth 100000 in
theorem z_scoreJoined (l : Launch) (D : va_G) (dA : Nat → ClassId) (E : Nat) (zq : Nat → Nat) (aq fd : Int32) (sc : Nat → Int32) (nd pt : Nat) (qo qa qb : Nat) (qk qd qw qn : Int32) (sz : Nat) (hnd : nd ≤ 30) (hpt : pt < 40) (hqa : qa < pt) (hqb : qb < pt)  : Met l yX3_scoreJoined (wq (.code yX3_scoreJoined cX3_scoreJoined 7 none)) { frames := 1, cells := 0, slots := 0, locals := 23 } (va_Pc [.ref (zq 0), .int (nI nd), .ref qo, .int (nI pt)] (PcB D dA E [(zq 0, .inr (6, [.ref (zq 1), .ref (zq 3), .ref (zq 5), .ref (zq 7), .ref (zq 9), .ref (zq 11), .int aq, .int fd])), (zq 5, .inr (5, [.ref (zq 6)])), (zq 6, .inl (dA 0, 1200, .inl sc)), (qo, .inr (4, [.int qk, .int (nI qa), .int (nI qb), .int qd, .int qw, .int qn]))] sz)) (va_Qv (fun (u : Unit) => True) (fun u t => va_P D vwCl [(zq 0, .inr (6, [.ref (zq 1), .ref (zq 3), .ref (zq 5), .ref (zq 7), .ref (zq 9), .ref (zq 11), .int aq, .int fd])), (zq 5, .inr (5, [.ref (zq 6)])), (zq 6, .inl (dA 0, 1200, .inl (sjF qk qa qb pt sc nd))), (qo, .inr (4, [.int qk, .int (nI qa), .int (nI qb), .int qd, .int qw, .int qn]))] t.heap ∧ va_D (va_A [(zq 0, .inr (6, [.ref (zq 1), .ref (zq 3), .ref (zq 5), .ref (zq 7), .ref (zq 9), .ref (zq 11), .int aq, .int fd])), (zq 5, .inr (5, [.ref (zq 6)])), (zq 6, .inl (dA 0, 1200, .inl sc)), (qo, .inr (4, [.int qk, .int (nI qa), .int (nI qb), .int qd, .int qw, .int qn]))] sz) [(zq 0, .inr (6, [.ref (zq 1), .ref (zq 3), .ref (zq 5), .ref (zq 7), .ref (zq 9), .ref (zq 11), .int aq, .int fd])), (zq 5, .inr (5, [.ref (zq 6)])), (zq 6, .inl (dA 0, 1200, .inl (sjF qk qa qb pt sc nd))), (qo, .inr (4, [.int qk, .int (nI qa), .int (nI qb), .int qd, .int qw, .int qn]))]) (va_A [(zq 0, .inr (6, [.ref (zq 1), .ref (zq 3), .ref (zq 5), .ref (zq 7), .ref (zq 9), .ref (zq 11), .int aq, .int fd])), (zq 5, .inr (5, [.ref (zq 6)])), (zq 6, .inl (dA 0, 1200, .inl sc)), (qo, .inr (4, [.int qk, .int (nI qa), .int (nI qb), .int qd, .int qw, .int qn]))] sz)) 0 0 (va_A [(zq 0, .inr (6, [.ref (zq 1), .ref (zq 3), .ref (zq 5), .ref (zq 7), .ref (zq 9), .ref (zq 11), .int aq, .int fd])), (zq 5, .inr (5, [.ref (zq 6)])), (zq 6, .inl (dA 0, 1200, .inl sc)), (qo, .inr (4, [.int qk, .int (nI qa), .int (nI qb), .int qd, .int qw, .int qn]))] sz) := by
  refine mb_of (Qc := fun A => va_Qv (fun (u : Unit) => True) (fun u t => va_P D vwCl [(zq 0, .inr (6, [.ref (zq 1), .ref (zq 3), .ref (zq 5), .ref (zq 7), .ref (zq 9), .ref (zq 11), .int aq, .int fd])), (zq 5, .inr (5, [.ref (zq 6)])), (zq 6, .inl (dA 0, 1200, .inl (sjF qk qa qb pt sc nd))), (qo, .inr (4, [.int qk, .int (nI qa), .int (nI qb), .int qd, .int qw, .int qn]))] t.heap ∧ va_D A [(zq 0, .inr (6, [.ref (zq 1), .ref (zq 3), .ref (zq 5), .ref (zq 7), .ref (zq 9), .ref (zq 11), .int aq, .int fd])), (zq 5, .inr (5, [.ref (zq 6)])), (zq 6, .inl (dA 0, 1200, .inl (sjF qk qa qb pt sc nd))), (qo, .inr (4, [.int qk, .int (nI qa), .int (nI qb), .int qd, .int qw, .int qn]))]) A) RX3 rfl (by decide) (Nat.le_of_ble_eq_true rfl) ?_
  intro p e s m args below meth c hae hx hb hr hts hown hlocks hml hnm hP hK A hAe hD hZ hS hA ls hl
  replace hl : lv_has ls 7 [(0, .ref (zq 0)), (1, .int (nI nd)), (2, .ref qo), (3, .int (nI pt))] := hl
  refine lv_iconst (v := 0) hx hb dX3_scoreJoined_0 (by decide) ?_
  refine lv_istore (lv' := [(4, .int 0), (0, .ref (zq 0)), (1, .int (nI nd)), (2, .ref qo), (3, .int (nI pt))]) hx hb dX3_scoreJoined_1 hl (by decide) rfl (fun ls hl => ?_)
  have K3 : ∀ (k3 i3 : Nat) (g3_0 : Nat → Int32), 0 ≤ i3 → i3 ≤ nd → nd < i3 + k3 → (g3_0 = sjF qk qa qb pt sc i3) → ∀ (H : Heap) (locs : List Loc), va_P D vwCl [(zq 0, .inr (6, [.ref (zq 1), .ref (zq 3), .ref (zq 5), .ref (zq 7), .ref (zq 9), .ref (zq 11), .int aq, .int fd])), (zq 5, .inr (5, [.ref (zq 6)])), (zq 6, .inl (dA 0, 1200, .inl g3_0)), (qo, .inr (4, [.int qk, .int (nI qa), .int (nI qb), .int qd, .int qw, .int qn]))] H → va_D A [(zq 0, .inr (6, [.ref (zq 1), .ref (zq 3), .ref (zq 5), .ref (zq 7), .ref (zq 9), .ref (zq 11), .int aq, .int fd])), (zq 5, .inr (5, [.ref (zq 6)])), (zq 6, .inl (dA 0, 1200, .inl g3_0)), (qo, .inr (4, [.int qk, .int (nI qa), .int (nI qb), .int qd, .int qw, .int qn]))] → va_S A s.heap H locs → ∀ ls : Array Slot, lv_has ls 7 [(4, .int (nI i3)), (0, .ref (zq 0)), (1, .int (nI nd)), (2, .ref qo), (3, .int (nI pt))] → W p l e { frames := 1, cells := 0, slots := 0, locals := 23 } s m args below meth c H locs 0 0 (MQ below (va_Qv (fun (u : Unit) => True) (fun u t => va_P D vwCl [(zq 0, .inr (6, [.ref (zq 1), .ref (zq 3), .ref (zq 5), .ref (zq 7), .ref (zq 9), .ref (zq 11), .int aq, .int fd])), (zq 5, .inr (5, [.ref (zq 6)])), (zq 6, .inl (dA 0, 1200, .inl (sjF qk qa qb pt sc nd))), (qo, .inr (4, [.int qk, .int (nI qa), .int (nI qb), .int qd, .int qw, .int qn]))] t.heap ∧ va_D A [(zq 0, .inr (6, [.ref (zq 1), .ref (zq 3), .ref (zq 5), .ref (zq 7), .ref (zq 9), .ref (zq 11), .int aq, .int fd])), (zq 5, .inr (5, [.ref (zq 6)])), (zq 6, .inl (dA 0, 1200, .inl (sjF qk qa qb pt sc nd))), (qo, .inr (4, [.int qk, .int (nI qa), .int (nI qb), .int qd, .int qw, .int qn]))]) A) args s 0 0 A) (F0 m 3 ls []) := by
    intro k3
    induction k3 with
    | zero => intro i3 g3_0 h1 h2 h3; exact absurd h3 (by omega)
    | succ k3 ih3 =>
      intro i3 g3_0 hlo3 hhi3 hms3 hinv3 H locs hP hD hS ls hl
      have eg3_0 := hinv3
      subst eg3_0
      refine lv_iload hx hb dX3_scoreJoined_3 (lv_at hl 0 rfl) ?_
      refine lv_iload_n hx hb dX3_scoreJoined_5 rfl (lv_at hl 2 rfl) ?_
      refine lv_icmp_ge (tgt := 72) hx hb dX3_scoreJoined_6 (by decide) (fun c1 => ?_) (fun c1 => ?_)
      · replace c1 := (nI_leI (a := nd) (b := i3) (by omega) (by omega)).mp c1
        obtain rfl : nd = i3 := (by omega)
        replace hP : va_P D vwCl [(zq 0, .inr (6, [.ref (zq 1), .ref (zq 3), .ref (zq 5), .ref (zq 7), .ref (zq 9), .ref (zq 11), .int aq, .int fd])), (zq 5, .inr (5, [.ref (zq 6)])), (zq 6, .inl (dA 0, 1200, .inl (sjF qk qa qb pt sc nd))), (qo, .inr (4, [.int qk, .int (nI qa), .int (nI qb), .int qd, .int qw, .int qn]))] H := hP
        replace hD : va_D A [(zq 0, .inr (6, [.ref (zq 1), .ref (zq 3), .ref (zq 5), .ref (zq 7), .ref (zq 9), .ref (zq 11), .int aq, .int fd])), (zq 5, .inr (5, [.ref (zq 6)])), (zq 6, .inl (dA 0, 1200, .inl (sjF qk qa qb pt sc nd))), (qo, .inr (4, [.int qk, .int (nI qa), .int (nI qb), .int qd, .int qw, .int qn]))] := hD
        refine W.widen (k := 0) (n := 0) (Nat.le_of_ble_eq_true rfl) (Nat.le_of_ble_eq_true rfl) ?_
        have hP9 := hP.sub (ws' := [(zq 0, .inr (6, [.ref (zq 1), .ref (zq 3), .ref (zq 5), .ref (zq 7), .ref (zq 9), .ref (zq 11), .int aq, .int fd])), (zq 5, .inr (5, [.ref (zq 6)])), (zq 6, .inl (dA 0, 1200, .inl (sjF qk qa qb pt sc nd))), (qo, .inr (4, [.int qk, .int (nI qa), .int (nI qb), .int qd, .int qw, .int qn]))]) [0, 1, 2, 3] rfl
        have hD9 := hD.sub (ws' := [(zq 0, .inr (6, [.ref (zq 1), .ref (zq 3), .ref (zq 5), .ref (zq 7), .ref (zq 9), .ref (zq 11), .int aq, .int fd])), (zq 5, .inr (5, [.ref (zq 6)])), (zq 6, .inl (dA 0, 1200, .inl (sjF qk qa qb pt sc nd))), (qo, .inr (4, [.int qk, .int (nI qa), .int (nI qb), .int qd, .int qw, .int qn]))]) [0, 1, 2, 3] (by decide) rfl
        exact W.vret hx hb hr (fun t ht hW => ⟨⟨(), rfl, trivial, ⟨by rw [ht]; exact hP9, hD9⟩⟩, hS.F ht⟩) hS.2.2 dX3_scoreJoined_72
      · replace c1 := mt (nI_leI (a := nd) (b := i3) (by omega) (by omega)).mpr c1
        refine lv_aload_n hx hb dX3_scoreJoined_9 rfl (lv_at hl 1 rfl) ?_
        refine va_get (D := D) (ci := 6) (v := .ref (zq 5)) (C := RX3) (T := TX3) (N := 8) hx hb hts inAX3 hown hK hP 0 rfl rfl 2 (by decide) (hts _ q315) (fun _ h9 => h9) rfl dX3_scoreJoined_10 ?_
        refine lv_aload_n hx hb dX3_scoreJoined_13 rfl (lv_at hl 3 rfl) ?_
        refine va_getN (D := D) (ci := 4) (v := .int (nI qa)) (C := RX1) (T := TX1) (N := 6) hx hb hts inAX1 hown hK hP 3 rfl rfl 1 (by decide) (va_Nw.use rfl (znF_17 hZ.1)) (fun _ h9 => h9) rfl dX3_scoreJoined_14 ?_
        refine lv_iload hx hb dX3_scoreJoined_17 (lv_at hl 0 rfl) ?_
        replace hPc := hP.sub (ws' := []) [] rfl
        replace hDc := hD.sub (ws' := []) [] (by decide) rfl
        replace hFc := va_free (wc := []) hD hS hA [] rfl
        refine va_calli (va_runS (As := [.int (nI qa), .int (nI i3)]) (rest := [.ref (zq 5)]) ⟨hx, hb, hml, hown, hts⟩ (z_cell l D dA E qa i3 H.size  (by omega) (by omega)) (va_cwS 2 hts (ga_S q441 q442 q341 q440) rfl rfl rfl (by decide +kernel) ⟨(Nat.le_of_ble_eq_true rfl), (Nat.le_of_ble_eq_true rfl)⟩) ⟨pb_blind, pb_pre hK hPc hDc hZ hS hFc _⟩ rfl rfl hl.1 rfl (lv_room (Nat.le_of_ble_eq_true rfl)) dX3_scoreJoined_19 ⟨(Nat.le_of_ble_eq_true rfl), (Nat.le_of_ble_eq_true rfl)⟩) hS (fun q _ h => hFc q h) hFc (fun r u t H1 locs ht hvm hw hB hz1 hk1 hS => ?_)
        refine W.widen (k := 0) (n := 0) (Nat.le_of_ble_eq_true rfl) (Nat.le_of_ble_eq_true rfl) ?_
        obtain ⟨r2, rfl⟩ : ∃ z, z = r := ⟨_, rfl⟩
        obtain ⟨u3, rfl⟩ : ∃ z, z = u := ⟨_, rfl⟩
        have hw4 := hw
        clear hw
        obtain ⟨hP1, hD1⟩ := hB
        rw [ht] at hP1
        obtain ⟨hP, hD⟩ := va_join (wr := [(zq 0, .inr (6, [.ref (zq 1), .ref (zq 3), .ref (zq 5), .ref (zq 7), .ref (zq 9), .ref (zq 11), .int aq, .int fd])), (zq 5, .inr (5, [.ref (zq 6)])), (zq 6, .inl (dA 0, 1200, .inl (sjF qk qa qb pt sc i3))), (qo, .inr (4, [.int qk, .int (nI qa), .int (nI qb), .int qd, .int qw, .int qn]))]) (w1 := []) hP hD [] [0, 1, 2, 3] rfl rfl (by decide) (by decide) hk1 hFc hP1 hD1
        generalize H1 = H at hP hS ⊢
        replace hP : va_P D vwCl [(zq 0, .inr (6, [.ref (zq 1), .ref (zq 3), .ref (zq 5), .ref (zq 7), .ref (zq 9), .ref (zq 11), .int aq, .int fd])), (zq 5, .inr (5, [.ref (zq 6)])), (zq 6, .inl (dA 0, 1200, .inl (sjF qk qa qb pt sc i3))), (qo, .inr (4, [.int qk, .int (nI qa), .int (nI qb), .int qd, .int qw, .int qn]))] H := hP
        replace hD : va_D A [(zq 0, .inr (6, [.ref (zq 1), .ref (zq 3), .ref (zq 5), .ref (zq 7), .ref (zq 9), .ref (zq 11), .int aq, .int fd])), (zq 5, .inr (5, [.ref (zq 6)])), (zq 6, .inl (dA 0, 1200, .inl (sjF qk qa qb pt sc i3))), (qo, .inr (4, [.int qk, .int (nI qa), .int (nI qb), .int qd, .int qw, .int qn]))] := hD
        obtain rfl : r2 = nI (30 * qa + i3) := hw4
        replace hPc := hP.sub (ws' := [(zq 5, .inr (5, [.ref (zq 6)])), (zq 6, .inl (dA 0, 1200, .inl (sjF qk qa qb pt sc i3)))]) [1, 2] rfl
        replace hDc := hD.sub (ws' := [(zq 5, .inr (5, [.ref (zq 6)])), (zq 6, .inl (dA 0, 1200, .inl (sjF qk qa qb pt sc i3)))]) [1, 2] (by decide) rfl
        replace hFc := va_free (wc := [(zq 5, .inr (5, [.ref (zq 6)])), (zq 6, .inl (dA 0, 1200, .inl (sjF qk qa qb pt sc i3)))]) hD hS hA [1, 2] rfl
        refine va_calli (va_runV (As := [.int (nI (30 * qa + i3))]) (rest := []) ⟨hx, hb, hml, hown, hts⟩ (t_getN l D dA E (zq 5) (zq 6) 1200 (sjF qk qa qb pt sc i3) (30 * qa + i3) H.size  (by omega) (by decide)) (cwV 1 hts (ga_V q438 q203 q200 q204 q201) rfl rfl rfl (by decide +kernel) ⟨(Nat.le_of_ble_eq_true rfl), (Nat.le_of_ble_eq_true rfl)⟩) ⟨pb_blind, va_recv hK hPc (ci := 5) (q0 := 0) rfl rfl, pb_pre hK hPc hDc hZ hS hFc _⟩ rfl rfl hl.1 rfl (lv_room (Nat.le_of_ble_eq_true rfl)) dX3_scoreJoined_22 ⟨(Nat.le_of_ble_eq_true rfl), (Nat.le_of_ble_eq_true rfl)⟩) hS (fun q _ h => hFc q h) hFc (fun r u t H1 locs ht hvm hw hB hz1 hk1 hS => ?_)
        refine W.widen (k := 0) (n := 0) (Nat.le_of_ble_eq_true rfl) (Nat.le_of_ble_eq_true rfl) ?_
        obtain ⟨r5, rfl⟩ : ∃ z, z = r := ⟨_, rfl⟩
        obtain ⟨u6, rfl⟩ : ∃ z, z = u := ⟨_, rfl⟩
        have hw7 := hw
        clear hw
        obtain ⟨hP1, hD1⟩ := hB
        rw [ht] at hP1
        obtain ⟨hP, hD⟩ := va_join (wr := [(zq 0, .inr (6, [.ref (zq 1), .ref (zq 3), .ref (zq 5), .ref (zq 7), .ref (zq 9), .ref (zq 11), .int aq, .int fd])), (qo, .inr (4, [.int qk, .int (nI qa), .int (nI qb), .int qd, .int qw, .int qn]))]) (w1 := [(zq 5, .inr (5, [.ref (zq 6)])), (zq 6, .inl (dA 0, 1200, .inl (sjF qk qa qb pt sc i3)))]) hP hD [1, 2] [0, 3] rfl rfl (by decide) (by decide) hk1 hFc hP1 hD1
        generalize H1 = H at hP hS ⊢
        replace hP : va_P D vwCl [(zq 0, .inr (6, [.ref (zq 1), .ref (zq 3), .ref (zq 5), .ref (zq 7), .ref (zq 9), .ref (zq 11), .int aq, .int fd])), (qo, .inr (4, [.int qk, .int (nI qa), .int (nI qb), .int qd, .int qw, .int qn])), (zq 5, .inr (5, [.ref (zq 6)])), (zq 6, .inl (dA 0, 1200, .inl (sjF qk qa qb pt sc i3)))] H := hP
        replace hD : va_D A [(zq 0, .inr (6, [.ref (zq 1), .ref (zq 3), .ref (zq 5), .ref (zq 7), .ref (zq 9), .ref (zq 11), .int aq, .int fd])), (qo, .inr (4, [.int qk, .int (nI qa), .int (nI qb), .int qd, .int qw, .int qn])), (zq 5, .inr (5, [.ref (zq 6)])), (zq 6, .inl (dA 0, 1200, .inl (sjF qk qa qb pt sc i3)))] := hD
        obtain rfl : r5 = sc (30 * qa + i3) := (show r5 = (sjF qk qa qb pt sc i3) (30 * qa + i3) from hw7).trans (sj_rd (by omega))
        refine lv_istore (lv' := [(5, .int (sc (30 * qa + i3))), (4, .int (nI i3)), (0, .ref (zq 0)), (1, .int (nI nd)), (2, .ref qo), (3, .int (nI pt))]) hx hb dX3_scoreJoined_25 hl (by decide) rfl (fun ls hl => ?_)
        refine lv_aload_n hx hb dX3_scoreJoined_27 rfl (lv_at hl 2 rfl) ?_
        refine va_get (D := D) (ci := 6) (v := .ref (zq 5)) (C := RX3) (T := TX3) (N := 8) hx hb hts inAX3 hown hK hP 0 rfl rfl 2 (by decide) (hts _ q315) (fun _ h9 => h9) rfl dX3_scoreJoined_28 ?_
        refine lv_aload_n hx hb dX3_scoreJoined_31 rfl (lv_at hl 4 rfl) ?_
        refine va_getN (D := D) (ci := 4) (v := .int (nI qb)) (C := RX1) (T := TX1) (N := 6) hx hb hts inAX1 hown hK hP 1 rfl rfl 2 (by decide) (va_Nw.use rfl (znF_18 hZ.1)) (fun _ h9 => h9) rfl dX3_scoreJoined_32 ?_
        refine lv_iload hx hb dX3_scoreJoined_35 (lv_at hl 1 rfl) ?_
        replace hPc := hP.sub (ws' := []) [] rfl
        replace hDc := hD.sub (ws' := []) [] (by decide) rfl
        replace hFc := va_free (wc := []) hD hS hA [] rfl
        refine va_calli (va_runS (As := [.int (nI qb), .int (nI i3)]) (rest := [.ref (zq 5)]) ⟨hx, hb, hml, hown, hts⟩ (z_cell l D dA E qb i3 H.size  (by omega) (by omega)) (va_cwS 2 hts (ga_S q441 q442 q341 q440) rfl rfl rfl (by decide +kernel) ⟨(Nat.le_of_ble_eq_true rfl), (Nat.le_of_ble_eq_true rfl)⟩) ⟨pb_blind, pb_pre hK hPc hDc hZ hS hFc _⟩ rfl rfl hl.1 rfl (lv_room (Nat.le_of_ble_eq_true rfl)) dX3_scoreJoined_37 ⟨(Nat.le_of_ble_eq_true rfl), (Nat.le_of_ble_eq_true rfl)⟩) hS (fun q _ h => hFc q h) hFc (fun r u t H1 locs ht hvm hw hB hz1 hk1 hS => ?_)
        refine W.widen (k := 0) (n := 0) (Nat.le_of_ble_eq_true rfl) (Nat.le_of_ble_eq_true rfl) ?_
        obtain ⟨r8, rfl⟩ : ∃ z, z = r := ⟨_, rfl⟩
        obtain ⟨u9, rfl⟩ : ∃ z, z = u := ⟨_, rfl⟩
        have hw10 := hw
        clear hw
        obtain ⟨hP1, hD1⟩ := hB
        rw [ht] at hP1
        obtain ⟨hP, hD⟩ := va_join (wr := [(zq 0, .inr (6, [.ref (zq 1), .ref (zq 3), .ref (zq 5), .ref (zq 7), .ref (zq 9), .ref (zq 11), .int aq, .int fd])), (qo, .inr (4, [.int qk, .int (nI qa), .int (nI qb), .int qd, .int qw, .int qn])), (zq 5, .inr (5, [.ref (zq 6)])), (zq 6, .inl (dA 0, 1200, .inl (sjF qk qa qb pt sc i3)))]) (w1 := []) hP hD [] [0, 1, 2, 3] rfl rfl (by decide) (by decide) hk1 hFc hP1 hD1
        generalize H1 = H at hP hS ⊢
        replace hP : va_P D vwCl [(zq 0, .inr (6, [.ref (zq 1), .ref (zq 3), .ref (zq 5), .ref (zq 7), .ref (zq 9), .ref (zq 11), .int aq, .int fd])), (qo, .inr (4, [.int qk, .int (nI qa), .int (nI qb), .int qd, .int qw, .int qn])), (zq 5, .inr (5, [.ref (zq 6)])), (zq 6, .inl (dA 0, 1200, .inl (sjF qk qa qb pt sc i3)))] H := hP
        replace hD : va_D A [(zq 0, .inr (6, [.ref (zq 1), .ref (zq 3), .ref (zq 5), .ref (zq 7), .ref (zq 9), .ref (zq 11), .int aq, .int fd])), (qo, .inr (4, [.int qk, .int (nI qa), .int (nI qb), .int qd, .int qw, .int qn])), (zq 5, .inr (5, [.ref (zq 6)])), (zq 6, .inl (dA 0, 1200, .inl (sjF qk qa qb pt sc i3)))] := hD
        obtain rfl : r8 = nI (30 * qb + i3) := hw10
        replace hPc := hP.sub (ws' := [(zq 5, .inr (5, [.ref (zq 6)])), (zq 6, .inl (dA 0, 1200, .inl (sjF qk qa qb pt sc i3)))]) [2, 3] rfl
        replace hDc := hD.sub (ws' := [(zq 5, .inr (5, [.ref (zq 6)])), (zq 6, .inl (dA 0, 1200, .inl (sjF qk qa qb pt sc i3)))]) [2, 3] (by decide) rfl
        replace hFc := va_free (wc := [(zq 5, .inr (5, [.ref (zq 6)])), (zq 6, .inl (dA 0, 1200, .inl (sjF qk qa qb pt sc i3)))]) hD hS hA [2, 3] rfl
        refine va_calli (va_runV (As := [.int (nI (30 * qb + i3))]) (rest := []) ⟨hx, hb, hml, hown, hts⟩ (t_getN l D dA E (zq 5) (zq 6) 1200 (sjF qk qa qb pt sc i3) (30 * qb + i3) H.size  (by omega) (by decide)) (cwV 1 hts (ga_V q438 q203 q200 q204 q201) rfl rfl rfl (by decide +kernel) ⟨(Nat.le_of_ble_eq_true rfl), (Nat.le_of_ble_eq_true rfl)⟩) ⟨pb_blind, va_recv hK hPc (ci := 5) (q0 := 0) rfl rfl, pb_pre hK hPc hDc hZ hS hFc _⟩ rfl rfl hl.1 rfl (lv_room (Nat.le_of_ble_eq_true rfl)) dX3_scoreJoined_40 ⟨(Nat.le_of_ble_eq_true rfl), (Nat.le_of_ble_eq_true rfl)⟩) hS (fun q _ h => hFc q h) hFc (fun r u t H1 locs ht hvm hw hB hz1 hk1 hS => ?_)
        refine W.widen (k := 0) (n := 0) (Nat.le_of_ble_eq_true rfl) (Nat.le_of_ble_eq_true rfl) ?_
        obtain ⟨r11, rfl⟩ : ∃ z, z = r := ⟨_, rfl⟩
        obtain ⟨u12, rfl⟩ : ∃ z, z = u := ⟨_, rfl⟩
        have hw13 := hw
        clear hw
        obtain ⟨hP1, hD1⟩ := hB
        rw [ht] at hP1
        obtain ⟨hP, hD⟩ := va_join (wr := [(zq 0, .inr (6, [.ref (zq 1), .ref (zq 3), .ref (zq 5), .ref (zq 7), .ref (zq 9), .ref (zq 11), .int aq, .int fd])), (qo, .inr (4, [.int qk, .int (nI qa), .int (nI qb), .int qd, .int qw, .int qn]))]) (w1 := [(zq 5, .inr (5, [.ref (zq 6)])), (zq 6, .inl (dA 0, 1200, .inl (sjF qk qa qb pt sc i3)))]) hP hD [2, 3] [0, 1] rfl rfl (by decide) (by decide) hk1 hFc hP1 hD1
        generalize H1 = H at hP hS ⊢
        replace hP : va_P D vwCl [(zq 0, .inr (6, [.ref (zq 1), .ref (zq 3), .ref (zq 5), .ref (zq 7), .ref (zq 9), .ref (zq 11), .int aq, .int fd])), (qo, .inr (4, [.int qk, .int (nI qa), .int (nI qb), .int qd, .int qw, .int qn])), (zq 5, .inr (5, [.ref (zq 6)])), (zq 6, .inl (dA 0, 1200, .inl (sjF qk qa qb pt sc i3)))] H := hP
        replace hD : va_D A [(zq 0, .inr (6, [.ref (zq 1), .ref (zq 3), .ref (zq 5), .ref (zq 7), .ref (zq 9), .ref (zq 11), .int aq, .int fd])), (qo, .inr (4, [.int qk, .int (nI qa), .int (nI qb), .int qd, .int qw, .int qn])), (zq 5, .inr (5, [.ref (zq 6)])), (zq 6, .inl (dA 0, 1200, .inl (sjF qk qa qb pt sc i3)))] := hD
        obtain rfl : r11 = sc (30 * qb + i3) := (show r11 = (sjF qk qa qb pt sc i3) (30 * qb + i3) from hw13).trans (sj_rd (by omega))
        refine lv_istore (lv' := [(6, .int (sc (30 * qb + i3))), (5, .int (sc (30 * qa + i3))), (4, .int (nI i3)), (0, .ref (zq 0)), (1, .int (nI nd)), (2, .ref qo), (3, .int (nI pt))]) hx hb dX3_scoreJoined_43 hl (by decide) rfl (fun ls hl => ?_)
        refine lv_aload_n hx hb dX3_scoreJoined_45 rfl (lv_at hl 3 rfl) ?_
        refine va_get (D := D) (ci := 6) (v := .ref (zq 5)) (C := RX3) (T := TX3) (N := 8) hx hb hts inAX3 hown hK hP 0 rfl rfl 2 (by decide) (hts _ q315) (fun _ h9 => h9) rfl dX3_scoreJoined_46 ?_
        refine lv_iload_n hx hb dX3_scoreJoined_49 rfl (lv_at hl 6 rfl) ?_
        refine lv_iload hx hb dX3_scoreJoined_50 (lv_at hl 2 rfl) ?_
        replace hPc := hP.sub (ws' := []) [] rfl
        replace hDc := hD.sub (ws' := []) [] (by decide) rfl
        replace hFc := va_free (wc := []) hD hS hA [] rfl
        refine va_calli (va_runS (As := [.int (nI pt), .int (nI i3)]) (rest := [.ref (zq 5)]) ⟨hx, hb, hml, hown, hts⟩ (z_cell l D dA E pt i3 H.size  (by omega) (by omega)) (va_cwS 2 hts (ga_S q441 q442 q341 q440) rfl rfl rfl (by decide +kernel) ⟨(Nat.le_of_ble_eq_true rfl), (Nat.le_of_ble_eq_true rfl)⟩) ⟨pb_blind, pb_pre hK hPc hDc hZ hS hFc _⟩ rfl rfl hl.1 rfl (lv_room (Nat.le_of_ble_eq_true rfl)) dX3_scoreJoined_52 ⟨(Nat.le_of_ble_eq_true rfl), (Nat.le_of_ble_eq_true rfl)⟩) hS (fun q _ h => hFc q h) hFc (fun r u t H1 locs ht hvm hw hB hz1 hk1 hS => ?_)
        refine W.widen (k := 0) (n := 0) (Nat.le_of_ble_eq_true rfl) (Nat.le_of_ble_eq_true rfl) ?_
        obtain ⟨r14, rfl⟩ : ∃ z, z = r := ⟨_, rfl⟩
        obtain ⟨u15, rfl⟩ : ∃ z, z = u := ⟨_, rfl⟩
        have hw16 := hw
        clear hw
        obtain ⟨hP1, hD1⟩ := hB
        rw [ht] at hP1
        obtain ⟨hP, hD⟩ := va_join (wr := [(zq 0, .inr (6, [.ref (zq 1), .ref (zq 3), .ref (zq 5), .ref (zq 7), .ref (zq 9), .ref (zq 11), .int aq, .int fd])), (qo, .inr (4, [.int qk, .int (nI qa), .int (nI qb), .int qd, .int qw, .int qn])), (zq 5, .inr (5, [.ref (zq 6)])), (zq 6, .inl (dA 0, 1200, .inl (sjF qk qa qb pt sc i3)))]) (w1 := []) hP hD [] [0, 1, 2, 3] rfl rfl (by decide) (by decide) hk1 hFc hP1 hD1
        generalize H1 = H at hP hS ⊢
        replace hP : va_P D vwCl [(zq 0, .inr (6, [.ref (zq 1), .ref (zq 3), .ref (zq 5), .ref (zq 7), .ref (zq 9), .ref (zq 11), .int aq, .int fd])), (qo, .inr (4, [.int qk, .int (nI qa), .int (nI qb), .int qd, .int qw, .int qn])), (zq 5, .inr (5, [.ref (zq 6)])), (zq 6, .inl (dA 0, 1200, .inl (sjF qk qa qb pt sc i3)))] H := hP
        replace hD : va_D A [(zq 0, .inr (6, [.ref (zq 1), .ref (zq 3), .ref (zq 5), .ref (zq 7), .ref (zq 9), .ref (zq 11), .int aq, .int fd])), (qo, .inr (4, [.int qk, .int (nI qa), .int (nI qb), .int qd, .int qw, .int qn])), (zq 5, .inr (5, [.ref (zq 6)])), (zq 6, .inl (dA 0, 1200, .inl (sjF qk qa qb pt sc i3)))] := hD
        obtain rfl : r14 = nI (30 * pt + i3) := hw16
        refine lv_aload_n hx hb dX3_scoreJoined_55 rfl (lv_at hl 5 rfl) ?_
        refine lv_iload hx hb dX3_scoreJoined_56 (lv_at hl 1 rfl) ?_
        refine lv_iload hx hb dX3_scoreJoined_58 (lv_at hl 0 rfl) ?_
        replace hPc := hP.sub (ws' := [(qo, .inr (4, [.int qk, .int (nI qa), .int (nI qb), .int qd, .int qw, .int qn]))]) [1] rfl
        replace hDc := hD.sub (ws' := [(qo, .inr (4, [.int qk, .int (nI qa), .int (nI qb), .int qd, .int qw, .int qn]))]) [1] (by decide) rfl
        replace hFc := va_free (wc := [(qo, .inr (4, [.int qk, .int (nI qa), .int (nI qb), .int qd, .int qw, .int qn]))]) hD hS hA [1] rfl
        refine va_calli (va_runV (As := [.int (sc (30 * qa + i3)), .int (sc (30 * qb + i3))]) (rest := [.int (nI (30 * pt + i3)), .ref (zq 5)]) ⟨hx, hb, hml, hown, hts⟩ (q_joinScores l D dA E qo qk (nI qa) (nI qb) qd qw qn (sc (30 * qa + i3)) (sc (30 * qb + i3)) H.size ) (cwV 2 hts (ga_V q447 q448 q445 q414 q446) rfl rfl rfl (by decide +kernel) ⟨(Nat.le_of_ble_eq_true rfl), (Nat.le_of_ble_eq_true rfl)⟩) ⟨pb_blind, va_recv hK hPc (ci := 4) (q0 := 0) rfl rfl, pb_pre hK hPc hDc hZ hS hFc _⟩ rfl rfl hl.1 rfl (lv_room (Nat.le_of_ble_eq_true rfl)) dX3_scoreJoined_60 ⟨(Nat.le_of_ble_eq_true rfl), (Nat.le_of_ble_eq_true rfl)⟩) hS (fun q _ h => hFc q h) hFc (fun r u t H1 locs ht hvm hw hB hz1 hk1 hS => ?_)
        refine W.widen (k := 0) (n := 0) (Nat.le_of_ble_eq_true rfl) (Nat.le_of_ble_eq_true rfl) ?_
        obtain ⟨r17, rfl⟩ : ∃ z, z = r := ⟨_, rfl⟩
        obtain ⟨u18, rfl⟩ : ∃ z, z = u := ⟨_, rfl⟩
        have hw19 := hw
        clear hw
        obtain ⟨hP1, hD1⟩ := hB
        rw [ht] at hP1
        obtain ⟨hP, hD⟩ := va_join (wr := [(zq 0, .inr (6, [.ref (zq 1), .ref (zq 3), .ref (zq 5), .ref (zq 7), .ref (zq 9), .ref (zq 11), .int aq, .int fd])), (zq 5, .inr (5, [.ref (zq 6)])), (zq 6, .inl (dA 0, 1200, .inl (sjF qk qa qb pt sc i3)))]) (w1 := [(qo, .inr (4, [.int qk, .int (nI qa), .int (nI qb), .int qd, .int qw, .int qn]))]) hP hD [1] [0, 2, 3] rfl rfl (by decide) (by decide) hk1 hFc hP1 hD1
        generalize H1 = H at hP hS ⊢
        replace hP : va_P D vwCl [(zq 0, .inr (6, [.ref (zq 1), .ref (zq 3), .ref (zq 5), .ref (zq 7), .ref (zq 9), .ref (zq 11), .int aq, .int fd])), (zq 5, .inr (5, [.ref (zq 6)])), (zq 6, .inl (dA 0, 1200, .inl (sjF qk qa qb pt sc i3))), (qo, .inr (4, [.int qk, .int (nI qa), .int (nI qb), .int qd, .int qw, .int qn]))] H := hP
        replace hD : va_D A [(zq 0, .inr (6, [.ref (zq 1), .ref (zq 3), .ref (zq 5), .ref (zq 7), .ref (zq 9), .ref (zq 11), .int aq, .int fd])), (zq 5, .inr (5, [.ref (zq 6)])), (zq 6, .inl (dA 0, 1200, .inl (sjF qk qa qb pt sc i3))), (qo, .inr (4, [.int qk, .int (nI qa), .int (nI qb), .int qd, .int qw, .int qn]))] := hD
        obtain rfl : r17 = jsF qk (sc (30 * qa + i3)) (sc (30 * qb + i3)) := hw19
        replace hPc := hP.sub (ws' := [(zq 5, .inr (5, [.ref (zq 6)])), (zq 6, .inl (dA 0, 1200, .inl (sjF qk qa qb pt sc i3)))]) [1, 2] rfl
        replace hDc := hD.sub (ws' := [(zq 5, .inr (5, [.ref (zq 6)])), (zq 6, .inl (dA 0, 1200, .inl (sjF qk qa qb pt sc i3)))]) [1, 2] (by decide) rfl
        replace hFc := va_free (wc := [(zq 5, .inr (5, [.ref (zq 6)])), (zq 6, .inl (dA 0, 1200, .inl (sjF qk qa qb pt sc i3)))]) hD hS hA [1, 2] rfl
        refine va_callv (va_runV (As := [.int (nI (30 * pt + i3)), .int (jsF qk (sc (30 * qa + i3)) (sc (30 * qb + i3)))]) (rest := []) ⟨hx, hb, hml, hown, hts⟩ (t_putN l D dA E (zq 5) (zq 6) 1200 (sjF qk qa qb pt sc i3) (30 * pt + i3) (jsF qk (sc (30 * qa + i3)) (sc (30 * qb + i3))) H.size  (by omega) (by decide)) (cwV 2 hts (ga_V q444 q210 q207 q204 q208) rfl rfl rfl (by decide +kernel) ⟨(Nat.le_of_ble_eq_true rfl), (Nat.le_of_ble_eq_true rfl)⟩) ⟨pb_blind, va_recv hK hPc (ci := 5) (q0 := 0) rfl rfl, pb_pre hK hPc hDc hZ hS hFc _⟩ rfl rfl hl.1 rfl (lv_room (Nat.le_of_ble_eq_true rfl)) dX3_scoreJoined_63 ⟨(Nat.le_of_ble_eq_true rfl), (Nat.le_of_ble_eq_true rfl)⟩) hS (fun q _ h => hFc q h) hFc (fun u t H1 locs ht hvm hw hB hz1 hk1 hS => ?_)
        refine W.widen (k := 0) (n := 0) (Nat.le_of_ble_eq_true rfl) (Nat.le_of_ble_eq_true rfl) ?_
        obtain ⟨u20, rfl⟩ : ∃ z, z = u := ⟨_, rfl⟩
        have hw21 := hw
        clear hw
        obtain ⟨hP1, hD1⟩ := hB
        rw [ht] at hP1
        obtain ⟨hP, hD⟩ := va_join (wr := [(zq 0, .inr (6, [.ref (zq 1), .ref (zq 3), .ref (zq 5), .ref (zq 7), .ref (zq 9), .ref (zq 11), .int aq, .int fd])), (qo, .inr (4, [.int qk, .int (nI qa), .int (nI qb), .int qd, .int qw, .int qn]))]) (w1 := [(zq 5, .inr (5, [.ref (zq 6)])), (zq 6, .inl (dA 0, 1200, .inl (upd (sjF qk qa qb pt sc i3) (30 * pt + i3) (jsF qk (sc (30 * qa + i3)) (sc (30 * qb + i3))))))]) hP hD [1, 2] [0, 3] rfl rfl (by decide) (by decide) hk1 hFc hP1 hD1
        generalize H1 = H at hP hS ⊢
        replace hP : va_P D vwCl [(zq 0, .inr (6, [.ref (zq 1), .ref (zq 3), .ref (zq 5), .ref (zq 7), .ref (zq 9), .ref (zq 11), .int aq, .int fd])), (qo, .inr (4, [.int qk, .int (nI qa), .int (nI qb), .int qd, .int qw, .int qn])), (zq 5, .inr (5, [.ref (zq 6)])), (zq 6, .inl (dA 0, 1200, .inl (upd (sjF qk qa qb pt sc i3) (30 * pt + i3) (jsF qk (sc (30 * qa + i3)) (sc (30 * qb + i3))))))] H := hP
        replace hD : va_D A [(zq 0, .inr (6, [.ref (zq 1), .ref (zq 3), .ref (zq 5), .ref (zq 7), .ref (zq 9), .ref (zq 11), .int aq, .int fd])), (qo, .inr (4, [.int qk, .int (nI qa), .int (nI qb), .int qd, .int qw, .int qn])), (zq 5, .inr (5, [.ref (zq 6)])), (zq 6, .inl (dA 0, 1200, .inl (upd (sjF qk qa qb pt sc i3) (30 * pt + i3) (jsF qk (sc (30 * qa + i3)) (sc (30 * qb + i3))))))] := hD
        refine lv_iinc (v := nI (i3 + 1)) (lv' := [(4, .int (nI (i3 + 1))), (6, .int (sc (30 * qb + i3))), (5, .int (sc (30 * qa + i3))), (0, .ref (zq 0)), (1, .int (nI nd)), (2, .ref qo), (3, .int (nI pt))]) hx hb dX3_scoreJoined_66 hl (k := 2) rfl (nI_add i3 1) (by decide) rfl (fun ls hl => ?_)
        refine lv_goto (tgt := 3) hx hb dX3_scoreJoined_69 (by decide) ?_
        replace hP := hP.sub (ws' := [(zq 0, .inr (6, [.ref (zq 1), .ref (zq 3), .ref (zq 5), .ref (zq 7), .ref (zq 9), .ref (zq 11), .int aq, .int fd])), (zq 5, .inr (5, [.ref (zq 6)])), (zq 6, .inl (dA 0, 1200, .inl (upd (sjF qk qa qb pt sc i3) (30 * pt + i3) (jsF qk (sc (30 * qa + i3)) (sc (30 * qb + i3)))))), (qo, .inr (4, [.int qk, .int (nI qa), .int (nI qb), .int qd, .int qw, .int qn]))]) [0, 2, 3, 1] rfl
        replace hD := hD.sub (ws' := [(zq 0, .inr (6, [.ref (zq 1), .ref (zq 3), .ref (zq 5), .ref (zq 7), .ref (zq 9), .ref (zq 11), .int aq, .int fd])), (zq 5, .inr (5, [.ref (zq 6)])), (zq 6, .inl (dA 0, 1200, .inl (upd (sjF qk qa qb pt sc i3) (30 * pt + i3) (jsF qk (sc (30 * qa + i3)) (sc (30 * qb + i3)))))), (qo, .inr (4, [.int qk, .int (nI qa), .int (nI qb), .int qd, .int qw, .int qn]))]) [0, 2, 3, 1] (by decide) rfl
        exact ih3 (i3 + 1) (upd (sjF qk qa qb pt sc i3) (30 * pt + i3) (jsF qk (sc (30 * qa + i3)) (sc (30 * qb + i3)))) (by omega) (by omega) (by omega) sj_s _ _ hP hD hS ls (lv_sub hl [0, 3, 4, 5, 6] rfl)
  exact K3 (nd + 1) 0 sc (by omega) (by omega) (by omega) sj_0 _ _ hP hD hS ls hl
