/-! CONTRACTS, general -/
set_option maxHeartbeats 4000000 in
set_option maxRecDepth 100000 in
theorem s_listPresent (l : Launch) (D : va_G) (dA : Nat → ClassId) (E : Nat) (z : Nat → Nat) (tS tG : Nat → Int32) (nd nsg : Nat) (h r0 : Nat) (tL : Nat → Int32) (sz : Nat) (hnd : nd ≤ 30) (hnsg : nsg ≤ 1000) (hAC : AC tS)  : Met l yX4_listPresent (wq (.code yX4_listPresent cX4_listPresent 4 (some .int))) { frames := 2, cells := 0, slots := 0, locals := 42 } (va_Pc [.ref (z 0), .ref h] (PcB D dA E [(z 0, .inr (7, [.ref (z 1), .ref (z 3), .int (nI nd), .int (nI nsg)])), (z 1, .inr (5, [.ref (z 2)])), (z 2, .inl (dA 0, 30, .inl tS)), (z 3, .inr (5, [.ref (z 4)])), (z 4, .inl (dA 0, 30, .inl tG)), (h, .inr (5, [.ref r0])), (r0, .inl (dA 0, 30, .inl tL))] sz)) (va_Qi (fun (r : Int32) (u : Unit) => r = nI (cn (fun d => decide (tS d = 115)) nd)) (fun u t => va_P D vwCl [(z 0, .inr (7, [.ref (z 1), .ref (z 3), .int (nI nd), .int (nI nsg)])), (z 1, .inr (5, [.ref (z 2)])), (z 2, .inl (dA 0, 30, .inl tS)), (z 3, .inr (5, [.ref (z 4)])), (z 4, .inl (dA 0, 30, .inl tG)), (h, .inr (5, [.ref r0])), (r0, .inl (dA 0, 30, .inl (fl (fun d => bI (decide (tS d = 115))) (fl (fun _ => 0) tL 30) nd)))] t.heap ∧ va_D (va_A [(z 0, .inr (7, [.ref (z 1), .ref (z 3), .int (nI nd), .int (nI nsg)])), (z 1, .inr (5, [.ref (z 2)])), (z 2, .inl (dA 0, 30, .inl tS)), (z 3, .inr (5, [.ref (z 4)])), (z 4, .inl (dA 0, 30, .inl tG)), (h, .inr (5, [.ref r0])), (r0, .inl (dA 0, 30, .inl tL))] sz) [(z 0, .inr (7, [.ref (z 1), .ref (z 3), .int (nI nd), .int (nI nsg)])), (z 1, .inr (5, [.ref (z 2)])), (z 2, .inl (dA 0, 30, .inl tS)), (z 3, .inr (5, [.ref (z 4)])), (z 4, .inl (dA 0, 30, .inl tG)), (h, .inr (5, [.ref r0])), (r0, .inl (dA 0, 30, .inl (fl (fun d => bI (decide (tS d = 115))) (fl (fun _ => 0) tL 30) nd)))]) (va_A [(z 0, .inr (7, [.ref (z 1), .ref (z 3), .int (nI nd), .int (nI nsg)])), (z 1, .inr (5, [.ref (z 2)])), (z 2, .inl (dA 0, 30, .inl tS)), (z 3, .inr (5, [.ref (z 4)])), (z 4, .inl (dA 0, 30, .inl tG)), (h, .inr (5, [.ref r0])), (r0, .inl (dA 0, 30, .inl tL))] sz)) 0 0 (va_A [(z 0, .inr (7, [.ref (z 1), .ref (z 3), .int (nI nd), .int (nI nsg)])), (z 1, .inr (5, [.ref (z 2)])), (z 2, .inl (dA 0, 30, .inl tS)), (z 3, .inr (5, [.ref (z 4)])), (z 4, .inl (dA 0, 30, .inl tG)), (h, .inr (5, [.ref r0])), (r0, .inl (dA 0, 30, .inl tL))] sz) := by
  refine mb_of (Qc := fun A => va_Qi (fun (r : Int32) (u : Unit) => r = nI (cn (fun d => decide (tS d = 115)) nd)) (fun u t => va_P D vwCl [(z 0, .inr (7, [.ref (z 1), .ref (z 3), .int (nI nd), .int (nI nsg)])), (z 1, .inr (5, [.ref (z 2)])), (z 2, .inl (dA 0, 30, .inl tS)), (z 3, .inr (5, [.ref (z 4)])), (z 4, .inl (dA 0, 30, .inl tG)), (h, .inr (5, [.ref r0])), (r0, .inl (dA 0, 30, .inl (fl (fun d => bI (decide (tS d = 115))) (fl (fun _ => 0) tL 30) nd)))] t.heap ∧ va_D A [(z 0, .inr (7, [.ref (z 1), .ref (z 3), .int (nI nd), .int (nI nsg)])), (z 1, .inr (5, [.ref (z 2)])), (z 2, .inl (dA 0, 30, .inl tS)), (z 3, .inr (5, [.ref (z 4)])), (z 4, .inl (dA 0, 30, .inl tG)), (h, .inr (5, [.ref r0])), (r0, .inl (dA 0, 30, .inl (fl (fun d => bI (decide (tS d = 115))) (fl (fun _ => 0) tL 30) nd)))]) A) RX4 rfl (by decide) (Nat.le_of_ble_eq_true rfl) ?_
  intro p e s m args below meth c hae hx hb hr hts hown hlocks hml hnm hP hK A hAe hD hZ hS hA ls hl
  replace hl : lv_has ls 4 [(0, .ref (z 0)), (1, .ref h)] := hl
  refine lv_iconst (v := 0) hx hb dX4_listPresent_0 (by decide) ?_
  refine lv_istore_n (lv' := [(2, .int 0), (0, .ref (z 0)), (1, .ref h)]) hx hb dX4_listPresent_1 rfl hl (by decide) rfl (fun ls hl => ?_)
  refine lv_aload_n hx hb dX4_listPresent_2 rfl (lv_at hl 2 rfl) ?_
  refine lv_iconst (v := 0) hx hb dX4_listPresent_3 (by decide) ?_
  replace hPc := hP.sub (ws' := [(h, .inr (5, [.ref r0])), (r0, .inl (dA 0, 30, .inl tL))]) [5, 6] rfl
  replace hDc := hD.sub (ws' := [(h, .inr (5, [.ref r0])), (r0, .inl (dA 0, 30, .inl tL))]) [5, 6] (by decide) rfl
  replace hFc := va_free (wc := [(h, .inr (5, [.ref r0])), (r0, .inl (dA 0, 30, .inl tL))]) hD hS hA [5, 6] rfl
  refine va_callv (va_runV (As := [.int 0]) (rest := []) ⟨hx, hb, hml, hown, hts⟩ (t_fill l D dA E h r0 30 tL 0 s.heap.size  (by decide)) (cwV 1 hts (ga_V q260 q261 q258 q204 q259) rfl rfl rfl (by decide +kernel) ⟨(Nat.le_of_ble_eq_true rfl), (Nat.le_of_ble_eq_true rfl)⟩) ⟨pb_blind, va_recv hK hPc (ci := 5) (q0 := 0) rfl rfl, pb_pre hK hPc hDc hZ hS hFc _⟩ rfl rfl hl.1 rfl (lv_room (Nat.le_of_ble_eq_true rfl)) dX4_listPresent_4 ⟨(Nat.le_of_ble_eq_true rfl), (Nat.le_of_ble_eq_true rfl)⟩) hS (fun q _ h => hFc q h) hFc (fun u t H1 locs ht hvm hw hB hz1 hk1 hS => ?_)
  refine W.widen (k := 0) (n := 0) (Nat.le_of_ble_eq_true rfl) (Nat.le_of_ble_eq_true rfl) ?_
  obtain ⟨u1, rfl⟩ : ∃ z, z = u := ⟨_, rfl⟩
  have hw2 := hw
  clear hw
  obtain ⟨hP1, hD1⟩ := hB
  rw [ht] at hP1
  obtain ⟨hP, hD⟩ := va_join (wr := [(z 0, .inr (7, [.ref (z 1), .ref (z 3), .int (nI nd), .int (nI nsg)])), (z 1, .inr (5, [.ref (z 2)])), (z 2, .inl (dA 0, 30, .inl tS)), (z 3, .inr (5, [.ref (z 4)])), (z 4, .inl (dA 0, 30, .inl tG))]) (w1 := [(h, .inr (5, [.ref r0])), (r0, .inl (dA 0, 30, .inl (fl (fun _ => 0) tL 30)))]) hP hD [5, 6] [0, 1, 2, 3, 4] rfl rfl (by decide) (by decide) hk1 hFc hP1 hD1
  generalize H1 = H at hP hS ⊢
  replace hP : va_P D vwCl [(z 0, .inr (7, [.ref (z 1), .ref (z 3), .int (nI nd), .int (nI nsg)])), (z 1, .inr (5, [.ref (z 2)])), (z 2, .inl (dA 0, 30, .inl tS)), (z 3, .inr (5, [.ref (z 4)])), (z 4, .inl (dA 0, 30, .inl tG)), (h, .inr (5, [.ref r0])), (r0, .inl (dA 0, 30, .inl (fl (fun _ => 0) tL 30)))] H := hP
  replace hD : va_D A [(z 0, .inr (7, [.ref (z 1), .ref (z 3), .int (nI nd), .int (nI nsg)])), (z 1, .inr (5, [.ref (z 2)])), (z 2, .inl (dA 0, 30, .inl tS)), (z 3, .inr (5, [.ref (z 4)])), (z 4, .inl (dA 0, 30, .inl tG)), (h, .inr (5, [.ref r0])), (r0, .inl (dA 0, 30, .inl (fl (fun _ => 0) tL 30)))] := hD
  refine lv_iconst (v := 0) hx hb dX4_listPresent_7 (by decide) ?_
  refine lv_istore_n (lv' := [(3, .int 0), (2, .int 0), (0, .ref (z 0)), (1, .ref h)]) hx hb dX4_listPresent_8 rfl hl (by decide) rfl (fun ls hl => ?_)
  have K9 : ∀ (k9 i9 : Nat) (g9_0 : Nat → Int32) (g9_1 : Int32), 0 ≤ i9 → i9 ≤ nd → nd < i9 + k9 → (g9_0 = fl (fun d => bI (decide (tS d = 115))) (fl (fun _ => 0) tL 30) i9) ∧ (g9_1 = nI (cn (fun d => decide (tS d = 115)) i9)) → ∀ (H : Heap) (locs : List Loc), va_P D vwCl [(z 0, .inr (7, [.ref (z 1), .ref (z 3), .int (nI nd), .int (nI nsg)])), (z 1, .inr (5, [.ref (z 2)])), (z 2, .inl (dA 0, 30, .inl tS)), (z 3, .inr (5, [.ref (z 4)])), (z 4, .inl (dA 0, 30, .inl tG)), (h, .inr (5, [.ref r0])), (r0, .inl (dA 0, 30, .inl g9_0))] H → va_D A [(z 0, .inr (7, [.ref (z 1), .ref (z 3), .int (nI nd), .int (nI nsg)])), (z 1, .inr (5, [.ref (z 2)])), (z 2, .inl (dA 0, 30, .inl tS)), (z 3, .inr (5, [.ref (z 4)])), (z 4, .inl (dA 0, 30, .inl tG)), (h, .inr (5, [.ref r0])), (r0, .inl (dA 0, 30, .inl g9_0))] → va_S A s.heap H locs → ∀ ls : Array Slot, lv_has ls 4 [(3, .int (nI i9)), (2, .int g9_1), (0, .ref (z 0)), (1, .ref h)] → W p l e { frames := 2, cells := 0, slots := 0, locals := 42 } s m args below meth c H locs 0 0 (MQ below (va_Qi (fun (r : Int32) (u : Unit) => r = nI (cn (fun d => decide (tS d = 115)) nd)) (fun u t => va_P D vwCl [(z 0, .inr (7, [.ref (z 1), .ref (z 3), .int (nI nd), .int (nI nsg)])), (z 1, .inr (5, [.ref (z 2)])), (z 2, .inl (dA 0, 30, .inl tS)), (z 3, .inr (5, [.ref (z 4)])), (z 4, .inl (dA 0, 30, .inl tG)), (h, .inr (5, [.ref r0])), (r0, .inl (dA 0, 30, .inl (fl (fun d => bI (decide (tS d = 115))) (fl (fun _ => 0) tL 30) nd)))] t.heap ∧ va_D A [(z 0, .inr (7, [.ref (z 1), .ref (z 3), .int (nI nd), .int (nI nsg)])), (z 1, .inr (5, [.ref (z 2)])), (z 2, .inl (dA 0, 30, .inl tS)), (z 3, .inr (5, [.ref (z 4)])), (z 4, .inl (dA 0, 30, .inl tG)), (h, .inr (5, [.ref r0])), (r0, .inl (dA 0, 30, .inl (fl (fun d => bI (decide (tS d = 115))) (fl (fun _ => 0) tL 30) nd)))]) A) args s 0 0 A) (F0 m 9 ls []) := by
    intro k9
    induction k9 with
    | zero => intro i9 g9_0 g9_1 h1 h2 h3; exact absurd h3 (by omega)
    | succ k9 ih9 =>
      intro i9 g9_0 g9_1 hlo9 hhi9 hms9 hinv9 H locs hP hD hS ls hl
      obtain ⟨eg9_0, eg9_1⟩ := hinv9
      subst eg9_0
      subst eg9_1
      have hcn := cn_le (fun d => decide (tS d = 115)) i9
      refine lv_iload_n hx hb dX4_listPresent_9 rfl (lv_at hl 0 rfl) ?_
      refine lv_aload_n hx hb dX4_listPresent_10 rfl (lv_at hl 2 rfl) ?_
      refine va_get (D := D) (ci := 7) (v := .int (nI nd)) (C := RX4) (T := TX4) (N := 4) hx hb hts inAX4 hown hK hP 0 rfl rfl 2 (by decide) (hts _ q243) (fun _ h9 => h9) rfl dX4_listPresent_11 ?_
      refine lv_icmp_ge (tgt := 45) hx hb dX4_listPresent_14 (by decide) (fun c3 => ?_) (fun c3 => ?_)
      · replace c3 := (nI_leI (a := nd) (b := i9) (by omega) (by omega)).mp c3
        obtain rfl : nd = i9 := (by omega)
        replace hP : va_P D vwCl [(z 0, .inr (7, [.ref (z 1), .ref (z 3), .int (nI nd), .int (nI nsg)])), (z 1, .inr (5, [.ref (z 2)])), (z 2, .inl (dA 0, 30, .inl tS)), (z 3, .inr (5, [.ref (z 4)])), (z 4, .inl (dA 0, 30, .inl tG)), (h, .inr (5, [.ref r0])), (r0, .inl (dA 0, 30, .inl (fl (fun d => bI (decide (tS d = 115))) (fl (fun _ => 0) tL 30) nd)))] H := hP
        replace hD : va_D A [(z 0, .inr (7, [.ref (z 1), .ref (z 3), .int (nI nd), .int (nI nsg)])), (z 1, .inr (5, [.ref (z 2)])), (z 2, .inl (dA 0, 30, .inl tS)), (z 3, .inr (5, [.ref (z 4)])), (z 4, .inl (dA 0, 30, .inl tG)), (h, .inr (5, [.ref r0])), (r0, .inl (dA 0, 30, .inl (fl (fun d => bI (decide (tS d = 115))) (fl (fun _ => 0) tL 30) nd)))] := hD
        refine lv_iload_n hx hb dX4_listPresent_45 rfl (lv_at hl 1 rfl) ?_
        refine W.widen (k := 0) (n := 0) (Nat.le_of_ble_eq_true rfl) (Nat.le_of_ble_eq_true rfl) ?_
        have hP9 := hP.sub (ws' := [(z 0, .inr (7, [.ref (z 1), .ref (z 3), .int (nI nd), .int (nI nsg)])), (z 1, .inr (5, [.ref (z 2)])), (z 2, .inl (dA 0, 30, .inl tS)), (z 3, .inr (5, [.ref (z 4)])), (z 4, .inl (dA 0, 30, .inl tG)), (h, .inr (5, [.ref r0])), (r0, .inl (dA 0, 30, .inl (fl (fun d => bI (decide (tS d = 115))) (fl (fun _ => 0) tL 30) nd)))]) [0, 1, 2, 3, 4, 5, 6] rfl
        have hD9 := hD.sub (ws' := [(z 0, .inr (7, [.ref (z 1), .ref (z 3), .int (nI nd), .int (nI nsg)])), (z 1, .inr (5, [.ref (z 2)])), (z 2, .inl (dA 0, 30, .inl tS)), (z 3, .inr (5, [.ref (z 4)])), (z 4, .inl (dA 0, 30, .inl tG)), (h, .inr (5, [.ref r0])), (r0, .inl (dA 0, 30, .inl (fl (fun d => bI (decide (tS d = 115))) (fl (fun _ => 0) tL 30) nd)))]) [0, 1, 2, 3, 4, 5, 6] (by decide) rfl
        exact W.iret (v := (nI (cn (fun d => decide (tS d = 115)) nd))) hx hb hr (fun t ht hW => ⟨⟨(nI (cn (fun d => decide (tS d = 115)) nd)), (), rfl, rfl, ⟨by rw [ht]; exact hP9, hD9⟩⟩, hS.F ht⟩) hS.2.2 dX4_listPresent_46
      · replace c3 := mt (nI_leI (a := nd) (b := i9) (by omega) (by omega)).mpr c3
        refine lv_aload_n hx hb dX4_listPresent_17 rfl (lv_at hl 2 rfl) ?_
        refine lv_iload_n hx hb dX4_listPresent_18 rfl (lv_at hl 0 rfl) ?_
        replace hPc := hP.sub (ws' := [(z 0, .inr (7, [.ref (z 1), .ref (z 3), .int (nI nd), .int (nI nsg)])), (z 1, .inr (5, [.ref (z 2)])), (z 2, .inl (dA 0, 30, .inl tS)), (z 3, .inr (5, [.ref (z 4)])), (z 4, .inl (dA 0, 30, .inl tG))]) [0, 1, 2, 3, 4] rfl
        replace hDc := hD.sub (ws' := [(z 0, .inr (7, [.ref (z 1), .ref (z 3), .int (nI nd), .int (nI nsg)])), (z 1, .inr (5, [.ref (z 2)])), (z 2, .inl (dA 0, 30, .inl tS)), (z 3, .inr (5, [.ref (z 4)])), (z 4, .inl (dA 0, 30, .inl tG))]) [0, 1, 2, 3, 4] (by decide) rfl
        replace hFc := va_free (wc := [(z 0, .inr (7, [.ref (z 1), .ref (z 3), .int (nI nd), .int (nI nsg)])), (z 1, .inr (5, [.ref (z 2)])), (z 2, .inl (dA 0, 30, .inl tS)), (z 3, .inr (5, [.ref (z 4)])), (z 4, .inl (dA 0, 30, .inl tG))]) hD hS hA [0, 1, 2, 3, 4] rfl
        refine va_calli (va_runV (As := [.int (nI i9)]) (rest := []) ⟨hx, hb, hml, hown, hts⟩ (s_stateOf l D dA E z tS tG nd nsg i9 H.size  (by omega) (by omega) (by omega) hAC) (cwV 1 hts (ga_V q239 q240 q237 q241 q238) rfl rfl rfl (by decide +kernel) ⟨(Nat.le_of_ble_eq_true rfl), (Nat.le_of_ble_eq_true rfl)⟩) ⟨pb_blind, va_recv hK hPc (ci := 7) (q0 := 0) rfl rfl, pb_pre hK hPc hDc hZ hS hFc _⟩ rfl rfl hl.1 rfl (lv_room (Nat.le_of_ble_eq_true rfl)) dX4_listPresent_19 ⟨(Nat.le_of_ble_eq_true rfl), (Nat.le_of_ble_eq_true rfl)⟩) hS (fun q _ h => hFc q h) hFc (fun r u t H1 locs ht hvm hw hB hz1 hk1 hS => ?_)
        refine W.widen (k := 0) (n := 0) (Nat.le_of_ble_eq_true rfl) (Nat.le_of_ble_eq_true rfl) ?_
        obtain ⟨r4, rfl⟩ : ∃ z, z = r := ⟨_, rfl⟩
        obtain ⟨u5, rfl⟩ : ∃ z, z = u := ⟨_, rfl⟩
        have hw6 := hw
        clear hw
        obtain ⟨hP1, hD1⟩ := hB
        rw [ht] at hP1
        obtain ⟨hP, hD⟩ := va_join (wr := [(h, .inr (5, [.ref r0])), (r0, .inl (dA 0, 30, .inl (fl (fun d => bI (decide (tS d = 115))) (fl (fun _ => 0) tL 30) i9)))]) (w1 := [(z 0, .inr (7, [.ref (z 1), .ref (z 3), .int (nI nd), .int (nI nsg)])), (z 1, .inr (5, [.ref (z 2)])), (z 2, .inl (dA 0, 30, .inl tS)), (z 3, .inr (5, [.ref (z 4)])), (z 4, .inl (dA 0, 30, .inl tG))]) hP hD [0, 1, 2, 3, 4] [5, 6] rfl rfl (by decide) (by decide) hk1 hFc hP1 hD1
        generalize H1 = H at hP hS ⊢
        replace hP : va_P D vwCl [(h, .inr (5, [.ref r0])), (r0, .inl (dA 0, 30, .inl (fl (fun d => bI (decide (tS d = 115))) (fl (fun _ => 0) tL 30) i9))), (z 0, .inr (7, [.ref (z 1), .ref (z 3), .int (nI nd), .int (nI nsg)])), (z 1, .inr (5, [.ref (z 2)])), (z 2, .inl (dA 0, 30, .inl tS)), (z 3, .inr (5, [.ref (z 4)])), (z 4, .inl (dA 0, 30, .inl tG))] H := hP
        replace hD : va_D A [(h, .inr (5, [.ref r0])), (r0, .inl (dA 0, 30, .inl (fl (fun d => bI (decide (tS d = 115))) (fl (fun _ => 0) tL 30) i9))), (z 0, .inr (7, [.ref (z 1), .ref (z 3), .int (nI nd), .int (nI nsg)])), (z 1, .inr (5, [.ref (z 2)])), (z 2, .inl (dA 0, 30, .inl tS)), (z 3, .inr (5, [.ref (z 4)])), (z 4, .inl (dA 0, 30, .inl tG))] := hD
        obtain rfl : r4 = tS i9 := hw6
        refine lv_bipush (v := 115) hx hb dX4_listPresent_22 (by decide) ?_
        refine lv_icmp_eq (tgt := 30) hx hb dX4_listPresent_24 (by decide) (fun c7 => ?_) (fun c7 => ?_)
        · refine lv_aload_n hx hb dX4_listPresent_30 rfl (lv_at hl 3 rfl) ?_
          refine lv_iload_n hx hb dX4_listPresent_31 rfl (lv_at hl 0 rfl) ?_
          refine lv_iconst (v := 1) hx hb dX4_listPresent_32 (by decide) ?_
          replace hPc := hP.sub (ws' := [(h, .inr (5, [.ref r0])), (r0, .inl (dA 0, 30, .inl (fl (fun d => bI (decide (tS d = 115))) (fl (fun _ => 0) tL 30) i9)))]) [0, 1] rfl
          replace hDc := hD.sub (ws' := [(h, .inr (5, [.ref r0])), (r0, .inl (dA 0, 30, .inl (fl (fun d => bI (decide (tS d = 115))) (fl (fun _ => 0) tL 30) i9)))]) [0, 1] (by decide) rfl
          replace hFc := va_free (wc := [(h, .inr (5, [.ref r0])), (r0, .inl (dA 0, 30, .inl (fl (fun d => bI (decide (tS d = 115))) (fl (fun _ => 0) tL 30) i9)))]) hD hS hA [0, 1] rfl
          refine va_callv (va_runV (As := [.int (nI i9), .int 1]) (rest := []) ⟨hx, hb, hml, hown, hts⟩ (t_putN l D dA E h r0 30 (fl (fun d => bI (decide (tS d = 115))) (fl (fun _ => 0) tL 30) i9) i9 1 H.size  (by omega) (by decide)) (cwV 2 hts (ga_V q242 q210 q207 q204 q208) rfl rfl rfl (by decide +kernel) ⟨(Nat.le_of_ble_eq_true rfl), (Nat.le_of_ble_eq_true rfl)⟩) ⟨pb_blind, va_recv hK hPc (ci := 5) (q0 := 0) rfl rfl, pb_pre hK hPc hDc hZ hS hFc _⟩ rfl rfl hl.1 rfl (lv_room (Nat.le_of_ble_eq_true rfl)) dX4_listPresent_33 ⟨(Nat.le_of_ble_eq_true rfl), (Nat.le_of_ble_eq_true rfl)⟩) hS (fun q _ h => hFc q h) hFc (fun u t H1 locs ht hvm hw hB hz1 hk1 hS => ?_)
          refine W.widen (k := 0) (n := 0) (Nat.le_of_ble_eq_true rfl) (Nat.le_of_ble_eq_true rfl) ?_
          obtain ⟨u8, rfl⟩ : ∃ z, z = u := ⟨_, rfl⟩
          have hw9 := hw
          clear hw
          obtain ⟨hP1, hD1⟩ := hB
          rw [ht] at hP1
          obtain ⟨hP, hD⟩ := va_join (wr := [(z 0, .inr (7, [.ref (z 1), .ref (z 3), .int (nI nd), .int (nI nsg)])), (z 1, .inr (5, [.ref (z 2)])), (z 2, .inl (dA 0, 30, .inl tS)), (z 3, .inr (5, [.ref (z 4)])), (z 4, .inl (dA 0, 30, .inl tG))]) (w1 := [(h, .inr (5, [.ref r0])), (r0, .inl (dA 0, 30, .inl (upd (fl (fun d => bI (decide (tS d = 115))) (fl (fun _ => 0) tL 30) i9) i9 1)))]) hP hD [0, 1] [2, 3, 4, 5, 6] rfl rfl (by decide) (by decide) hk1 hFc hP1 hD1
          generalize H1 = H at hP hS ⊢
          replace hP : va_P D vwCl [(z 0, .inr (7, [.ref (z 1), .ref (z 3), .int (nI nd), .int (nI nsg)])), (z 1, .inr (5, [.ref (z 2)])), (z 2, .inl (dA 0, 30, .inl tS)), (z 3, .inr (5, [.ref (z 4)])), (z 4, .inl (dA 0, 30, .inl tG)), (h, .inr (5, [.ref r0])), (r0, .inl (dA 0, 30, .inl (upd (fl (fun d => bI (decide (tS d = 115))) (fl (fun _ => 0) tL 30) i9) i9 1)))] H := hP
          replace hD : va_D A [(z 0, .inr (7, [.ref (z 1), .ref (z 3), .int (nI nd), .int (nI nsg)])), (z 1, .inr (5, [.ref (z 2)])), (z 2, .inl (dA 0, 30, .inl tS)), (z 3, .inr (5, [.ref (z 4)])), (z 4, .inl (dA 0, 30, .inl tG)), (h, .inr (5, [.ref r0])), (r0, .inl (dA 0, 30, .inl (upd (fl (fun d => bI (decide (tS d = 115))) (fl (fun _ => 0) tL 30) i9) i9 1)))] := hD
          refine lv_iinc (v := nI ((cn (fun d => decide (tS d = 115)) i9) + 1)) (lv' := [(2, .int (nI ((cn (fun d => decide (tS d = 115)) i9) + 1))), (3, .int (nI i9)), (0, .ref (z 0)), (1, .ref h)]) hx hb dX4_listPresent_36 hl (k := 1) rfl (nI_add (cn (fun d => decide (tS d = 115)) i9) 1) (by decide) rfl (fun ls hl => ?_)
          refine lv_iinc (v := nI (i9 + 1)) (lv' := [(3, .int (nI (i9 + 1))), (2, .int (nI ((cn (fun d => decide (tS d = 115)) i9) + 1))), (0, .ref (z 0)), (1, .ref h)]) hx hb dX4_listPresent_39 hl (k := 1) rfl (nI_add i9 1) (by decide) rfl (fun ls hl => ?_)
          refine lv_goto (tgt := 9) hx hb dX4_listPresent_42 (by decide) ?_
          exact ih9 (i9 + 1) (upd (fl (fun d => bI (decide (tS d = 115))) (fl (fun _ => 0) tL 30) i9) i9 1) (nI ((cn (fun d => decide (tS d = 115)) i9) + 1)) (by omega) (by omega) (by omega) ⟨(fl_succ (by show _ = bI _; rw [dec_1 c7]; rfl)), (cn_y (f := fun d => decide (tS d = 115)) (dec_1 c7))⟩ _ _ hP hD hS ls (lv_sub hl [0, 1, 2, 3] rfl)
        · refine lv_goto (tgt := 39) hx hb dX4_listPresent_27 (by decide) ?_
          refine lv_iinc (v := nI (i9 + 1)) (lv' := [(3, .int (nI (i9 + 1))), (2, .int (nI (cn (fun d => decide (tS d = 115)) i9))), (0, .ref (z 0)), (1, .ref h)]) hx hb dX4_listPresent_39 hl (k := 0) rfl (nI_add i9 1) (by decide) rfl (fun ls hl => ?_)
          refine lv_goto (tgt := 9) hx hb dX4_listPresent_42 (by decide) ?_
          replace hP := hP.sub (ws' := [(z 0, .inr (7, [.ref (z 1), .ref (z 3), .int (nI nd), .int (nI nsg)])), (z 1, .inr (5, [.ref (z 2)])), (z 2, .inl (dA 0, 30, .inl tS)), (z 3, .inr (5, [.ref (z 4)])), (z 4, .inl (dA 0, 30, .inl tG)), (h, .inr (5, [.ref r0])), (r0, .inl (dA 0, 30, .inl (fl (fun d => bI (decide (tS d = 115))) (fl (fun _ => 0) tL 30) i9)))]) [2, 3, 4, 5, 6, 0, 1] rfl
          replace hD := hD.sub (ws' := [(z 0, .inr (7, [.ref (z 1), .ref (z 3), .int (nI nd), .int (nI nsg)])), (z 1, .inr (5, [.ref (z 2)])), (z 2, .inl (dA 0, 30, .inl tS)), (z 3, .inr (5, [.ref (z 4)])), (z 4, .inl (dA 0, 30, .inl tG)), (h, .inr (5, [.ref r0])), (r0, .inl (dA 0, 30, .inl (fl (fun d => bI (decide (tS d = 115))) (fl (fun _ => 0) tL 30) i9)))]) [2, 3, 4, 5, 6, 0, 1] (by decide) rfl
          exact ih9 (i9 + 1) (fl (fun d => bI (decide (tS d = 115))) (fl (fun _ => 0) tL 30) i9) (nI (cn (fun d => decide (tS d = 115)) i9)) (by omega) (by omega) (by omega) ⟨(fl_keep (by show bI (decide (tS i9 = 115)) = fl (fun _ => 0) tL 30 i9; rw [dec_0 c7, fl_in (by omega)]; rfl)), (cn_n' (f := fun d => decide (tS d = 115)) (dec_0 c7))⟩ _ _ hP hD hS ls (lv_sub hl [0, 1, 2, 3] rfl)
  exact K9 (nd + 1) 0 (fl (fun _ => 0) tL 30) 0 (by omega) (by omega) (by omega) ⟨fl_0.symm, rfl⟩ _ _ hP hD hS ls hl
