/-! CONTRACTS, general -/
theorem q506 : (.selects RX6 yX6_lower yX6_lower : Cond) ∈ WA := WA_of (tb_3 79 rfl) rfl
theorem q507 : (.code yX6_lower cX6_lower 3 none : Cond) ∈ WA := WA_of (tb_3 80 rfl) rfl
theorem q508 : (.methodLink RX5 26 yX6_lower : Cond) ∈ WA := WA_of (tb_3 77 rfl) rfl
theorem q509 : (.instanceMethod yX6_lower : Cond) ∈ WA := WA_of (tb_3 78 rfl) rfl
theorem q510 : (.selects RX6 yX6_makeEven yX6_makeEven : Cond) ∈ WA := WA_of (tb_3 84 rfl) rfl
theorem q511 : (.code yX6_makeEven cX6_makeEven 2 none : Cond) ∈ WA := WA_of (tb_3 85 rfl) rfl
theorem q512 : (.methodLink RX5 31 yX6_makeEven : Cond) ∈ WA := WA_of (tb_3 82 rfl) rfl
theorem q513 : (.instanceMethod yX6_makeEven : Cond) ∈ WA := WA_of (tb_3 83 rfl) rfl
theorem q514 : (.methodLink RX5 34 yX6_takeOut : Cond) ∈ WA := WA_of (tb_3 86 rfl) rfl
theorem q515 : (.selects RX6 yX6_closeUp yX6_closeUp : Cond) ∈ WA := WA_of (tb_3 92 rfl) rfl
theorem q516 : (.code yX6_closeUp cX6_closeUp 4 none : Cond) ∈ WA := WA_of (tb_3 93 rfl) rfl
theorem q517 : (.methodLink RX5 38 yX6_closeUp : Cond) ∈ WA := WA_of (tb_3 90 rfl) rfl
theorem q518 : (.instanceMethod yX6_closeUp : Cond) ∈ WA := WA_of (tb_3 91 rfl) rfl
theorem q519 : (.selects RX6 yX6_putBeside yX6_putBeside : Cond) ∈ WA := WA_of (tb_3 101 rfl) rfl
theorem q520 : (.code yX6_putBeside cX6_putBeside 6 none : Cond) ∈ WA := WA_of (tb_3 102 rfl) rfl
theorem q521 : (.methodLink RX5 41 yX6_putBeside : Cond) ∈ WA := WA_of (tb_3 99 rfl) rfl
theorem q522 : (.instanceMethod yX6_putBeside : Cond) ∈ WA := WA_of (tb_3 100 rfl) rfl
set_option maxHeartbeats 4000000 in
set_option maxRecDepth 100000 in
theorem p_change_l (l : Launch) (D : va_G) (dA : Nat → ClassId) (E : Nat) (so : Nat) (sa sb : Int32) (tt : Nat → Nat) (tw tp tx : Nat → Int32) (nm : Nat) (sz : Nat) (hnm : nm ≤ 84)  : Met l yX5_change (wq (.code yX5_change cX5_change 2 none)) { frames := 2, cells := 0, slots := 0, locals := 44 } (va_Pc [.ref so, .ref (tt 0)] (PcB D dA E [(so, .inr (8, [.int 108, .int sa, .int sb])), (tt 0, .inr (9, [.ref (tt 1), .ref (tt 3), .ref (tt 5), .int (nI nm)])), (tt 1, .inr (5, [.ref (tt 2)])), (tt 2, .inl (dA 0, 84, .inl tw)), (tt 3, .inr (5, [.ref (tt 4)])), (tt 4, .inl (dA 0, 84, .inl tp)), (tt 5, .inr (5, [.ref (tt 6)])), (tt 6, .inl (dA 0, 84, .inl tx))] sz)) (va_Qv (fun (u : Unit) => True) (fun u t => va_P D vwCl [(so, .inr (8, [.int 108, .int sa, .int sb])), (tt 0, .inr (9, [.ref (tt 1), .ref (tt 3), .ref (tt 5), .int (nI nm)])), (tt 1, .inr (5, [.ref (tt 2)])), (tt 2, .inl (dA 0, 84, .inl (fl (fun j => lowF 108 (tw j)) tw nm))), (tt 3, .inr (5, [.ref (tt 4)])), (tt 4, .inl (dA 0, 84, .inl tp)), (tt 5, .inr (5, [.ref (tt 6)])), (tt 6, .inl (dA 0, 84, .inl tx))] t.heap ∧ va_D (va_A [(so, .inr (8, [.int 108, .int sa, .int sb])), (tt 0, .inr (9, [.ref (tt 1), .ref (tt 3), .ref (tt 5), .int (nI nm)])), (tt 1, .inr (5, [.ref (tt 2)])), (tt 2, .inl (dA 0, 84, .inl tw)), (tt 3, .inr (5, [.ref (tt 4)])), (tt 4, .inl (dA 0, 84, .inl tp)), (tt 5, .inr (5, [.ref (tt 6)])), (tt 6, .inl (dA 0, 84, .inl tx))] sz) [(so, .inr (8, [.int 108, .int sa, .int sb])), (tt 0, .inr (9, [.ref (tt 1), .ref (tt 3), .ref (tt 5), .int (nI nm)])), (tt 1, .inr (5, [.ref (tt 2)])), (tt 2, .inl (dA 0, 84, .inl (fl (fun j => lowF 108 (tw j)) tw nm))), (tt 3, .inr (5, [.ref (tt 4)])), (tt 4, .inl (dA 0, 84, .inl tp)), (tt 5, .inr (5, [.ref (tt 6)])), (tt 6, .inl (dA 0, 84, .inl tx))]) (va_A [(so, .inr (8, [.int 108, .int sa, .int sb])), (tt 0, .inr (9, [.ref (tt 1), .ref (tt 3), .ref (tt 5), .int (nI nm)])), (tt 1, .inr (5, [.ref (tt 2)])), (tt 2, .inl (dA 0, 84, .inl tw)), (tt 3, .inr (5, [.ref (tt 4)])), (tt 4, .inl (dA 0, 84, .inl tp)), (tt 5, .inr (5, [.ref (tt 6)])), (tt 6, .inl (dA 0, 84, .inl tx))] sz)) 0 0 (va_A [(so, .inr (8, [.int 108, .int sa, .int sb])), (tt 0, .inr (9, [.ref (tt 1), .ref (tt 3), .ref (tt 5), .int (nI nm)])), (tt 1, .inr (5, [.ref (tt 2)])), (tt 2, .inl (dA 0, 84, .inl tw)), (tt 3, .inr (5, [.ref (tt 4)])), (tt 4, .inl (dA 0, 84, .inl tp)), (tt 5, .inr (5, [.ref (tt 6)])), (tt 6, .inl (dA 0, 84, .inl tx))] sz) := by
  refine mb_of (Qc := fun A => va_Qv (fun (u : Unit) => True) (fun u t => va_P D vwCl [(so, .inr (8, [.int 108, .int sa, .int sb])), (tt 0, .inr (9, [.ref (tt 1), .ref (tt 3), .ref (tt 5), .int (nI nm)])), (tt 1, .inr (5, [.ref (tt 2)])), (tt 2, .inl (dA 0, 84, .inl (fl (fun j => lowF 108 (tw j)) tw nm))), (tt 3, .inr (5, [.ref (tt 4)])), (tt 4, .inl (dA 0, 84, .inl tp)), (tt 5, .inr (5, [.ref (tt 6)])), (tt 6, .inl (dA 0, 84, .inl tx))] t.heap ∧ va_D A [(so, .inr (8, [.int 108, .int sa, .int sb])), (tt 0, .inr (9, [.ref (tt 1), .ref (tt 3), .ref (tt 5), .int (nI nm)])), (tt 1, .inr (5, [.ref (tt 2)])), (tt 2, .inl (dA 0, 84, .inl (fl (fun j => lowF 108 (tw j)) tw nm))), (tt 3, .inr (5, [.ref (tt 4)])), (tt 4, .inl (dA 0, 84, .inl tp)), (tt 5, .inr (5, [.ref (tt 6)])), (tt 6, .inl (dA 0, 84, .inl tx))]) A) RX5 rfl (by decide) (Nat.le_of_ble_eq_true rfl) ?_
  intro p e s m args below meth c hae hx hb hr hts hown hlocks hml hnm hP hK A hAe hD hZ hS hA ls hl
  replace hl : lv_has ls 2 [(0, .ref so), (1, .ref (tt 0))] := hl
  refine lv_aload_n hx hb dX5_change_0 rfl (lv_at hl 0 rfl) ?_
  refine va_get (D := D) (ci := 8) (v := .int 108) (C := RX5) (T := TX5) (N := 3) hx hb hts inAX5 hown hK hP 0 rfl rfl 0 (by decide) (hts _ q297) (fun _ h9 => h9) rfl dX5_change_1 ?_
  refine lv_bipush (v := 108) hx hb dX5_change_4 (by decide) ?_
  refine lv_icmp_ne (tgt := 13) hx hb dX5_change_6 (by decide) (fun c1 => absurd (by decide) c1) (fun _ => ?_)
  refine lv_aload_n hx hb dX5_change_9 rfl (lv_at hl 1 rfl) ?_
  replace hPc := hP.sub (ws' := [(tt 0, .inr (9, [.ref (tt 1), .ref (tt 3), .ref (tt 5), .int (nI nm)])), (tt 1, .inr (5, [.ref (tt 2)])), (tt 2, .inl (dA 0, 84, .inl tw)), (tt 3, .inr (5, [.ref (tt 4)])), (tt 4, .inl (dA 0, 84, .inl tp)), (tt 5, .inr (5, [.ref (tt 6)])), (tt 6, .inl (dA 0, 84, .inl tx))]) [1, 2, 3, 4, 5, 6, 7] rfl
  replace hDc := hD.sub (ws' := [(tt 0, .inr (9, [.ref (tt 1), .ref (tt 3), .ref (tt 5), .int (nI nm)])), (tt 1, .inr (5, [.ref (tt 2)])), (tt 2, .inl (dA 0, 84, .inl tw)), (tt 3, .inr (5, [.ref (tt 4)])), (tt 4, .inl (dA 0, 84, .inl tp)), (tt 5, .inr (5, [.ref (tt 6)])), (tt 6, .inl (dA 0, 84, .inl tx))]) [1, 2, 3, 4, 5, 6, 7] (by decide) rfl
  replace hFc := va_free (wc := [(tt 0, .inr (9, [.ref (tt 1), .ref (tt 3), .ref (tt 5), .int (nI nm)])), (tt 1, .inr (5, [.ref (tt 2)])), (tt 2, .inl (dA 0, 84, .inl tw)), (tt 3, .inr (5, [.ref (tt 4)])), (tt 4, .inl (dA 0, 84, .inl tp)), (tt 5, .inr (5, [.ref (tt 6)])), (tt 6, .inl (dA 0, 84, .inl tx))]) hD hS hA [1, 2, 3, 4, 5, 6, 7] rfl
  refine va_callv (va_runV (As := []) (rest := []) ⟨hx, hb, hml, hown, hts⟩ (t_lower l D dA E tt tw tp tx nm  s.heap.size  (by omega)) (cwV 0 hts (ga_V q508 q509 q506 q218 q507) rfl rfl rfl (by decide +kernel) ⟨(Nat.le_of_ble_eq_true rfl), (Nat.le_of_ble_eq_true rfl)⟩) ⟨pb_blind, va_recv hK hPc (ci := 9) (q0 := 0) rfl rfl, pb_pre hK hPc hDc hZ hS hFc _⟩ rfl rfl hl.1 rfl (lv_room (Nat.le_of_ble_eq_true rfl)) dX5_change_10 ⟨(Nat.le_of_ble_eq_true rfl), (Nat.le_of_ble_eq_true rfl)⟩) hS (fun q _ h => hFc q h) hFc (fun u t H1 locs ht hvm hw hB hz1 hk1 hS => ?_)
  refine W.widen (k := 0) (n := 0) (Nat.le_of_ble_eq_true rfl) (Nat.le_of_ble_eq_true rfl) ?_
  obtain ⟨u2, rfl⟩ : ∃ z, z = u := ⟨_, rfl⟩
  have hw3 := hw
  clear hw
  obtain ⟨hP1, hD1⟩ := hB
  rw [ht] at hP1
  obtain ⟨hP, hD⟩ := va_join (wr := [(so, .inr (8, [.int 108, .int sa, .int sb]))]) (w1 := [(tt 0, .inr (9, [.ref (tt 1), .ref (tt 3), .ref (tt 5), .int (nI nm)])), (tt 1, .inr (5, [.ref (tt 2)])), (tt 2, .inl (dA 0, 84, .inl (fl (fun j => lowF 108 (tw j)) tw nm))), (tt 3, .inr (5, [.ref (tt 4)])), (tt 4, .inl (dA 0, 84, .inl tp)), (tt 5, .inr (5, [.ref (tt 6)])), (tt 6, .inl (dA 0, 84, .inl tx))]) hP hD [1, 2, 3, 4, 5, 6, 7] [0] rfl rfl (by decide) (by decide) hk1 hFc hP1 hD1
  generalize H1 = H at hP hS ⊢
  replace hP : va_P D vwCl [(so, .inr (8, [.int 108, .int sa, .int sb])), (tt 0, .inr (9, [.ref (tt 1), .ref (tt 3), .ref (tt 5), .int (nI nm)])), (tt 1, .inr (5, [.ref (tt 2)])), (tt 2, .inl (dA 0, 84, .inl (fl (fun j => lowF 108 (tw j)) tw nm))), (tt 3, .inr (5, [.ref (tt 4)])), (tt 4, .inl (dA 0, 84, .inl tp)), (tt 5, .inr (5, [.ref (tt 6)])), (tt 6, .inl (dA 0, 84, .inl tx))] H := hP
  replace hD : va_D A [(so, .inr (8, [.int 108, .int sa, .int sb])), (tt 0, .inr (9, [.ref (tt 1), .ref (tt 3), .ref (tt 5), .int (nI nm)])), (tt 1, .inr (5, [.ref (tt 2)])), (tt 2, .inl (dA 0, 84, .inl (fl (fun j => lowF 108 (tw j)) tw nm))), (tt 3, .inr (5, [.ref (tt 4)])), (tt 4, .inl (dA 0, 84, .inl tp)), (tt 5, .inr (5, [.ref (tt 6)])), (tt 6, .inl (dA 0, 84, .inl tx))] := hD
  refine lv_aload_n hx hb dX5_change_13 rfl (lv_at hl 0 rfl) ?_
  refine va_get (D := D) (ci := 8) (v := .int 108) (C := RX5) (T := TX5) (N := 3) hx hb hts inAX5 hown hK hP 0 rfl rfl 0 (by decide) (hts _ q297) (fun _ h9 => h9) rfl dX5_change_14 ?_
  refine lv_bipush (v := 109) hx hb dX5_change_17 (by decide) ?_
  refine lv_icmp_ne (tgt := 26) hx hb dX5_change_19 (by decide) (fun _ => ?_) (fun c4 => absurd c4 (by decide))
  refine lv_aload_n hx hb dX5_change_26 rfl (lv_at hl 0 rfl) ?_
  refine va_get (D := D) (ci := 8) (v := .int 108) (C := RX5) (T := TX5) (N := 3) hx hb hts inAX5 hown hK hP 0 rfl rfl 0 (by decide) (hts _ q297) (fun _ h9 => h9) rfl dX5_change_27 ?_
  refine lv_bipush (v := 115) hx hb dX5_change_30 (by decide) ?_
  refine lv_icmp_ne (tgt := 43) hx hb dX5_change_32 (by decide) (fun _ => ?_) (fun c5 => absurd c5 (by decide))
  refine lv_aload_n hx hb dX5_change_43 rfl (lv_at hl 0 rfl) ?_
  refine va_get (D := D) (ci := 8) (v := .int 108) (C := RX5) (T := TX5) (N := 3) hx hb hts inAX5 hown hK hP 0 rfl rfl 0 (by decide) (hts _ q297) (fun _ h9 => h9) rfl dX5_change_44 ?_
  refine lv_bipush (v := 99) hx hb dX5_change_47 (by decide) ?_
  refine lv_icmp_ne (tgt := 60) hx hb dX5_change_49 (by decide) (fun _ => ?_) (fun c6 => absurd c6 (by decide))
  refine lv_aload_n hx hb dX5_change_60 rfl (lv_at hl 0 rfl) ?_
  refine va_get (D := D) (ci := 8) (v := .int 108) (C := RX5) (T := TX5) (N := 3) hx hb hts inAX5 hown hK hP 0 rfl rfl 0 (by decide) (hts _ q297) (fun _ h9 => h9) rfl dX5_change_61 ?_
  refine lv_bipush (v := 121) hx hb dX5_change_64 (by decide) ?_
  refine lv_icmp_ne (tgt := 81) hx hb dX5_change_66 (by decide) (fun _ => ?_) (fun c7 => absurd c7 (by decide))
  refine W.widen (k := 0) (n := 0) (Nat.le_of_ble_eq_true rfl) (Nat.le_of_ble_eq_true rfl) ?_
  have hP9 := hP.sub (ws' := [(so, .inr (8, [.int 108, .int sa, .int sb])), (tt 0, .inr (9, [.ref (tt 1), .ref (tt 3), .ref (tt 5), .int (nI nm)])), (tt 1, .inr (5, [.ref (tt 2)])), (tt 2, .inl (dA 0, 84, .inl (fl (fun j => lowF 108 (tw j)) tw nm))), (tt 3, .inr (5, [.ref (tt 4)])), (tt 4, .inl (dA 0, 84, .inl tp)), (tt 5, .inr (5, [.ref (tt 6)])), (tt 6, .inl (dA 0, 84, .inl tx))]) [0, 1, 2, 3, 4, 5, 6, 7] rfl
  have hD9 := hD.sub (ws' := [(so, .inr (8, [.int 108, .int sa, .int sb])), (tt 0, .inr (9, [.ref (tt 1), .ref (tt 3), .ref (tt 5), .int (nI nm)])), (tt 1, .inr (5, [.ref (tt 2)])), (tt 2, .inl (dA 0, 84, .inl (fl (fun j => lowF 108 (tw j)) tw nm))), (tt 3, .inr (5, [.ref (tt 4)])), (tt 4, .inl (dA 0, 84, .inl tp)), (tt 5, .inr (5, [.ref (tt 6)])), (tt 6, .inl (dA 0, 84, .inl tx))]) [0, 1, 2, 3, 4, 5, 6, 7] (by decide) rfl
  exact W.vret hx hb hr (fun t ht hW => ⟨⟨(), rfl, trivial, ⟨by rw [ht]; exact hP9, hD9⟩⟩, hS.F ht⟩) hS.2.2 dX5_change_81

set_option maxHeartbeats 4000000 in
set_option maxRecDepth 100000 in
theorem p_change_m (l : Launch) (D : va_G) (dA : Nat → ClassId) (E : Nat) (so : Nat) (sa sb : Int32) (tt : Nat → Nat) (tw tp tx : Nat → Int32) (nm : Nat) (sz : Nat) (hnm : nm ≤ 84)  : Met l yX5_change (wq (.code yX5_change cX5_change 2 none)) { frames := 2, cells := 0, slots := 0, locals := 43 } (va_Pc [.ref so, .ref (tt 0)] (PcB D dA E [(so, .inr (8, [.int 109, .int sa, .int sb])), (tt 0, .inr (9, [.ref (tt 1), .ref (tt 3), .ref (tt 5), .int (nI nm)])), (tt 1, .inr (5, [.ref (tt 2)])), (tt 2, .inl (dA 0, 84, .inl tw)), (tt 3, .inr (5, [.ref (tt 4)])), (tt 4, .inl (dA 0, 84, .inl tp)), (tt 5, .inr (5, [.ref (tt 6)])), (tt 6, .inl (dA 0, 84, .inl tx))] sz)) (va_Qv (fun (u : Unit) => True) (fun u t => va_P D vwCl [(so, .inr (8, [.int 109, .int sa, .int sb])), (tt 0, .inr (9, [.ref (tt 1), .ref (tt 3), .ref (tt 5), .int (nI nm)])), (tt 1, .inr (5, [.ref (tt 2)])), (tt 2, .inl (dA 0, 84, .inl (fl (fun j => evF (tw j)) tw nm))), (tt 3, .inr (5, [.ref (tt 4)])), (tt 4, .inl (dA 0, 84, .inl tp)), (tt 5, .inr (5, [.ref (tt 6)])), (tt 6, .inl (dA 0, 84, .inl tx))] t.heap ∧ va_D (va_A [(so, .inr (8, [.int 109, .int sa, .int sb])), (tt 0, .inr (9, [.ref (tt 1), .ref (tt 3), .ref (tt 5), .int (nI nm)])), (tt 1, .inr (5, [.ref (tt 2)])), (tt 2, .inl (dA 0, 84, .inl tw)), (tt 3, .inr (5, [.ref (tt 4)])), (tt 4, .inl (dA 0, 84, .inl tp)), (tt 5, .inr (5, [.ref (tt 6)])), (tt 6, .inl (dA 0, 84, .inl tx))] sz) [(so, .inr (8, [.int 109, .int sa, .int sb])), (tt 0, .inr (9, [.ref (tt 1), .ref (tt 3), .ref (tt 5), .int (nI nm)])), (tt 1, .inr (5, [.ref (tt 2)])), (tt 2, .inl (dA 0, 84, .inl (fl (fun j => evF (tw j)) tw nm))), (tt 3, .inr (5, [.ref (tt 4)])), (tt 4, .inl (dA 0, 84, .inl tp)), (tt 5, .inr (5, [.ref (tt 6)])), (tt 6, .inl (dA 0, 84, .inl tx))]) (va_A [(so, .inr (8, [.int 109, .int sa, .int sb])), (tt 0, .inr (9, [.ref (tt 1), .ref (tt 3), .ref (tt 5), .int (nI nm)])), (tt 1, .inr (5, [.ref (tt 2)])), (tt 2, .inl (dA 0, 84, .inl tw)), (tt 3, .inr (5, [.ref (tt 4)])), (tt 4, .inl (dA 0, 84, .inl tp)), (tt 5, .inr (5, [.ref (tt 6)])), (tt 6, .inl (dA 0, 84, .inl tx))] sz)) 0 0 (va_A [(so, .inr (8, [.int 109, .int sa, .int sb])), (tt 0, .inr (9, [.ref (tt 1), .ref (tt 3), .ref (tt 5), .int (nI nm)])), (tt 1, .inr (5, [.ref (tt 2)])), (tt 2, .inl (dA 0, 84, .inl tw)), (tt 3, .inr (5, [.ref (tt 4)])), (tt 4, .inl (dA 0, 84, .inl tp)), (tt 5, .inr (5, [.ref (tt 6)])), (tt 6, .inl (dA 0, 84, .inl tx))] sz) := by
  refine mb_of (Qc := fun A => va_Qv (fun (u : Unit) => True) (fun u t => va_P D vwCl [(so, .inr (8, [.int 109, .int sa, .int sb])), (tt 0, .inr (9, [.ref (tt 1), .ref (tt 3), .ref (tt 5), .int (nI nm)])), (tt 1, .inr (5, [.ref (tt 2)])), (tt 2, .inl (dA 0, 84, .inl (fl (fun j => evF (tw j)) tw nm))), (tt 3, .inr (5, [.ref (tt 4)])), (tt 4, .inl (dA 0, 84, .inl tp)), (tt 5, .inr (5, [.ref (tt 6)])), (tt 6, .inl (dA 0, 84, .inl tx))] t.heap ∧ va_D A [(so, .inr (8, [.int 109, .int sa, .int sb])), (tt 0, .inr (9, [.ref (tt 1), .ref (tt 3), .ref (tt 5), .int (nI nm)])), (tt 1, .inr (5, [.ref (tt 2)])), (tt 2, .inl (dA 0, 84, .inl (fl (fun j => evF (tw j)) tw nm))), (tt 3, .inr (5, [.ref (tt 4)])), (tt 4, .inl (dA 0, 84, .inl tp)), (tt 5, .inr (5, [.ref (tt 6)])), (tt 6, .inl (dA 0, 84, .inl tx))]) A) RX5 rfl (by decide) (Nat.le_of_ble_eq_true rfl) ?_
  intro p e s m args below meth c hae hx hb hr hts hown hlocks hml hnm hP hK A hAe hD hZ hS hA ls hl
  replace hl : lv_has ls 2 [(0, .ref so), (1, .ref (tt 0))] := hl
  refine lv_aload_n hx hb dX5_change_0 rfl (lv_at hl 0 rfl) ?_
  refine va_get (D := D) (ci := 8) (v := .int 109) (C := RX5) (T := TX5) (N := 3) hx hb hts inAX5 hown hK hP 0 rfl rfl 0 (by decide) (hts _ q297) (fun _ h9 => h9) rfl dX5_change_1 ?_
  refine lv_bipush (v := 108) hx hb dX5_change_4 (by decide) ?_
  refine lv_icmp_ne (tgt := 13) hx hb dX5_change_6 (by decide) (fun _ => ?_) (fun c1 => absurd c1 (by decide))
  refine lv_aload_n hx hb dX5_change_13 rfl (lv_at hl 0 rfl) ?_
  refine va_get (D := D) (ci := 8) (v := .int 109) (C := RX5) (T := TX5) (N := 3) hx hb hts inAX5 hown hK hP 0 rfl rfl 0 (by decide) (hts _ q297) (fun _ h9 => h9) rfl dX5_change_14 ?_
  refine lv_bipush (v := 109) hx hb dX5_change_17 (by decide) ?_
  refine lv_icmp_ne (tgt := 26) hx hb dX5_change_19 (by decide) (fun c2 => absurd (by decide) c2) (fun _ => ?_)
  refine lv_aload_n hx hb dX5_change_22 rfl (lv_at hl 1 rfl) ?_
  replace hPc := hP.sub (ws' := [(tt 0, .inr (9, [.ref (tt 1), .ref (tt 3), .ref (tt 5), .int (nI nm)])), (tt 1, .inr (5, [.ref (tt 2)])), (tt 2, .inl (dA 0, 84, .inl tw)), (tt 3, .inr (5, [.ref (tt 4)])), (tt 4, .inl (dA 0, 84, .inl tp)), (tt 5, .inr (5, [.ref (tt 6)])), (tt 6, .inl (dA 0, 84, .inl tx))]) [1, 2, 3, 4, 5, 6, 7] rfl
  replace hDc := hD.sub (ws' := [(tt 0, .inr (9, [.ref (tt 1), .ref (tt 3), .ref (tt 5), .int (nI nm)])), (tt 1, .inr (5, [.ref (tt 2)])), (tt 2, .inl (dA 0, 84, .inl tw)), (tt 3, .inr (5, [.ref (tt 4)])), (tt 4, .inl (dA 0, 84, .inl tp)), (tt 5, .inr (5, [.ref (tt 6)])), (tt 6, .inl (dA 0, 84, .inl tx))]) [1, 2, 3, 4, 5, 6, 7] (by decide) rfl
  replace hFc := va_free (wc := [(tt 0, .inr (9, [.ref (tt 1), .ref (tt 3), .ref (tt 5), .int (nI nm)])), (tt 1, .inr (5, [.ref (tt 2)])), (tt 2, .inl (dA 0, 84, .inl tw)), (tt 3, .inr (5, [.ref (tt 4)])), (tt 4, .inl (dA 0, 84, .inl tp)), (tt 5, .inr (5, [.ref (tt 6)])), (tt 6, .inl (dA 0, 84, .inl tx))]) hD hS hA [1, 2, 3, 4, 5, 6, 7] rfl
  refine va_callv (va_runV (As := []) (rest := []) ⟨hx, hb, hml, hown, hts⟩ (t_makeEven l D dA E tt tw tp tx nm  s.heap.size  (by omega)) (cwV 0 hts (ga_V q512 q513 q510 q218 q511) rfl rfl rfl (by decide +kernel) ⟨(Nat.le_of_ble_eq_true rfl), (Nat.le_of_ble_eq_true rfl)⟩) ⟨pb_blind, va_recv hK hPc (ci := 9) (q0 := 0) rfl rfl, pb_pre hK hPc hDc hZ hS hFc _⟩ rfl rfl hl.1 rfl (lv_room (Nat.le_of_ble_eq_true rfl)) dX5_change_23 ⟨(Nat.le_of_ble_eq_true rfl), (Nat.le_of_ble_eq_true rfl)⟩) hS (fun q _ h => hFc q h) hFc (fun u t H1 locs ht hvm hw hB hz1 hk1 hS => ?_)
  refine W.widen (k := 0) (n := 0) (Nat.le_of_ble_eq_true rfl) (Nat.le_of_ble_eq_true rfl) ?_
  obtain ⟨u3, rfl⟩ : ∃ z, z = u := ⟨_, rfl⟩
  have hw4 := hw
  clear hw
  obtain ⟨hP1, hD1⟩ := hB
  rw [ht] at hP1
  obtain ⟨hP, hD⟩ := va_join (wr := [(so, .inr (8, [.int 109, .int sa, .int sb]))]) (w1 := [(tt 0, .inr (9, [.ref (tt 1), .ref (tt 3), .ref (tt 5), .int (nI nm)])), (tt 1, .inr (5, [.ref (tt 2)])), (tt 2, .inl (dA 0, 84, .inl (fl (fun j => evF (tw j)) tw nm))), (tt 3, .inr (5, [.ref (tt 4)])), (tt 4, .inl (dA 0, 84, .inl tp)), (tt 5, .inr (5, [.ref (tt 6)])), (tt 6, .inl (dA 0, 84, .inl tx))]) hP hD [1, 2, 3, 4, 5, 6, 7] [0] rfl rfl (by decide) (by decide) hk1 hFc hP1 hD1
  generalize H1 = H at hP hS ⊢
  replace hP : va_P D vwCl [(so, .inr (8, [.int 109, .int sa, .int sb])), (tt 0, .inr (9, [.ref (tt 1), .ref (tt 3), .ref (tt 5), .int (nI nm)])), (tt 1, .inr (5, [.ref (tt 2)])), (tt 2, .inl (dA 0, 84, .inl (fl (fun j => evF (tw j)) tw nm))), (tt 3, .inr (5, [.ref (tt 4)])), (tt 4, .inl (dA 0, 84, .inl tp)), (tt 5, .inr (5, [.ref (tt 6)])), (tt 6, .inl (dA 0, 84, .inl tx))] H := hP
  replace hD : va_D A [(so, .inr (8, [.int 109, .int sa, .int sb])), (tt 0, .inr (9, [.ref (tt 1), .ref (tt 3), .ref (tt 5), .int (nI nm)])), (tt 1, .inr (5, [.ref (tt 2)])), (tt 2, .inl (dA 0, 84, .inl (fl (fun j => evF (tw j)) tw nm))), (tt 3, .inr (5, [.ref (tt 4)])), (tt 4, .inl (dA 0, 84, .inl tp)), (tt 5, .inr (5, [.ref (tt 6)])), (tt 6, .inl (dA 0, 84, .inl tx))] := hD
  refine lv_aload_n hx hb dX5_change_26 rfl (lv_at hl 0 rfl) ?_
  refine va_get (D := D) (ci := 8) (v := .int 109) (C := RX5) (T := TX5) (N := 3) hx hb hts inAX5 hown hK hP 0 rfl rfl 0 (by decide) (hts _ q297) (fun _ h9 => h9) rfl dX5_change_27 ?_
  refine lv_bipush (v := 115) hx hb dX5_change_30 (by decide) ?_
  refine lv_icmp_ne (tgt := 43) hx hb dX5_change_32 (by decide) (fun _ => ?_) (fun c5 => absurd c5 (by decide))
  refine lv_aload_n hx hb dX5_change_43 rfl (lv_at hl 0 rfl) ?_
  refine va_get (D := D) (ci := 8) (v := .int 109) (C := RX5) (T := TX5) (N := 3) hx hb hts inAX5 hown hK hP 0 rfl rfl 0 (by decide) (hts _ q297) (fun _ h9 => h9) rfl dX5_change_44 ?_
  refine lv_bipush (v := 99) hx hb dX5_change_47 (by decide) ?_
  refine lv_icmp_ne (tgt := 60) hx hb dX5_change_49 (by decide) (fun _ => ?_) (fun c6 => absurd c6 (by decide))
  refine lv_aload_n hx hb dX5_change_60 rfl (lv_at hl 0 rfl) ?_
  refine va_get (D := D) (ci := 8) (v := .int 109) (C := RX5) (T := TX5) (N := 3) hx hb hts inAX5 hown hK hP 0 rfl rfl 0 (by decide) (hts _ q297) (fun _ h9 => h9) rfl dX5_change_61 ?_
  refine lv_bipush (v := 121) hx hb dX5_change_64 (by decide) ?_
  refine lv_icmp_ne (tgt := 81) hx hb dX5_change_66 (by decide) (fun _ => ?_) (fun c7 => absurd c7 (by decide))
  refine W.widen (k := 0) (n := 0) (Nat.le_of_ble_eq_true rfl) (Nat.le_of_ble_eq_true rfl) ?_
  have hP9 := hP.sub (ws' := [(so, .inr (8, [.int 109, .int sa, .int sb])), (tt 0, .inr (9, [.ref (tt 1), .ref (tt 3), .ref (tt 5), .int (nI nm)])), (tt 1, .inr (5, [.ref (tt 2)])), (tt 2, .inl (dA 0, 84, .inl (fl (fun j => evF (tw j)) tw nm))), (tt 3, .inr (5, [.ref (tt 4)])), (tt 4, .inl (dA 0, 84, .inl tp)), (tt 5, .inr (5, [.ref (tt 6)])), (tt 6, .inl (dA 0, 84, .inl tx))]) [0, 1, 2, 3, 4, 5, 6, 7] rfl
  have hD9 := hD.sub (ws' := [(so, .inr (8, [.int 109, .int sa, .int sb])), (tt 0, .inr (9, [.ref (tt 1), .ref (tt 3), .ref (tt 5), .int (nI nm)])), (tt 1, .inr (5, [.ref (tt 2)])), (tt 2, .inl (dA 0, 84, .inl (fl (fun j => evF (tw j)) tw nm))), (tt 3, .inr (5, [.ref (tt 4)])), (tt 4, .inl (dA 0, 84, .inl tp)), (tt 5, .inr (5, [.ref (tt 6)])), (tt 6, .inl (dA 0, 84, .inl tx))]) [0, 1, 2, 3, 4, 5, 6, 7] (by decide) rfl
  exact W.vret hx hb hr (fun t ht hW => ⟨⟨(), rfl, trivial, ⟨by rw [ht]; exact hP9, hD9⟩⟩, hS.F ht⟩) hS.2.2 dX5_change_81
