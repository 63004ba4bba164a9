/-! CONTRACTS -/
theorem q439 : (.fieldLink RX3 35 "TallowIndex$Search" "asked" "I" : Cond) ∈ WA := WA_of (tb_1 109 rfl) rfl
theorem q441 : (.methodLink RX3 74 yX3_cell : Cond) ∈ WA := WA_of (tb_3 132 rfl) rfl
theorem q442 : (.static yX3_cell : Cond) ∈ WA := WA_of (tb_3 133 rfl) rfl
theorem q440 : (.code yX3_cell cX3_cell 2 (some .int) : Cond) ∈ WA := WA_of (tb_3 134 rfl) rfl
theorem q438 : (.methodLink RX3 49 yX2_get : Cond) ∈ WA := WA_of (tb_3 83 rfl) rfl
theorem q443 : (.fieldLink RX3 128 "TallowIndex$Search" "found" "I" : Cond) ∈ WA := WA_of (tb_1 110 rfl) rfl
theorem q444 : (.methodLink RX3 85 yX2_put : Cond) ∈ WA := WA_of (tb_3 79 rfl) rfl
theorem q447 : (.methodLink RX3 125 yX1_joinScores : Cond) ∈ WA := WA_of (tb_3 139 rfl) rfl
theorem q448 : (.instanceMethod yX1_joinScores : Cond) ∈ WA := WA_of (tb_3 140 rfl) rfl
theorem q445 : (.selects RX1 yX1_joinScores yX1_joinScores : Cond) ∈ WA := WA_of (tb_3 141 rfl) rfl
theorem q446 : (.code yX1_joinScores cX1_joinScores 4 (some .int) : Cond) ∈ WA := WA_of (tb_3 142 rfl) rfl
theorem znF_17 {U : State} (h : ZS U) : va_Nw (.fieldLinkNest "TallowIndex$Search" 119 "TallowIndex$Query" "first" "I" "TallowIndex") U := h.2.2.1 ("TallowIndex$Search", 119, "TallowIndex$Query", "first", "I", "TallowIndex") (List.mem_of_getElem? (i := 1) rfl)
theorem znF_18 {U : State} (h : ZS U) : va_Nw (.fieldLinkNest "TallowIndex$Search" 122 "TallowIndex$Query" "second" "I" "TallowIndex") U := h.2.2.1 ("TallowIndex$Search", 122, "TallowIndex$Query", "second", "I", "TallowIndex") (List.mem_of_getElem? (i := 2) rfl)
def stI (R : Nat → Int32) (h : Nat → Nat) (x : Nat) : Nat → Nat
  | 0 => 0
  | k + 1 => if R (h k) < R x then stI R h x k else k + 1
theorem stI_le {R : Nat → Int32} {h : Nat → Nat} {x : Nat} : ∀ n, stI R h x n ≤ n
  | 0 => Nat.le_refl _
  | n + 1 => by
    have := stI_le (R := R) (h := h) (x := x) n
    unfold stI
    split <;> omega
/-- the order by ranks that are ints is the order by ranks that are natural numbers, where they agree -/
theorem stI_stp {R : Nat → Int32} {rk h : Nat → Nat} {x : Nat} : ∀ n, (∀ j, j < n → (R (h j) < R x ↔ rk (h j) < rk x)) → stI R h x n = stp rk h x n
  | 0, _ => rfl
  | n + 1, hh => by
    have h1 := stI_stp (R := R) (rk := rk) (h := h) (x := x) n (fun j hj => hh j (by omega))
    have h2 := hh n (by omega)
    unfold stI stp
    rw [h1]
    by_cases e : R (h n) < R x
    · rw [if_pos e, if_pos (h2.mp e)]
    · rw [if_neg e, if_neg (mt h2.mpr e)]
theorem pio_rd {g : Nat → Int32} {h : Nat → Nat} {x k n : Nat} (e : upd g (k + 1) (nI x) = nF (shH h x (k + 1) n)) : g k = nI (h k) := by
  have h1 := congrFun e k
  unfold upd nF at h1
  rw [if_neg (by omega), shH_lo (by omega)] at h1
  exact h1
theorem pio_st {g : Nat → Int32} {h : Nat → Nat} {x k n : Nat} (hk : k + 1 ≤ n) (e : upd g (k + 1) (nI x) = nF (shH h x (k + 1) n)) : upd (upd g (k + 1) (nI (h k))) k (nI x) = nF (shH h x k n) := by
  rw [← sw_H hk, ← e]
  funext j
  unfold upd
  split
  · rfl
  · split
    · rfl
    · rfl
def sjF (k : Int32) (qa qb pt : Nat) (sc : Nat → Int32) (i j : Nat) : Int32 := if 30 * pt ≤ j ∧ j < 30 * pt + i then jsF k (sc (30 * qa + (j - 30 * pt))) (sc (30 * qb + (j - 30 * pt))) else sc j
theorem sj_0 {k : Int32} {qa qb pt : Nat} {sc : Nat → Int32} : sc = sjF k qa qb pt sc 0 := by
  funext j
  unfold sjF
  rw [if_neg (by omega)]
theorem sj_s {k : Int32} {qa qb pt i : Nat} {sc : Nat → Int32} : upd (sjF k qa qb pt sc i) (30 * pt + i) (jsF k (sc (30 * qa + i)) (sc (30 * qb + i))) = sjF k qa qb pt sc (i + 1) := by
  funext j
  unfold upd sjF
  by_cases e : j = 30 * pt + i
  · subst e
    rw [if_pos rfl, if_pos (by omega), Nat.add_sub_cancel_left]
  · rw [if_neg e]
    by_cases e2 : 30 * pt ≤ j ∧ j < 30 * pt + i
    · rw [if_pos e2, if_pos (by omega)]
    · rw [if_neg e2, if_neg (by omega)]
theorem sj_rd {k : Int32} {qa qb pt i j : Nat} {sc : Nat → Int32} (h : j < 30 * pt) : sjF k qa qb pt sc i j = sc j := by
  unfold sjF
  rw [if_neg (by omega)]
set_option maxHeartbeats 4000000 in
set_option maxRecDepth 100000 in
theorem z_cell (l : Launch) (D : va_G) (dA : Nat → ClassId) (E : Nat) (k1 k2 : Nat) (sz : Nat) (hk1 : k1 < 40) (hk2 : k2 < 30)  : Met l yX3_cell (wq (.code yX3_cell cX3_cell 2 (some .int))) { frames := 0, cells := 0, slots := 0, locals := 0 } (va_Pc [.int (nI k1), .int (nI k2)] (PcB D dA E [] sz)) (va_Qi (fun (r : Int32) (u : Unit) => r = nI (30 * k1 + k2)) (fun u t => va_P D vwCl [] t.heap ∧ va_D (va_A [] sz) []) (va_A [] sz)) 0 0 (va_A [] sz) := by
  refine mb_of (Qc := fun A => va_Qi (fun (r : Int32) (u : Unit) => r = nI (30 * k1 + k2)) (fun u t => va_P D vwCl [] t.heap ∧ va_D A []) A) RX3 rfl (by decide) (Nat.le_of_ble_eq_true rfl) ?_
  intro p e s m args below meth c hae hx hb hr hts hown hlocks hml hnm hP hK A hAe hD hZ hS hA ls hl
  replace hl : lv_has ls 2 [(0, .int (nI k1)), (1, .int (nI k2))] := hl
  refine lv_iload_n hx hb dX3_cell_0 rfl (lv_at hl 0 rfl) ?_
  refine lv_bipush (v := 30) hx hb dX3_cell_1 (by decide) ?_
  refine lv_imul hx hb dX3_cell_3 ?_
  refine lv_topi (fun x1 ex1 => ?_)
  obtain rfl : x1 = nI (k1 * 30) := ex1.trans (pk_mul k1 30)
  refine lv_iload_n hx hb dX3_cell_4 rfl (lv_at hl 1 rfl) ?_
  refine lv_iadd hx hb dX3_cell_5 ?_
  refine lv_topi (fun x2 ex2 => ?_)
  obtain rfl : x2 = nI ((k1 * 30) + k2) := ex2.trans (nI_add (k1 * 30) k2)
  refine W.widen (k := 0) (n := 0) (Nat.le_of_ble_eq_true rfl) (Nat.le_of_ble_eq_true rfl) ?_
  have hP9 := hP.sub (ws' := []) [] rfl
  have hD9 := hD.sub (ws' := []) [] (by decide) rfl
  exact W.iret (v := (nI ((k1 * 30) + k2))) hx hb hr (fun t ht hW => ⟨⟨(nI ((k1 * 30) + k2)), (), rfl, (show _ = nI (30 * k1 + k2) from congrArg nI (by omega)), ⟨by rw [ht]; exact hP9, hD9⟩⟩, hS.F ht⟩) hS.2.2 dX3_cell_6

set_option maxHeartbeats 4000000 in
set_option maxRecDepth 100000 in
theorem z_scoreOf (l : Launch) (D : va_G) (dA : Nat → ClassId) (E : Nat) (zq : Nat → Nat) (aq : Nat) (fd : Int32) (sc : Nat → Int32) (k : Nat) (sz : Nat) (haq : aq < 40) (hk : k < 30)  : Met l yX3_scoreOf (wq (.code yX3_scoreOf cX3_scoreOf 2 (some .int))) { frames := 1, cells := 0, slots := 0, locals := 21 } (va_Pc [.ref (zq 0), .int (nI k)] (PcB D dA E [(zq 0, .inr (6, [.ref (zq 1), .ref (zq 3), .ref (zq 5), .ref (zq 7), .ref (zq 9), .ref (zq 11), .int (nI aq), .int fd])), (zq 5, .inr (5, [.ref (zq 6)])), (zq 6, .inl (dA 0, 1200, .inl sc))] sz)) (va_Qi (fun (r : Int32) (u : Unit) => r = sc (30 * aq + k)) (fun u t => va_P D vwCl [(zq 0, .inr (6, [.ref (zq 1), .ref (zq 3), .ref (zq 5), .ref (zq 7), .ref (zq 9), .ref (zq 11), .int (nI aq), .int fd])), (zq 5, .inr (5, [.ref (zq 6)])), (zq 6, .inl (dA 0, 1200, .inl sc))] t.heap ∧ va_D (va_A [(zq 0, .inr (6, [.ref (zq 1), .ref (zq 3), .ref (zq 5), .ref (zq 7), .ref (zq 9), .ref (zq 11), .int (nI aq), .int fd])), (zq 5, .inr (5, [.ref (zq 6)])), (zq 6, .inl (dA 0, 1200, .inl sc))] sz) [(zq 0, .inr (6, [.ref (zq 1), .ref (zq 3), .ref (zq 5), .ref (zq 7), .ref (zq 9), .ref (zq 11), .int (nI aq), .int fd])), (zq 5, .inr (5, [.ref (zq 6)])), (zq 6, .inl (dA 0, 1200, .inl sc))]) (va_A [(zq 0, .inr (6, [.ref (zq 1), .ref (zq 3), .ref (zq 5), .ref (zq 7), .ref (zq 9), .ref (zq 11), .int (nI aq), .int fd])), (zq 5, .inr (5, [.ref (zq 6)])), (zq 6, .inl (dA 0, 1200, .inl sc))] sz)) 0 0 (va_A [(zq 0, .inr (6, [.ref (zq 1), .ref (zq 3), .ref (zq 5), .ref (zq 7), .ref (zq 9), .ref (zq 11), .int (nI aq), .int fd])), (zq 5, .inr (5, [.ref (zq 6)])), (zq 6, .inl (dA 0, 1200, .inl sc))] sz) := by
  refine mb_of (Qc := fun A => va_Qi (fun (r : Int32) (u : Unit) => r = sc (30 * aq + k)) (fun u t => va_P D vwCl [(zq 0, .inr (6, [.ref (zq 1), .ref (zq 3), .ref (zq 5), .ref (zq 7), .ref (zq 9), .ref (zq 11), .int (nI aq), .int fd])), (zq 5, .inr (5, [.ref (zq 6)])), (zq 6, .inl (dA 0, 1200, .inl sc))] t.heap ∧ va_D A [(zq 0, .inr (6, [.ref (zq 1), .ref (zq 3), .ref (zq 5), .ref (zq 7), .ref (zq 9), .ref (zq 11), .int (nI aq), .int fd])), (zq 5, .inr (5, [.ref (zq 6)])), (zq 6, .inl (dA 0, 1200, .inl sc))]) A) RX3 rfl (by decide) (Nat.le_of_ble_eq_true rfl) ?_
  intro p e s m args below meth c hae hx hb hr hts hown hlocks hml hnm hP hK A hAe hD hZ hS hA ls hl
  replace hl : lv_has ls 2 [(0, .ref (zq 0)), (1, .int (nI k))] := hl
  refine lv_aload_n hx hb dX3_scoreOf_0 rfl (lv_at hl 0 rfl) ?_
  refine va_get (D := D) (ci := 6) (v := .ref (zq 5)) (C := RX3) (T := TX3) (N := 8) hx hb hts inAX3 hown hK hP 0 rfl rfl 2 (by decide) (hts _ q315) (fun _ h9 => h9) rfl dX3_scoreOf_1 ?_
  refine lv_aload_n hx hb dX3_scoreOf_4 rfl (lv_at hl 0 rfl) ?_
  refine va_get (D := D) (ci := 6) (v := .int (nI aq)) (C := RX3) (T := TX3) (N := 8) hx hb hts inAX3 hown hK hP 0 rfl rfl 6 (by decide) (hts _ q439) (fun _ h9 => h9) rfl dX3_scoreOf_5 ?_
  refine lv_iload_n hx hb dX3_scoreOf_8 rfl (lv_at hl 1 rfl) ?_
  replace hPc := hP.sub (ws' := []) [] rfl
  replace hDc := hD.sub (ws' := []) [] (by decide) rfl
  replace hFc := va_free (wc := []) hD hS hA [] rfl
  refine va_calli (va_runS (As := [.int (nI aq), .int (nI k)]) (rest := [.ref (zq 5)]) ⟨hx, hb, hml, hown, hts⟩ (z_cell l D dA E aq k s.heap.size  (by omega) (by omega)) (va_cwS 2 hts (ga_S q441 q442 q341 q440) rfl rfl rfl (by decide +kernel) ⟨(Nat.le_of_ble_eq_true rfl), (Nat.le_of_ble_eq_true rfl)⟩) ⟨pb_blind, pb_pre hK hPc hDc hZ hS hFc _⟩ rfl rfl hl.1 rfl (lv_room (Nat.le_of_ble_eq_true rfl)) dX3_scoreOf_9 ⟨(Nat.le_of_ble_eq_true rfl), (Nat.le_of_ble_eq_true rfl)⟩) hS (fun q _ h => hFc q h) hFc (fun r u t H1 locs ht hvm hw hB hz1 hk1 hS => ?_)
  refine W.widen (k := 0) (n := 0) (Nat.le_of_ble_eq_true rfl) (Nat.le_of_ble_eq_true rfl) ?_
  obtain ⟨r1, rfl⟩ : ∃ z, z = r := ⟨_, rfl⟩
  obtain ⟨u2, rfl⟩ : ∃ z, z = u := ⟨_, rfl⟩
  have hw3 := hw
  clear hw
  obtain ⟨hP1, hD1⟩ := hB
  rw [ht] at hP1
  obtain ⟨hP, hD⟩ := va_join (wr := [(zq 0, .inr (6, [.ref (zq 1), .ref (zq 3), .ref (zq 5), .ref (zq 7), .ref (zq 9), .ref (zq 11), .int (nI aq), .int fd])), (zq 5, .inr (5, [.ref (zq 6)])), (zq 6, .inl (dA 0, 1200, .inl sc))]) (w1 := []) hP hD [] [0, 1, 2] rfl rfl (by decide) (by decide) hk1 hFc hP1 hD1
  generalize H1 = H at hP hS ⊢
  replace hP : va_P D vwCl [(zq 0, .inr (6, [.ref (zq 1), .ref (zq 3), .ref (zq 5), .ref (zq 7), .ref (zq 9), .ref (zq 11), .int (nI aq), .int fd])), (zq 5, .inr (5, [.ref (zq 6)])), (zq 6, .inl (dA 0, 1200, .inl sc))] H := hP
  replace hD : va_D A [(zq 0, .inr (6, [.ref (zq 1), .ref (zq 3), .ref (zq 5), .ref (zq 7), .ref (zq 9), .ref (zq 11), .int (nI aq), .int fd])), (zq 5, .inr (5, [.ref (zq 6)])), (zq 6, .inl (dA 0, 1200, .inl sc))] := hD
  obtain rfl : r1 = nI (30 * aq + k) := hw3
  replace hPc := hP.sub (ws' := [(zq 5, .inr (5, [.ref (zq 6)])), (zq 6, .inl (dA 0, 1200, .inl sc))]) [1, 2] rfl
  replace hDc := hD.sub (ws' := [(zq 5, .inr (5, [.ref (zq 6)])), (zq 6, .inl (dA 0, 1200, .inl sc))]) [1, 2] (by decide) rfl
  replace hFc := va_free (wc := [(zq 5, .inr (5, [.ref (zq 6)])), (zq 6, .inl (dA 0, 1200, .inl sc))]) hD hS hA [1, 2] rfl
  refine va_calli (va_runV (As := [.int (nI (30 * aq + k))]) (rest := []) ⟨hx, hb, hml, hown, hts⟩ (t_getN l D dA E (zq 5) (zq 6) 1200 sc (30 * aq + k) H.size  (by omega) (by decide)) (cwV 1 hts (ga_V q438 q203 q200 q204 q201) rfl rfl rfl (by decide +kernel) ⟨(Nat.le_of_ble_eq_true rfl), (Nat.le_of_ble_eq_true rfl)⟩) ⟨pb_blind, va_recv hK hPc (ci := 5) (q0 := 0) rfl rfl, pb_pre hK hPc hDc hZ hS hFc _⟩ rfl rfl hl.1 rfl (lv_room (Nat.le_of_ble_eq_true rfl)) dX3_scoreOf_12 ⟨(Nat.le_of_ble_eq_true rfl), (Nat.le_of_ble_eq_true rfl)⟩) hS (fun q _ h => hFc q h) hFc (fun r u t H1 locs ht hvm hw hB hz1 hk1 hS => ?_)
  refine W.widen (k := 0) (n := 0) (Nat.le_of_ble_eq_true rfl) (Nat.le_of_ble_eq_true rfl) ?_
  obtain ⟨r4, rfl⟩ : ∃ z, z = r := ⟨_, rfl⟩
  obtain ⟨u5, rfl⟩ : ∃ z, z = u := ⟨_, rfl⟩
  have hw6 := hw
  clear hw
  obtain ⟨hP1, hD1⟩ := hB
  rw [ht] at hP1
  obtain ⟨hP, hD⟩ := va_join (wr := [(zq 0, .inr (6, [.ref (zq 1), .ref (zq 3), .ref (zq 5), .ref (zq 7), .ref (zq 9), .ref (zq 11), .int (nI aq), .int fd]))]) (w1 := [(zq 5, .inr (5, [.ref (zq 6)])), (zq 6, .inl (dA 0, 1200, .inl sc))]) hP hD [1, 2] [0] rfl rfl (by decide) (by decide) hk1 hFc hP1 hD1
  generalize H1 = H at hP hS ⊢
  replace hP : va_P D vwCl [(zq 0, .inr (6, [.ref (zq 1), .ref (zq 3), .ref (zq 5), .ref (zq 7), .ref (zq 9), .ref (zq 11), .int (nI aq), .int fd])), (zq 5, .inr (5, [.ref (zq 6)])), (zq 6, .inl (dA 0, 1200, .inl sc))] H := hP
  replace hD : va_D A [(zq 0, .inr (6, [.ref (zq 1), .ref (zq 3), .ref (zq 5), .ref (zq 7), .ref (zq 9), .ref (zq 11), .int (nI aq), .int fd])), (zq 5, .inr (5, [.ref (zq 6)])), (zq 6, .inl (dA 0, 1200, .inl sc))] := hD
  obtain rfl : r4 = sc (30 * aq + k) := hw6
  refine W.widen (k := 0) (n := 0) (Nat.le_of_ble_eq_true rfl) (Nat.le_of_ble_eq_true rfl) ?_
  have hP9 := hP.sub (ws' := [(zq 0, .inr (6, [.ref (zq 1), .ref (zq 3), .ref (zq 5), .ref (zq 7), .ref (zq 9), .ref (zq 11), .int (nI aq), .int fd])), (zq 5, .inr (5, [.ref (zq 6)])), (zq 6, .inl (dA 0, 1200, .inl sc))]) [0, 1, 2] rfl
  have hD9 := hD.sub (ws' := [(zq 0, .inr (6, [.ref (zq 1), .ref (zq 3), .ref (zq 5), .ref (zq 7), .ref (zq 9), .ref (zq 11), .int (nI aq), .int fd])), (zq 5, .inr (5, [.ref (zq 6)])), (zq 6, .inl (dA 0, 1200, .inl sc))]) [0, 1, 2] (by decide) rfl
  exact W.iret (v := (sc (30 * aq + k))) hx hb hr (fun t ht hW => ⟨⟨(sc (30 * aq + k)), (), rfl, rfl, ⟨by rw [ht]; exact hP9, hD9⟩⟩, hS.F ht⟩) hS.2.2 dX3_scoreOf_15

set_option maxHeartbeats 4000000 in
set_option maxRecDepth 100000 in
theorem z_putInOrder (l : Launch) (D : va_G) (dA : Nat → ClassId) (E : Nat) (zq : Nat → Nat) (aq : Int32) (R : Nat → Int32) (h : Nat → Nat) (n dx : Nat) (sz : Nat) (hn : n < 30) (hdx : dx < 30) (hh : ∀ j, h j < 30)  : Met l yX3_putInOrder (wq (.code yX3_putInOrder cX3_putInOrder 3 none)) { frames := 1, cells := 0, slots := 0, locals := 22 } (va_Pc [.ref (zq 0), .int (nI dx)] (PcB D dA E [(zq 0, .inr (6, [.ref (zq 1), .ref (zq 3), .ref (zq 5), .ref (zq 7), .ref (zq 9), .ref (zq 11), .int aq, .int (nI n)])), (zq 7, .inr (5, [.ref (zq 8)])), (zq 8, .inl (dA 0, 30, .inl R)), (zq 9, .inr (5, [.ref (zq 10)])), (zq 10, .inl (dA 0, 30, .inl (nF h)))] sz)) (va_Qv (fun (u : Unit) => True) (fun u t => va_P D vwCl [(zq 0, .inr (6, [.ref (zq 1), .ref (zq 3), .ref (zq 5), .ref (zq 7), .ref (zq 9), .ref (zq 11), .int aq, .int (nI (n + 1))])), (zq 7, .inr (5, [.ref (zq 8)])), (zq 8, .inl (dA 0, 30, .inl R)), (zq 9, .inr (5, [.ref (zq 10)])), (zq 10, .inl (dA 0, 30, .inl (nF (shH h dx (stI R h dx n) n))))] t.heap ∧ va_D (va_A [(zq 0, .inr (6, [.ref (zq 1), .ref (zq 3), .ref (zq 5), .ref (zq 7), .ref (zq 9), .ref (zq 11), .int aq, .int (nI n)])), (zq 7, .inr (5, [.ref (zq 8)])), (zq 8, .inl (dA 0, 30, .inl R)), (zq 9, .inr (5, [.ref (zq 10)])), (zq 10, .inl (dA 0, 30, .inl (nF h)))] sz) [(zq 0, .inr (6, [.ref (zq 1), .ref (zq 3), .ref (zq 5), .ref (zq 7), .ref (zq 9), .ref (zq 11), .int aq, .int (nI (n + 1))])), (zq 7, .inr (5, [.ref (zq 8)])), (zq 8, .inl (dA 0, 30, .inl R)), (zq 9, .inr (5, [.ref (zq 10)])), (zq 10, .inl (dA 0, 30, .inl (nF (shH h dx (stI R h dx n) n))))]) (va_A [(zq 0, .inr (6, [.ref (zq 1), .ref (zq 3), .ref (zq 5), .ref (zq 7), .ref (zq 9), .ref (zq 11), .int aq, .int (nI n)])), (zq 7, .inr (5, [.ref (zq 8)])), (zq 8, .inl (dA 0, 30, .inl R)), (zq 9, .inr (5, [.ref (zq 10)])), (zq 10, .inl (dA 0, 30, .inl (nF h)))] sz)) 0 0 (va_A [(zq 0, .inr (6, [.ref (zq 1), .ref (zq 3), .ref (zq 5), .ref (zq 7), .ref (zq 9), .ref (zq 11), .int aq, .int (nI n)])), (zq 7, .inr (5, [.ref (zq 8)])), (zq 8, .inl (dA 0, 30, .inl R)), (zq 9, .inr (5, [.ref (zq 10)])), (zq 10, .inl (dA 0, 30, .inl (nF h)))] sz) := by
  refine mb_of (Qc := fun A => va_Qv (fun (u : Unit) => True) (fun u t => va_P D vwCl [(zq 0, .inr (6, [.ref (zq 1), .ref (zq 3), .ref (zq 5), .ref (zq 7), .ref (zq 9), .ref (zq 11), .int aq, .int (nI (n + 1))])), (zq 7, .inr (5, [.ref (zq 8)])), (zq 8, .inl (dA 0, 30, .inl R)), (zq 9, .inr (5, [.ref (zq 10)])), (zq 10, .inl (dA 0, 30, .inl (nF (shH h dx (stI R h dx n) n))))] t.heap ∧ va_D A [(zq 0, .inr (6, [.ref (zq 1), .ref (zq 3), .ref (zq 5), .ref (zq 7), .ref (zq 9), .ref (zq 11), .int aq, .int (nI (n + 1))])), (zq 7, .inr (5, [.ref (zq 8)])), (zq 8, .inl (dA 0, 30, .inl R)), (zq 9, .inr (5, [.ref (zq 10)])), (zq 10, .inl (dA 0, 30, .inl (nF (shH h dx (stI R h dx n) n))))]) A) RX3 rfl (by decide) (Nat.le_of_ble_eq_true rfl) ?_
  intro p e s m args below meth c hae hx hb hr hts hown hlocks hml hnm hP hK A hAe hD hZ hS hA ls hl
  replace hl : lv_has ls 3 [(0, .ref (zq 0)), (1, .int (nI dx))] := hl
  refine lv_aload_n hx hb dX3_putInOrder_0 rfl (lv_at hl 0 rfl) ?_
  refine va_get (D := D) (ci := 6) (v := .int (nI n)) (C := RX3) (T := TX3) (N := 8) hx hb hts inAX3 hown hK hP 0 rfl rfl 7 (by decide) (hts _ q443) (fun _ h9 => h9) rfl dX3_putInOrder_1 ?_
  refine lv_istore_n (lv' := [(2, .int (nI n)), (0, .ref (zq 0)), (1, .int (nI dx))]) hx hb dX3_putInOrder_4 rfl hl (by decide) rfl (fun ls hl => ?_)
  have K5 : ∀ (k5 : Nat) (g5_0 : Nat → Int32), k5 ≤ n → (upd g5_0 k5 (nI dx) = nF (shH h dx k5 n) ∧ stI R h dx n = stI R h dx k5) → ∀ (H : Heap) (locs : List Loc), va_P D vwCl [(zq 0, .inr (6, [.ref (zq 1), .ref (zq 3), .ref (zq 5), .ref (zq 7), .ref (zq 9), .ref (zq 11), .int aq, .int (nI n)])), (zq 7, .inr (5, [.ref (zq 8)])), (zq 8, .inl (dA 0, 30, .inl R)), (zq 9, .inr (5, [.ref (zq 10)])), (zq 10, .inl (dA 0, 30, .inl g5_0))] H → va_D A [(zq 0, .inr (6, [.ref (zq 1), .ref (zq 3), .ref (zq 5), .ref (zq 7), .ref (zq 9), .ref (zq 11), .int aq, .int (nI n)])), (zq 7, .inr (5, [.ref (zq 8)])), (zq 8, .inl (dA 0, 30, .inl R)), (zq 9, .inr (5, [.ref (zq 10)])), (zq 10, .inl (dA 0, 30, .inl g5_0))] → va_S A s.heap H locs → ∀ ls : Array Slot, lv_has ls 3 [(2, .int (nI k5)), (0, .ref (zq 0)), (1, .int (nI dx))] → W p l e { frames := 1, cells := 0, slots := 0, locals := 22 } s m args below meth c H locs 0 0 (MQ below (va_Qv (fun (u : Unit) => True) (fun u t => va_P D vwCl [(zq 0, .inr (6, [.ref (zq 1), .ref (zq 3), .ref (zq 5), .ref (zq 7), .ref (zq 9), .ref (zq 11), .int aq, .int (nI (n + 1))])), (zq 7, .inr (5, [.ref (zq 8)])), (zq 8, .inl (dA 0, 30, .inl R)), (zq 9, .inr (5, [.ref (zq 10)])), (zq 10, .inl (dA 0, 30, .inl (nF (shH h dx (stI R h dx n) n))))] t.heap ∧ va_D A [(zq 0, .inr (6, [.ref (zq 1), .ref (zq 3), .ref (zq 5), .ref (zq 7), .ref (zq 9), .ref (zq 11), .int aq, .int (nI (n + 1))])), (zq 7, .inr (5, [.ref (zq 8)])), (zq 8, .inl (dA 0, 30, .inl R)), (zq 9, .inr (5, [.ref (zq 10)])), (zq 10, .inl (dA 0, 30, .inl (nF (shH h dx (stI R h dx n) n))))]) A) args s 0 0 A) (F0 m 5 ls []) := by
    intro k5
    induction k5 with
    | zero =>
      intro g5_0 hkd5 hex5 H locs hP hD hS ls hl
      refine lv_iload_n hx hb dX3_putInOrder_5 rfl (lv_at hl 0 rfl) ?_
      refine lv_if_le (tgt := 61) hx hb dX3_putInOrder_6 (by decide) (fun _ => ?_) (fun h9 => absurd (show nI 0 ≤ 0 by decide) h9)
      refine lv_aload_n hx hb dX3_putInOrder_61 rfl (lv_at hl 1 rfl) ?_
      refine va_get (D := D) (ci := 6) (v := .ref (zq 9)) (C := RX3) (T := TX3) (N := 8) hx hb hts inAX3 hown hK hP 0 rfl rfl 4 (by decide) (hts _ q317) (fun _ h9 => h9) rfl dX3_putInOrder_62 ?_
      refine lv_iload_n hx hb dX3_putInOrder_65 rfl (lv_at hl 0 rfl) ?_
      refine lv_iload_n hx hb dX3_putInOrder_66 rfl (lv_at hl 2 rfl) ?_
      replace hPc := hP.sub (ws' := [(zq 9, .inr (5, [.ref (zq 10)])), (zq 10, .inl (dA 0, 30, .inl g5_0))]) [3, 4] rfl
      replace hDc := hD.sub (ws' := [(zq 9, .inr (5, [.ref (zq 10)])), (zq 10, .inl (dA 0, 30, .inl g5_0))]) [3, 4] (by decide) rfl
      replace hFc := va_free (wc := [(zq 9, .inr (5, [.ref (zq 10)])), (zq 10, .inl (dA 0, 30, .inl g5_0))]) hD hS hA [3, 4] rfl
      refine va_callv (va_runV (As := [.int (nI 0), .int (nI dx)]) (rest := []) ⟨hx, hb, hml, hown, hts⟩ (t_putN l D dA E (zq 9) (zq 10) 30 g5_0 0 (nI dx) H.size  (by omega) (by decide)) (cwV 2 hts (ga_V q444 q210 q207 q204 q208) rfl rfl rfl (by decide +kernel) ⟨(Nat.le_of_ble_eq_true rfl), (Nat.le_of_ble_eq_true rfl)⟩) ⟨pb_blind, va_recv hK hPc (ci := 5) (q0 := 0) rfl rfl, pb_pre hK hPc hDc hZ hS hFc _⟩ rfl rfl hl.1 rfl (lv_room (Nat.le_of_ble_eq_true rfl)) dX3_putInOrder_67 ⟨(Nat.le_of_ble_eq_true rfl), (Nat.le_of_ble_eq_true rfl)⟩) hS (fun q _ h => hFc q h) hFc (fun u t H1 locs ht hvm hw hB hz1 hk1 hS => ?_)
      refine W.widen (k := 0) (n := 0) (Nat.le_of_ble_eq_true rfl) (Nat.le_of_ble_eq_true rfl) ?_
      obtain ⟨u1, rfl⟩ : ∃ z, z = u := ⟨_, rfl⟩
      have hw2 := hw
      clear hw
      obtain ⟨hP1, hD1⟩ := hB
      rw [ht] at hP1
      obtain ⟨hP, hD⟩ := va_join (wr := [(zq 0, .inr (6, [.ref (zq 1), .ref (zq 3), .ref (zq 5), .ref (zq 7), .ref (zq 9), .ref (zq 11), .int aq, .int (nI n)])), (zq 7, .inr (5, [.ref (zq 8)])), (zq 8, .inl (dA 0, 30, .inl R))]) (w1 := [(zq 9, .inr (5, [.ref (zq 10)])), (zq 10, .inl (dA 0, 30, .inl (upd g5_0 0 (nI dx))))]) hP hD [3, 4] [0, 1, 2] rfl rfl (by decide) (by decide) hk1 hFc hP1 hD1
      generalize H1 = H at hP hS ⊢
      replace hP : va_P D vwCl [(zq 0, .inr (6, [.ref (zq 1), .ref (zq 3), .ref (zq 5), .ref (zq 7), .ref (zq 9), .ref (zq 11), .int aq, .int (nI n)])), (zq 7, .inr (5, [.ref (zq 8)])), (zq 8, .inl (dA 0, 30, .inl R)), (zq 9, .inr (5, [.ref (zq 10)])), (zq 10, .inl (dA 0, 30, .inl (upd g5_0 0 (nI dx))))] H := hP
      replace hD : va_D A [(zq 0, .inr (6, [.ref (zq 1), .ref (zq 3), .ref (zq 5), .ref (zq 7), .ref (zq 9), .ref (zq 11), .int aq, .int (nI n)])), (zq 7, .inr (5, [.ref (zq 8)])), (zq 8, .inl (dA 0, 30, .inl R)), (zq 9, .inr (5, [.ref (zq 10)])), (zq 10, .inl (dA 0, 30, .inl (upd g5_0 0 (nI dx))))] := hD
      rw [show upd g5_0 0 (nI dx) = nF (shH h dx (stI R h dx n) n) from (by rw [hex5.2]; exact hex5.1)] at hP hD
      replace hP : va_P D vwCl [(zq 0, .inr (6, [.ref (zq 1), .ref (zq 3), .ref (zq 5), .ref (zq 7), .ref (zq 9), .ref (zq 11), .int aq, .int (nI n)])), (zq 7, .inr (5, [.ref (zq 8)])), (zq 8, .inl (dA 0, 30, .inl R)), (zq 9, .inr (5, [.ref (zq 10)])), (zq 10, .inl (dA 0, 30, .inl (nF (shH h dx (stI R h dx n) n))))] H := hP
      replace hD : va_D A [(zq 0, .inr (6, [.ref (zq 1), .ref (zq 3), .ref (zq 5), .ref (zq 7), .ref (zq 9), .ref (zq 11), .int aq, .int (nI n)])), (zq 7, .inr (5, [.ref (zq 8)])), (zq 8, .inl (dA 0, 30, .inl R)), (zq 9, .inr (5, [.ref (zq 10)])), (zq 10, .inl (dA 0, 30, .inl (nF (shH h dx (stI R h dx n) n))))] := hD
      refine lv_aload_n hx hb dX3_putInOrder_70 rfl (lv_at hl 1 rfl) ?_
      refine lv_dup hx hb dX3_putInOrder_71 rfl ?_
      refine va_get (D := D) (ci := 6) (v := .int (nI n)) (C := RX3) (T := TX3) (N := 8) hx hb hts inAX3 hown hK hP 0 rfl rfl 7 (by decide) (hts _ q443) (fun _ h9 => h9) rfl dX3_putInOrder_72 ?_
      refine lv_iconst (v := 1) hx hb dX3_putInOrder_75 (by decide) ?_
      refine lv_iadd hx hb dX3_putInOrder_76 ?_
      refine lv_topi (fun x3 ex3 => ?_)
      obtain rfl : x3 = nI (n + 1) := ex3.trans (nI_add n 1)
      refine va_put (D := D) (ci := 6) (v := .int (nI (n + 1))) (ty := .int) (C := RX3) (T := TX3) (N := 8) hx hb hts inAX3 tyX3 tyX3_ok nmX3 hown hK hP hD hS 0 rfl rfl 7 (by decide) (hts _ q443) (fun _ h9 => h9) rfl (tyX3_ok 7 (by decide)) rfl rfl (Nat.le_of_ble_eq_true rfl) dX3_putInOrder_77 (fun H locs hP hD hS => ?_)
      replace hP : va_P D vwCl [(zq 0, .inr (6, [.ref (zq 1), .ref (zq 3), .ref (zq 5), .ref (zq 7), .ref (zq 9), .ref (zq 11), .int aq, .int (nI (n + 1))])), (zq 7, .inr (5, [.ref (zq 8)])), (zq 8, .inl (dA 0, 30, .inl R)), (zq 9, .inr (5, [.ref (zq 10)])), (zq 10, .inl (dA 0, 30, .inl (nF (shH h dx (stI R h dx n) n))))] H := hP
      replace hD : va_D A [(zq 0, .inr (6, [.ref (zq 1), .ref (zq 3), .ref (zq 5), .ref (zq 7), .ref (zq 9), .ref (zq 11), .int aq, .int (nI (n + 1))])), (zq 7, .inr (5, [.ref (zq 8)])), (zq 8, .inl (dA 0, 30, .inl R)), (zq 9, .inr (5, [.ref (zq 10)])), (zq 10, .inl (dA 0, 30, .inl (nF (shH h dx (stI R h dx n) n))))] := hD
      refine W.widen (k := 0) (n := 0) (Nat.le_of_ble_eq_true rfl) (Nat.le_of_ble_eq_true rfl) ?_
      have hP9 := hP.sub (ws' := [(zq 0, .inr (6, [.ref (zq 1), .ref (zq 3), .ref (zq 5), .ref (zq 7), .ref (zq 9), .ref (zq 11), .int aq, .int (nI (n + 1))])), (zq 7, .inr (5, [.ref (zq 8)])), (zq 8, .inl (dA 0, 30, .inl R)), (zq 9, .inr (5, [.ref (zq 10)])), (zq 10, .inl (dA 0, 30, .inl (nF (shH h dx (stI R h dx n) n))))]) [0, 1, 2, 3, 4] rfl
      have hD9 := hD.sub (ws' := [(zq 0, .inr (6, [.ref (zq 1), .ref (zq 3), .ref (zq 5), .ref (zq 7), .ref (zq 9), .ref (zq 11), .int aq, .int (nI (n + 1))])), (zq 7, .inr (5, [.ref (zq 8)])), (zq 8, .inl (dA 0, 30, .inl R)), (zq 9, .inr (5, [.ref (zq 10)])), (zq 10, .inl (dA 0, 30, .inl (nF (shH h dx (stI R h dx n) n))))]) [0, 1, 2, 3, 4] (by decide) rfl
      exact W.vret hx hb hr (fun t ht hW => ⟨⟨(), rfl, trivial, ⟨by rw [ht]; exact hP9, hD9⟩⟩, hS.F ht⟩) hS.2.2 dX3_putInOrder_80
    | succ k5 ih5 =>
      intro g5_0 hkd5 hex5 H locs hP hD hS ls hl
      refine lv_iload_n hx hb dX3_putInOrder_5 rfl (lv_at hl 0 rfl) ?_
      refine lv_if_le (tgt := 61) hx hb dX3_putInOrder_6 (by decide) (fun h9 => absurd h9 (nI_nle (by omega) (by omega))) (fun _ => ?_)
      refine lv_aload_n hx hb dX3_putInOrder_9 rfl (lv_at hl 1 rfl) ?_
      refine va_get (D := D) (ci := 6) (v := .ref (zq 7)) (C := RX3) (T := TX3) (N := 8) hx hb hts inAX3 hown hK hP 0 rfl rfl 3 (by decide) (hts _ q316) (fun _ h9 => h9) rfl dX3_putInOrder_10 ?_
      refine lv_aload_n hx hb dX3_putInOrder_13 rfl (lv_at hl 1 rfl) ?_
      refine va_get (D := D) (ci := 6) (v := .ref (zq 9)) (C := RX3) (T := TX3) (N := 8) hx hb hts inAX3 hown hK hP 0 rfl rfl 4 (by decide) (hts _ q317) (fun _ h9 => h9) rfl dX3_putInOrder_14 ?_
      refine lv_iload_n hx hb dX3_putInOrder_17 rfl (lv_at hl 0 rfl) ?_
      refine lv_iconst (v := 1) hx hb dX3_putInOrder_18 (by decide) ?_
      refine lv_isub hx hb dX3_putInOrder_19 ?_
      refine lv_topi (fun x4 ex4 => ?_)
      obtain rfl : x4 = nI k5 := ex4.trans (nI_pred k5)
      replace hPc := hP.sub (ws' := [(zq 9, .inr (5, [.ref (zq 10)])), (zq 10, .inl (dA 0, 30, .inl g5_0))]) [3, 4] rfl
      replace hDc := hD.sub (ws' := [(zq 9, .inr (5, [.ref (zq 10)])), (zq 10, .inl (dA 0, 30, .inl g5_0))]) [3, 4] (by decide) rfl
      replace hFc := va_free (wc := [(zq 9, .inr (5, [.ref (zq 10)])), (zq 10, .inl (dA 0, 30, .inl g5_0))]) hD hS hA [3, 4] rfl
      refine va_calli (va_runV (As := [.int (nI k5)]) (rest := [.ref (zq 7)]) ⟨hx, hb, hml, hown, hts⟩ (t_getN l D dA E (zq 9) (zq 10) 30 g5_0 k5 H.size  (by omega) (by decide)) (cwV 1 hts (ga_V q438 q203 q200 q204 q201) rfl rfl rfl (by decide +kernel) ⟨(Nat.le_of_ble_eq_true rfl), (Nat.le_of_ble_eq_true rfl)⟩) ⟨pb_blind, va_recv hK hPc (ci := 5) (q0 := 0) rfl rfl, pb_pre hK hPc hDc hZ hS hFc _⟩ rfl rfl hl.1 rfl (lv_room (Nat.le_of_ble_eq_true rfl)) dX3_putInOrder_20 ⟨(Nat.le_of_ble_eq_true rfl), (Nat.le_of_ble_eq_true rfl)⟩) hS (fun q _ h => hFc q h) hFc (fun r u t H1 locs ht hvm hw hB hz1 hk1 hS => ?_)
      refine W.widen (k := 0) (n := 0) (Nat.le_of_ble_eq_true rfl) (Nat.le_of_ble_eq_true rfl) ?_
      obtain ⟨r5, rfl⟩ : ∃ z, z = r := ⟨_, rfl⟩
      obtain ⟨u6, rfl⟩ : ∃ z, z = u := ⟨_, rfl⟩
      have hw7 := hw
      clear hw
      obtain ⟨hP1, hD1⟩ := hB
      rw [ht] at hP1
      obtain ⟨hP, hD⟩ := va_join (wr := [(zq 0, .inr (6, [.ref (zq 1), .ref (zq 3), .ref (zq 5), .ref (zq 7), .ref (zq 9), .ref (zq 11), .int aq, .int (nI n)])), (zq 7, .inr (5, [.ref (zq 8)])), (zq 8, .inl (dA 0, 30, .inl R))]) (w1 := [(zq 9, .inr (5, [.ref (zq 10)])), (zq 10, .inl (dA 0, 30, .inl g5_0))]) hP hD [3, 4] [0, 1, 2] rfl rfl (by decide) (by decide) hk1 hFc hP1 hD1
      generalize H1 = H at hP hS ⊢
      replace hP : va_P D vwCl [(zq 0, .inr (6, [.ref (zq 1), .ref (zq 3), .ref (zq 5), .ref (zq 7), .ref (zq 9), .ref (zq 11), .int aq, .int (nI n)])), (zq 7, .inr (5, [.ref (zq 8)])), (zq 8, .inl (dA 0, 30, .inl R)), (zq 9, .inr (5, [.ref (zq 10)])), (zq 10, .inl (dA 0, 30, .inl g5_0))] H := hP
      replace hD : va_D A [(zq 0, .inr (6, [.ref (zq 1), .ref (zq 3), .ref (zq 5), .ref (zq 7), .ref (zq 9), .ref (zq 11), .int aq, .int (nI n)])), (zq 7, .inr (5, [.ref (zq 8)])), (zq 8, .inl (dA 0, 30, .inl R)), (zq 9, .inr (5, [.ref (zq 10)])), (zq 10, .inl (dA 0, 30, .inl g5_0))] := hD
      obtain rfl : r5 = nI (h k5) := (show r5 = g5_0 k5 from hw7).trans (pio_rd hex5.1)
      have hhk5 := hh k5
      replace hPc := hP.sub (ws' := [(zq 7, .inr (5, [.ref (zq 8)])), (zq 8, .inl (dA 0, 30, .inl R))]) [1, 2] rfl
      replace hDc := hD.sub (ws' := [(zq 7, .inr (5, [.ref (zq 8)])), (zq 8, .inl (dA 0, 30, .inl R))]) [1, 2] (by decide) rfl
      replace hFc := va_free (wc := [(zq 7, .inr (5, [.ref (zq 8)])), (zq 8, .inl (dA 0, 30, .inl R))]) hD hS hA [1, 2] rfl
      refine va_calli (va_runV (As := [.int (nI (h k5))]) (rest := []) ⟨hx, hb, hml, hown, hts⟩ (t_getN l D dA E (zq 7) (zq 8) 30 R (h k5) H.size  (by omega) (by decide)) (cwV 1 hts (ga_V q438 q203 q200 q204 q201) rfl rfl rfl (by decide +kernel) ⟨(Nat.le_of_ble_eq_true rfl), (Nat.le_of_ble_eq_true rfl)⟩) ⟨pb_blind, va_recv hK hPc (ci := 5) (q0 := 0) rfl rfl, pb_pre hK hPc hDc hZ hS hFc _⟩ rfl rfl hl.1 rfl (lv_room (Nat.le_of_ble_eq_true rfl)) dX3_putInOrder_23 ⟨(Nat.le_of_ble_eq_true rfl), (Nat.le_of_ble_eq_true rfl)⟩) hS (fun q _ h => hFc q h) hFc (fun r u t H1 locs ht hvm hw hB hz1 hk1 hS => ?_)
      refine W.widen (k := 0) (n := 0) (Nat.le_of_ble_eq_true rfl) (Nat.le_of_ble_eq_true rfl) ?_
      obtain ⟨r8, rfl⟩ : ∃ z, z = r := ⟨_, rfl⟩
      obtain ⟨u9, rfl⟩ : ∃ z, z = u := ⟨_, rfl⟩
      have hw10 := hw
      clear hw
      obtain ⟨hP1, hD1⟩ := hB
      rw [ht] at hP1
      obtain ⟨hP, hD⟩ := va_join (wr := [(zq 0, .inr (6, [.ref (zq 1), .ref (zq 3), .ref (zq 5), .ref (zq 7), .ref (zq 9), .ref (zq 11), .int aq, .int (nI n)])), (zq 9, .inr (5, [.ref (zq 10)])), (zq 10, .inl (dA 0, 30, .inl g5_0))]) (w1 := [(zq 7, .inr (5, [.ref (zq 8)])), (zq 8, .inl (dA 0, 30, .inl R))]) hP hD [1, 2] [0, 3, 4] rfl rfl (by decide) (by decide) hk1 hFc hP1 hD1
      generalize H1 = H at hP hS ⊢
      replace hP : va_P D vwCl [(zq 0, .inr (6, [.ref (zq 1), .ref (zq 3), .ref (zq 5), .ref (zq 7), .ref (zq 9), .ref (zq 11), .int aq, .int (nI n)])), (zq 9, .inr (5, [.ref (zq 10)])), (zq 10, .inl (dA 0, 30, .inl g5_0)), (zq 7, .inr (5, [.ref (zq 8)])), (zq 8, .inl (dA 0, 30, .inl R))] H := hP
      replace hD : va_D A [(zq 0, .inr (6, [.ref (zq 1), .ref (zq 3), .ref (zq 5), .ref (zq 7), .ref (zq 9), .ref (zq 11), .int aq, .int (nI n)])), (zq 9, .inr (5, [.ref (zq 10)])), (zq 10, .inl (dA 0, 30, .inl g5_0)), (zq 7, .inr (5, [.ref (zq 8)])), (zq 8, .inl (dA 0, 30, .inl R))] := hD
      obtain rfl : r8 = R (h k5) := hw10
      refine lv_aload_n hx hb dX3_putInOrder_26 rfl (lv_at hl 1 rfl) ?_
      refine va_get (D := D) (ci := 6) (v := .ref (zq 7)) (C := RX3) (T := TX3) (N := 8) hx hb hts inAX3 hown hK hP 0 rfl rfl 3 (by decide) (hts _ q316) (fun _ h9 => h9) rfl dX3_putInOrder_27 ?_
      refine lv_iload_n hx hb dX3_putInOrder_30 rfl (lv_at hl 2 rfl) ?_
      replace hPc := hP.sub (ws' := [(zq 7, .inr (5, [.ref (zq 8)])), (zq 8, .inl (dA 0, 30, .inl R))]) [3, 4] rfl
      replace hDc := hD.sub (ws' := [(zq 7, .inr (5, [.ref (zq 8)])), (zq 8, .inl (dA 0, 30, .inl R))]) [3, 4] (by decide) rfl
      replace hFc := va_free (wc := [(zq 7, .inr (5, [.ref (zq 8)])), (zq 8, .inl (dA 0, 30, .inl R))]) hD hS hA [3, 4] rfl
      refine va_calli (va_runV (As := [.int (nI dx)]) (rest := [.int (R (h k5))]) ⟨hx, hb, hml, hown, hts⟩ (t_getN l D dA E (zq 7) (zq 8) 30 R dx H.size  (by omega) (by decide)) (cwV 1 hts (ga_V q438 q203 q200 q204 q201) rfl rfl rfl (by decide +kernel) ⟨(Nat.le_of_ble_eq_true rfl), (Nat.le_of_ble_eq_true rfl)⟩) ⟨pb_blind, va_recv hK hPc (ci := 5) (q0 := 0) rfl rfl, pb_pre hK hPc hDc hZ hS hFc _⟩ rfl rfl hl.1 rfl (lv_room (Nat.le_of_ble_eq_true rfl)) dX3_putInOrder_31 ⟨(Nat.le_of_ble_eq_true rfl), (Nat.le_of_ble_eq_true rfl)⟩) hS (fun q _ h => hFc q h) hFc (fun r u t H1 locs ht hvm hw hB hz1 hk1 hS => ?_)
      refine W.widen (k := 0) (n := 0) (Nat.le_of_ble_eq_true rfl) (Nat.le_of_ble_eq_true rfl) ?_
      obtain ⟨r11, rfl⟩ : ∃ z, z = r := ⟨_, rfl⟩
      obtain ⟨u12, rfl⟩ : ∃ z, z = u := ⟨_, rfl⟩
      have hw13 := hw
      clear hw
      obtain ⟨hP1, hD1⟩ := hB
      rw [ht] at hP1
      obtain ⟨hP, hD⟩ := va_join (wr := [(zq 0, .inr (6, [.ref (zq 1), .ref (zq 3), .ref (zq 5), .ref (zq 7), .ref (zq 9), .ref (zq 11), .int aq, .int (nI n)])), (zq 9, .inr (5, [.ref (zq 10)])), (zq 10, .inl (dA 0, 30, .inl g5_0))]) (w1 := [(zq 7, .inr (5, [.ref (zq 8)])), (zq 8, .inl (dA 0, 30, .inl R))]) hP hD [3, 4] [0, 1, 2] rfl rfl (by decide) (by decide) hk1 hFc hP1 hD1
      generalize H1 = H at hP hS ⊢
      replace hP : va_P D vwCl [(zq 0, .inr (6, [.ref (zq 1), .ref (zq 3), .ref (zq 5), .ref (zq 7), .ref (zq 9), .ref (zq 11), .int aq, .int (nI n)])), (zq 9, .inr (5, [.ref (zq 10)])), (zq 10, .inl (dA 0, 30, .inl g5_0)), (zq 7, .inr (5, [.ref (zq 8)])), (zq 8, .inl (dA 0, 30, .inl R))] H := hP
      replace hD : va_D A [(zq 0, .inr (6, [.ref (zq 1), .ref (zq 3), .ref (zq 5), .ref (zq 7), .ref (zq 9), .ref (zq 11), .int aq, .int (nI n)])), (zq 9, .inr (5, [.ref (zq 10)])), (zq 10, .inl (dA 0, 30, .inl g5_0)), (zq 7, .inr (5, [.ref (zq 8)])), (zq 8, .inl (dA 0, 30, .inl R))] := hD
      obtain rfl : r11 = R dx := hw13
      refine lv_icmp_ge (tgt := 61) hx hb dX3_putInOrder_34 (by decide) (fun c14 => ?_) (fun c14 => ?_)
      · refine lv_aload_n hx hb dX3_putInOrder_61 rfl (lv_at hl 1 rfl) ?_
        refine va_get (D := D) (ci := 6) (v := .ref (zq 9)) (C := RX3) (T := TX3) (N := 8) hx hb hts inAX3 hown hK hP 0 rfl rfl 4 (by decide) (hts _ q317) (fun _ h9 => h9) rfl dX3_putInOrder_62 ?_
        refine lv_iload_n hx hb dX3_putInOrder_65 rfl (lv_at hl 0 rfl) ?_
        refine lv_iload_n hx hb dX3_putInOrder_66 rfl (lv_at hl 2 rfl) ?_
        replace hPc := hP.sub (ws' := [(zq 9, .inr (5, [.ref (zq 10)])), (zq 10, .inl (dA 0, 30, .inl g5_0))]) [1, 2] rfl
        replace hDc := hD.sub (ws' := [(zq 9, .inr (5, [.ref (zq 10)])), (zq 10, .inl (dA 0, 30, .inl g5_0))]) [1, 2] (by decide) rfl
        replace hFc := va_free (wc := [(zq 9, .inr (5, [.ref (zq 10)])), (zq 10, .inl (dA 0, 30, .inl g5_0))]) hD hS hA [1, 2] rfl
        refine va_callv (va_runV (As := [.int (nI (k5 + 1)), .int (nI dx)]) (rest := []) ⟨hx, hb, hml, hown, hts⟩ (t_putN l D dA E (zq 9) (zq 10) 30 g5_0 (k5 + 1) (nI dx) H.size  (by omega) (by decide)) (cwV 2 hts (ga_V q444 q210 q207 q204 q208) rfl rfl rfl (by decide +kernel) ⟨(Nat.le_of_ble_eq_true rfl), (Nat.le_of_ble_eq_true rfl)⟩) ⟨pb_blind, va_recv hK hPc (ci := 5) (q0 := 0) rfl rfl, pb_pre hK hPc hDc hZ hS hFc _⟩ rfl rfl hl.1 rfl (lv_room (Nat.le_of_ble_eq_true rfl)) dX3_putInOrder_67 ⟨(Nat.le_of_ble_eq_true rfl), (Nat.le_of_ble_eq_true rfl)⟩) hS (fun q _ h => hFc q h) hFc (fun u t H1 locs ht hvm hw hB hz1 hk1 hS => ?_)
        refine W.widen (k := 0) (n := 0) (Nat.le_of_ble_eq_true rfl) (Nat.le_of_ble_eq_true rfl) ?_
        obtain ⟨u15, rfl⟩ : ∃ z, z = u := ⟨_, rfl⟩
        have hw16 := hw
        clear hw
        obtain ⟨hP1, hD1⟩ := hB
        rw [ht] at hP1
        obtain ⟨hP, hD⟩ := va_join (wr := [(zq 0, .inr (6, [.ref (zq 1), .ref (zq 3), .ref (zq 5), .ref (zq 7), .ref (zq 9), .ref (zq 11), .int aq, .int (nI n)])), (zq 7, .inr (5, [.ref (zq 8)])), (zq 8, .inl (dA 0, 30, .inl R))]) (w1 := [(zq 9, .inr (5, [.ref (zq 10)])), (zq 10, .inl (dA 0, 30, .inl (upd g5_0 (k5 + 1) (nI dx))))]) hP hD [1, 2] [0, 3, 4] rfl rfl (by decide) (by decide) hk1 hFc hP1 hD1
        generalize H1 = H at hP hS ⊢
        replace hP : va_P D vwCl [(zq 0, .inr (6, [.ref (zq 1), .ref (zq 3), .ref (zq 5), .ref (zq 7), .ref (zq 9), .ref (zq 11), .int aq, .int (nI n)])), (zq 7, .inr (5, [.ref (zq 8)])), (zq 8, .inl (dA 0, 30, .inl R)), (zq 9, .inr (5, [.ref (zq 10)])), (zq 10, .inl (dA 0, 30, .inl (upd g5_0 (k5 + 1) (nI dx))))] H := hP
        replace hD : va_D A [(zq 0, .inr (6, [.ref (zq 1), .ref (zq 3), .ref (zq 5), .ref (zq 7), .ref (zq 9), .ref (zq 11), .int aq, .int (nI n)])), (zq 7, .inr (5, [.ref (zq 8)])), (zq 8, .inl (dA 0, 30, .inl R)), (zq 9, .inr (5, [.ref (zq 10)])), (zq 10, .inl (dA 0, 30, .inl (upd g5_0 (k5 + 1) (nI dx))))] := hD
        rw [show upd g5_0 (k5 + 1) (nI dx) = nF (shH h dx (stI R h dx n) n) from (by rw [hex5.2.trans (if_neg (Int32.not_lt.mpr c14))]; exact hex5.1)] at hP hD
        replace hP : va_P D vwCl [(zq 0, .inr (6, [.ref (zq 1), .ref (zq 3), .ref (zq 5), .ref (zq 7), .ref (zq 9), .ref (zq 11), .int aq, .int (nI n)])), (zq 7, .inr (5, [.ref (zq 8)])), (zq 8, .inl (dA 0, 30, .inl R)), (zq 9, .inr (5, [.ref (zq 10)])), (zq 10, .inl (dA 0, 30, .inl (nF (shH h dx (stI R h dx n) n))))] H := hP
        replace hD : va_D A [(zq 0, .inr (6, [.ref (zq 1), .ref (zq 3), .ref (zq 5), .ref (zq 7), .ref (zq 9), .ref (zq 11), .int aq, .int (nI n)])), (zq 7, .inr (5, [.ref (zq 8)])), (zq 8, .inl (dA 0, 30, .inl R)), (zq 9, .inr (5, [.ref (zq 10)])), (zq 10, .inl (dA 0, 30, .inl (nF (shH h dx (stI R h dx n) n))))] := hD
        refine lv_aload_n hx hb dX3_putInOrder_70 rfl (lv_at hl 1 rfl) ?_
        refine lv_dup hx hb dX3_putInOrder_71 rfl ?_
        refine va_get (D := D) (ci := 6) (v := .int (nI n)) (C := RX3) (T := TX3) (N := 8) hx hb hts inAX3 hown hK hP 0 rfl rfl 7 (by decide) (hts _ q443) (fun _ h9 => h9) rfl dX3_putInOrder_72 ?_
        refine lv_iconst (v := 1) hx hb dX3_putInOrder_75 (by decide) ?_
        refine lv_iadd hx hb dX3_putInOrder_76 ?_
        refine lv_topi (fun x17 ex17 => ?_)
        obtain rfl : x17 = nI (n + 1) := ex17.trans (nI_add n 1)
        refine va_put (D := D) (ci := 6) (v := .int (nI (n + 1))) (ty := .int) (C := RX3) (T := TX3) (N := 8) hx hb hts inAX3 tyX3 tyX3_ok nmX3 hown hK hP hD hS 0 rfl rfl 7 (by decide) (hts _ q443) (fun _ h9 => h9) rfl (tyX3_ok 7 (by decide)) rfl rfl (Nat.le_of_ble_eq_true rfl) dX3_putInOrder_77 (fun H locs hP hD hS => ?_)
        replace hP : va_P D vwCl [(zq 0, .inr (6, [.ref (zq 1), .ref (zq 3), .ref (zq 5), .ref (zq 7), .ref (zq 9), .ref (zq 11), .int aq, .int (nI (n + 1))])), (zq 7, .inr (5, [.ref (zq 8)])), (zq 8, .inl (dA 0, 30, .inl R)), (zq 9, .inr (5, [.ref (zq 10)])), (zq 10, .inl (dA 0, 30, .inl (nF (shH h dx (stI R h dx n) n))))] H := hP
        replace hD : va_D A [(zq 0, .inr (6, [.ref (zq 1), .ref (zq 3), .ref (zq 5), .ref (zq 7), .ref (zq 9), .ref (zq 11), .int aq, .int (nI (n + 1))])), (zq 7, .inr (5, [.ref (zq 8)])), (zq 8, .inl (dA 0, 30, .inl R)), (zq 9, .inr (5, [.ref (zq 10)])), (zq 10, .inl (dA 0, 30, .inl (nF (shH h dx (stI R h dx n) n))))] := hD
        refine W.widen (k := 0) (n := 0) (Nat.le_of_ble_eq_true rfl) (Nat.le_of_ble_eq_true rfl) ?_
        have hP9 := hP.sub (ws' := [(zq 0, .inr (6, [.ref (zq 1), .ref (zq 3), .ref (zq 5), .ref (zq 7), .ref (zq 9), .ref (zq 11), .int aq, .int (nI (n + 1))])), (zq 7, .inr (5, [.ref (zq 8)])), (zq 8, .inl (dA 0, 30, .inl R)), (zq 9, .inr (5, [.ref (zq 10)])), (zq 10, .inl (dA 0, 30, .inl (nF (shH h dx (stI R h dx n) n))))]) [0, 1, 2, 3, 4] rfl
        have hD9 := hD.sub (ws' := [(zq 0, .inr (6, [.ref (zq 1), .ref (zq 3), .ref (zq 5), .ref (zq 7), .ref (zq 9), .ref (zq 11), .int aq, .int (nI (n + 1))])), (zq 7, .inr (5, [.ref (zq 8)])), (zq 8, .inl (dA 0, 30, .inl R)), (zq 9, .inr (5, [.ref (zq 10)])), (zq 10, .inl (dA 0, 30, .inl (nF (shH h dx (stI R h dx n) n))))]) [0, 1, 2, 3, 4] (by decide) rfl
        exact W.vret hx hb hr (fun t ht hW => ⟨⟨(), rfl, trivial, ⟨by rw [ht]; exact hP9, hD9⟩⟩, hS.F ht⟩) hS.2.2 dX3_putInOrder_80
      · refine lv_aload_n hx hb dX3_putInOrder_37 rfl (lv_at hl 1 rfl) ?_
        refine va_get (D := D) (ci := 6) (v := .ref (zq 9)) (C := RX3) (T := TX3) (N := 8) hx hb hts inAX3 hown hK hP 0 rfl rfl 4 (by decide) (hts _ q317) (fun _ h9 => h9) rfl dX3_putInOrder_38 ?_
        refine lv_iload_n hx hb dX3_putInOrder_41 rfl (lv_at hl 0 rfl) ?_
        refine lv_aload_n hx hb dX3_putInOrder_42 rfl (lv_at hl 1 rfl) ?_
        refine va_get (D := D) (ci := 6) (v := .ref (zq 9)) (C := RX3) (T := TX3) (N := 8) hx hb hts inAX3 hown hK hP 0 rfl rfl 4 (by decide) (hts _ q317) (fun _ h9 => h9) rfl dX3_putInOrder_43 ?_
        refine lv_iload_n hx hb dX3_putInOrder_46 rfl (lv_at hl 0 rfl) ?_
        refine lv_iconst (v := 1) hx hb dX3_putInOrder_47 (by decide) ?_
        refine lv_isub hx hb dX3_putInOrder_48 ?_
        refine lv_topi (fun x18 ex18 => ?_)
        obtain rfl : x18 = nI k5 := ex18.trans (nI_pred k5)
        replace hPc := hP.sub (ws' := [(zq 9, .inr (5, [.ref (zq 10)])), (zq 10, .inl (dA 0, 30, .inl g5_0))]) [1, 2] rfl
        replace hDc := hD.sub (ws' := [(zq 9, .inr (5, [.ref (zq 10)])), (zq 10, .inl (dA 0, 30, .inl g5_0))]) [1, 2] (by decide) rfl
        replace hFc := va_free (wc := [(zq 9, .inr (5, [.ref (zq 10)])), (zq 10, .inl (dA 0, 30, .inl g5_0))]) hD hS hA [1, 2] rfl
        refine va_calli (va_runV (As := [.int (nI k5)]) (rest := [.int (nI (k5 + 1)), .ref (zq 9)]) ⟨hx, hb, hml, hown, hts⟩ (t_getN l D dA E (zq 9) (zq 10) 30 g5_0 k5 H.size  (by omega) (by decide)) (cwV 1 hts (ga_V q438 q203 q200 q204 q201) rfl rfl rfl (by decide +kernel) ⟨(Nat.le_of_ble_eq_true rfl), (Nat.le_of_ble_eq_true rfl)⟩) ⟨pb_blind, va_recv hK hPc (ci := 5) (q0 := 0) rfl rfl, pb_pre hK hPc hDc hZ hS hFc _⟩ rfl rfl hl.1 rfl (lv_room (Nat.le_of_ble_eq_true rfl)) dX3_putInOrder_49 ⟨(Nat.le_of_ble_eq_true rfl), (Nat.le_of_ble_eq_true rfl)⟩) hS (fun q _ h => hFc q h) hFc (fun r u t H1 locs ht hvm hw hB hz1 hk1 hS => ?_)
        refine W.widen (k := 0) (n := 0) (Nat.le_of_ble_eq_true rfl) (Nat.le_of_ble_eq_true rfl) ?_
        obtain ⟨r19, rfl⟩ : ∃ z, z = r := ⟨_, rfl⟩
        obtain ⟨u20, rfl⟩ : ∃ z, z = u := ⟨_, rfl⟩
        have hw21 := hw
        clear hw
        obtain ⟨hP1, hD1⟩ := hB
        rw [ht] at hP1
        obtain ⟨hP, hD⟩ := va_join (wr := [(zq 0, .inr (6, [.ref (zq 1), .ref (zq 3), .ref (zq 5), .ref (zq 7), .ref (zq 9), .ref (zq 11), .int aq, .int (nI n)])), (zq 7, .inr (5, [.ref (zq 8)])), (zq 8, .inl (dA 0, 30, .inl R))]) (w1 := [(zq 9, .inr (5, [.ref (zq 10)])), (zq 10, .inl (dA 0, 30, .inl g5_0))]) hP hD [1, 2] [0, 3, 4] rfl rfl (by decide) (by decide) hk1 hFc hP1 hD1
        generalize H1 = H at hP hS ⊢
        replace hP : va_P D vwCl [(zq 0, .inr (6, [.ref (zq 1), .ref (zq 3), .ref (zq 5), .ref (zq 7), .ref (zq 9), .ref (zq 11), .int aq, .int (nI n)])), (zq 7, .inr (5, [.ref (zq 8)])), (zq 8, .inl (dA 0, 30, .inl R)), (zq 9, .inr (5, [.ref (zq 10)])), (zq 10, .inl (dA 0, 30, .inl g5_0))] H := hP
        replace hD : va_D A [(zq 0, .inr (6, [.ref (zq 1), .ref (zq 3), .ref (zq 5), .ref (zq 7), .ref (zq 9), .ref (zq 11), .int aq, .int (nI n)])), (zq 7, .inr (5, [.ref (zq 8)])), (zq 8, .inl (dA 0, 30, .inl R)), (zq 9, .inr (5, [.ref (zq 10)])), (zq 10, .inl (dA 0, 30, .inl g5_0))] := hD
        obtain rfl : r19 = nI (h k5) := (show r19 = g5_0 k5 from hw21).trans (pio_rd hex5.1)
        have hhk5 := hh k5
        replace hPc := hP.sub (ws' := [(zq 9, .inr (5, [.ref (zq 10)])), (zq 10, .inl (dA 0, 30, .inl g5_0))]) [3, 4] rfl
        replace hDc := hD.sub (ws' := [(zq 9, .inr (5, [.ref (zq 10)])), (zq 10, .inl (dA 0, 30, .inl g5_0))]) [3, 4] (by decide) rfl
        replace hFc := va_free (wc := [(zq 9, .inr (5, [.ref (zq 10)])), (zq 10, .inl (dA 0, 30, .inl g5_0))]) hD hS hA [3, 4] rfl
        refine va_callv (va_runV (As := [.int (nI (k5 + 1)), .int (nI (h k5))]) (rest := []) ⟨hx, hb, hml, hown, hts⟩ (t_putN l D dA E (zq 9) (zq 10) 30 g5_0 (k5 + 1) (nI (h k5)) H.size  (by omega) (by decide)) (cwV 2 hts (ga_V q444 q210 q207 q204 q208) rfl rfl rfl (by decide +kernel) ⟨(Nat.le_of_ble_eq_true rfl), (Nat.le_of_ble_eq_true rfl)⟩) ⟨pb_blind, va_recv hK hPc (ci := 5) (q0 := 0) rfl rfl, pb_pre hK hPc hDc hZ hS hFc _⟩ rfl rfl hl.1 rfl (lv_room (Nat.le_of_ble_eq_true rfl)) dX3_putInOrder_52 ⟨(Nat.le_of_ble_eq_true rfl), (Nat.le_of_ble_eq_true rfl)⟩) hS (fun q _ h => hFc q h) hFc (fun u t H1 locs ht hvm hw hB hz1 hk1 hS => ?_)
        refine W.widen (k := 0) (n := 0) (Nat.le_of_ble_eq_true rfl) (Nat.le_of_ble_eq_true rfl) ?_
        obtain ⟨u22, rfl⟩ : ∃ z, z = u := ⟨_, rfl⟩
        have hw23 := hw
        clear hw
        obtain ⟨hP1, hD1⟩ := hB
        rw [ht] at hP1
        obtain ⟨hP, hD⟩ := va_join (wr := [(zq 0, .inr (6, [.ref (zq 1), .ref (zq 3), .ref (zq 5), .ref (zq 7), .ref (zq 9), .ref (zq 11), .int aq, .int (nI n)])), (zq 7, .inr (5, [.ref (zq 8)])), (zq 8, .inl (dA 0, 30, .inl R))]) (w1 := [(zq 9, .inr (5, [.ref (zq 10)])), (zq 10, .inl (dA 0, 30, .inl (upd g5_0 (k5 + 1) (nI (h k5)))))]) hP hD [3, 4] [0, 1, 2] rfl rfl (by decide) (by decide) hk1 hFc hP1 hD1
        generalize H1 = H at hP hS ⊢
        replace hP : va_P D vwCl [(zq 0, .inr (6, [.ref (zq 1), .ref (zq 3), .ref (zq 5), .ref (zq 7), .ref (zq 9), .ref (zq 11), .int aq, .int (nI n)])), (zq 7, .inr (5, [.ref (zq 8)])), (zq 8, .inl (dA 0, 30, .inl R)), (zq 9, .inr (5, [.ref (zq 10)])), (zq 10, .inl (dA 0, 30, .inl (upd g5_0 (k5 + 1) (nI (h k5)))))] H := hP
        replace hD : va_D A [(zq 0, .inr (6, [.ref (zq 1), .ref (zq 3), .ref (zq 5), .ref (zq 7), .ref (zq 9), .ref (zq 11), .int aq, .int (nI n)])), (zq 7, .inr (5, [.ref (zq 8)])), (zq 8, .inl (dA 0, 30, .inl R)), (zq 9, .inr (5, [.ref (zq 10)])), (zq 10, .inl (dA 0, 30, .inl (upd g5_0 (k5 + 1) (nI (h k5)))))] := hD
        refine lv_iinc (v := nI k5) (lv' := [(2, .int (nI k5)), (0, .ref (zq 0)), (1, .int (nI dx))]) hx hb dX3_putInOrder_55 hl (k := 0) rfl (pk_m1 k5) (by decide) rfl (fun ls hl => ?_)
        refine lv_goto (tgt := 5) hx hb dX3_putInOrder_58 (by decide) ?_
        exact ih5 (upd g5_0 (k5 + 1) (nI (h k5))) (by omega) ⟨pio_st (by omega) hex5.1, hex5.2.trans (if_pos (Int32.not_le.mp c14))⟩ _ _ hP hD hS ls (lv_sub hl [0, 1, 2] rfl)
  exact K5 n (nF h) (by omega) ⟨shH_end.symm, rfl⟩ _ _ hP hD hS ls hl
