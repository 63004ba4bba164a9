/-! CONTRACTS, general -/
theorem q438 : (.methodLink RX3 49 yX2_get : Cond) ∈ WA := WA_of (tb_4 111 rfl) rfl
theorem q439 : (.fieldLink RX3 35 "TallowIndex$Search" "asked" "I" : Cond) ∈ WA := WA_of (tb_1 111 rfl) rfl
theorem q440 : (.code yX3_cell cX3_cell 2 (some .int) : Cond) ∈ WA := WA_of (tb_4 159 rfl) rfl
theorem q441 : (.methodLink RX3 74 yX3_cell : Cond) ∈ WA := WA_of (tb_4 157 rfl) rfl
theorem q442 : (.static yX3_cell : Cond) ∈ WA := WA_of (tb_4 158 rfl) rfl
theorem q443 : (.fieldLink RX3 128 "TallowIndex$Search" "found" "I" : Cond) ∈ WA := WA_of (tb_1 112 rfl) rfl
theorem q444 : (.methodLink RX3 85 yX2_put : Cond) ∈ WA := WA_of (tb_4 110 rfl) rfl
theorem q445 : (.selects RX1 yX1_joinScores yX1_joinScores : Cond) ∈ WA := WA_of (tb_4 166 rfl) rfl
theorem q446 : (.code yX1_joinScores cX1_joinScores 4 (some .int) : Cond) ∈ WA := WA_of (tb_4 167 rfl) rfl
theorem q447 : (.methodLink RX3 125 yX1_joinScores : Cond) ∈ WA := WA_of (tb_4 164 rfl) rfl
theorem q448 : (.instanceMethod yX1_joinScores : Cond) ∈ WA := WA_of (tb_4 165 rfl) rfl
theorem znF_17 {U : State} (h : ZS U) : va_Nw (.fieldLinkNest "TallowIndex$Search" 119 "TallowIndex$Query" "first" "I" "TallowIndex") U := h.2.2.1 ("TallowIndex$Search", 119, "TallowIndex$Query", "first", "I", "TallowIndex") (List.mem_of_getElem? (i := 17) rfl)
theorem znF_18 {U : State} (h : ZS U) : va_Nw (.fieldLinkNest "TallowIndex$Search" 122 "TallowIndex$Query" "second" "I" "TallowIndex") U := h.2.2.1 ("TallowIndex$Search", 122, "TallowIndex$Query", "second", "I", "TallowIndex") (List.mem_of_getElem? (i := 18) rfl)
def stI (R : Nat → Int32) (h : Nat → Nat) (x : Nat) : Nat → Nat
  | 0 => 0
  | k + 1 => if R (h k) < R x then stI R h x k else k + 1
theorem stI_le {R : Nat → Int32} {h : Nat → Nat} {x : Nat} : ∀ n, stI R h x n ≤ n
  | 0 => Nat.le_refl _
  | n + 1 => by
    have := stI_le (R := R) (h := h) (x := x) n
    unfold stI
    split <;> omega
/-- the order by ranks that are ints is the order by ranks that are natural numbers, where they agree -/
theorem stI_stp {R : Nat → Int32} {rk h : Nat → Nat} {x : Nat} : ∀ n, (∀ j, j < n → (R (h j) < R x ↔ rk (h j) < rk x)) → stI R h x n = stp rk h x n
  | 0, _ => rfl
  | n + 1, hh => by
    have h1 := stI_stp (R := R) (rk := rk) (h := h) (x := x) n (fun j hj => hh j (by omega))
    have h2 := hh n (by omega)
    unfold stI stp
    rw [h1]
    by_cases e : R (h n) < R x
    · rw [if_pos e, if_pos (h2.mp e)]
    · rw [if_neg e, if_neg (mt h2.mpr e)]
theorem pio_rd {g : Nat → Int32} {h : Nat → Nat} {x k n : Nat} (e : upd g (k + 1) (nI x) = nF (shH h x (k + 1) n)) : g k = nI (h k) := by
  have h1 := congrFun e k
  unfold upd nF at h1
  rw [if_neg (by omega), shH_lo (by omega)] at h1
  exact h1
theorem pio_st {g : Nat → Int32} {h : Nat → Nat} {x k n : Nat} (hk : k + 1 ≤ n) (e : upd g (k + 1) (nI x) = nF (shH h x (k + 1) n)) : upd (upd g (k + 1) (nI (h k))) k (nI x) = nF (shH h x k n) := by
  rw [← sw_H hk, ← e]
  funext j
  unfold upd
  split
  · rfl
  · split
    · rfl
    · rfl
def sjF (k : Int32) (qa qb pt : Nat) (sc : Nat → Int32) (i j : Nat) : Int32 := if 30 * pt ≤ j ∧ j < 30 * pt + i then jsF k (sc (30 * qa + (j - 30 * pt))) (sc (30 * qb + (j - 30 * pt))) else sc j
theorem sj_0 {k : Int32} {qa qb pt : Nat} {sc : Nat → Int32} : sc = sjF k qa qb pt sc 0 := by
  funext j
  unfold sjF
  rw [if_neg (by omega)]
theorem sj_s {k : Int32} {qa qb pt i : Nat} {sc : Nat → Int32} : upd (sjF k qa qb pt sc i) (30 * pt + i) (jsF k (sc (30 * qa + i)) (sc (30 * qb + i))) = sjF k qa qb pt sc (i + 1) := by
  funext j
  unfold upd sjF
  by_cases e : j = 30 * pt + i
  · subst e
    rw [if_pos rfl, if_pos (by omega), Nat.add_sub_cancel_left]
  · rw [if_neg e]
    by_cases e2 : 30 * pt ≤ j ∧ j < 30 * pt + i
    · rw [if_pos e2, if_pos (by omega)]
    · rw [if_neg e2, if_neg (by omega)]
theorem sj_rd {k : Int32} {qa qb pt i j : Nat} {sc : Nat → Int32} (h : j < 30 * pt) : sjF k qa qb pt sc i j = sc j := by
  unfold sjF
  rw [if_neg (by omega)]
set_option maxHeartbeats 4000000 in
set_option maxRecDepth 100000 in
theorem z_cell (l : Launch) (D : va_G) (dA : Nat → ClassId) (E : Nat) (k1 k2 : Nat) (sz : Nat) (hk1 : k1 < 40) (hk2 : k2 < 30)  : Met l yX3_cell (wq (.code yX3_cell cX3_cell 2 (some .int))) { frames := 0, cells := 0, slots := 0, locals := 0 } (va_Pc [.int (nI k1), .int (nI k2)] (PcB D dA E [] sz)) (va_Qi (fun (r : Int32) (u : Unit) => r = nI (30 * k1 + k2)) (fun u t => va_P D vwCl [] t.heap ∧ va_D (va_A [] sz) []) (va_A [] sz)) 0 0 (va_A [] sz) := by
  refine mb_of (Qc := fun A => va_Qi (fun (r : Int32) (u : Unit) => r = nI (30 * k1 + k2)) (fun u t => va_P D vwCl [] t.heap ∧ va_D A []) A) RX3 rfl (by decide) (Nat.le_of_ble_eq_true rfl) ?_
  intro p e s m args below meth c hae hx hb hr hts hown hlocks hml hnm hP hK A hAe hD hZ hS hA ls hl
  replace hl : lv_has ls 2 [(0, .int (nI k1)), (1, .int (nI k2))] := hl
  refine lv_iload_n hx hb dX3_cell_0 rfl (lv_at hl 0 rfl) ?_
  refine lv_bipush (v := 30) hx hb dX3_cell_1 (by decide) ?_
  refine lv_imul hx hb dX3_cell_3 ?_
  refine lv_topi (fun x1 ex1 => ?_)
  obtain rfl : x1 = nI (k1 * 30) := ex1.trans (pk_mul k1 30)
  refine lv_iload_n hx hb dX3_cell_4 rfl (lv_at hl 1 rfl) ?_
  refine lv_iadd hx hb dX3_cell_5 ?_
  refine lv_topi (fun x2 ex2 => ?_)
  obtain rfl : x2 = nI ((k1 * 30) + k2) := ex2.trans (nI_add (k1 * 30) k2)
  refine W.widen (k := 0) (n := 0) (Nat.le_of_ble_eq_true rfl) (Nat.le_of_ble_eq_true rfl) ?_
  have hP9 := hP.sub (ws' := []) [] rfl
  have hD9 := hD.sub (ws' := []) [] (by decide) rfl
  exact W.iret (v := (nI ((k1 * 30) + k2))) hx hb hr (fun t ht hW => ⟨⟨(nI ((k1 * 30) + k2)), (), rfl, (show _ = nI (30 * k1 + k2) from congrArg nI (by omega)), ⟨by rw [ht]; exact hP9, hD9⟩⟩, hS.F ht⟩) hS.2.2 dX3_cell_6

set_option maxHeartbeats 4000000 in
set_option maxRecDepth 100000 in
theorem z_hitAt (l : Launch) (D : va_G) (dA : Nat → ClassId) (E : Nat) (zq : Nat → Nat) (aq fd : Int32) (f : Nat → Int32) (k : Nat) (sz : Nat) (hk : k < 30)  : Met l yX3_hitAt (wq (.code yX3_hitAt cX3_hitAt 2 (some .int))) { frames := 1, cells := 0, slots := 0, locals := 21 } (va_Pc [.ref (zq 0), .int (nI k)] (PcB D dA E [(zq 0, .inr (6, [.ref (zq 1), .ref (zq 3), .ref (zq 5), .ref (zq 7), .ref (zq 9), .ref (zq 11), .int aq, .int fd])), (zq 9, .inr (5, [.ref (zq 10)])), (zq 10, .inl (dA 0, 30, .inl f))] sz)) (va_Qi (fun (r : Int32) (u : Unit) => r = f k) (fun u t => va_P D vwCl [(zq 0, .inr (6, [.ref (zq 1), .ref (zq 3), .ref (zq 5), .ref (zq 7), .ref (zq 9), .ref (zq 11), .int aq, .int fd])), (zq 9, .inr (5, [.ref (zq 10)])), (zq 10, .inl (dA 0, 30, .inl f))] t.heap ∧ va_D (va_A [(zq 0, .inr (6, [.ref (zq 1), .ref (zq 3), .ref (zq 5), .ref (zq 7), .ref (zq 9), .ref (zq 11), .int aq, .int fd])), (zq 9, .inr (5, [.ref (zq 10)])), (zq 10, .inl (dA 0, 30, .inl f))] sz) [(zq 0, .inr (6, [.ref (zq 1), .ref (zq 3), .ref (zq 5), .ref (zq 7), .ref (zq 9), .ref (zq 11), .int aq, .int fd])), (zq 9, .inr (5, [.ref (zq 10)])), (zq 10, .inl (dA 0, 30, .inl f))]) (va_A [(zq 0, .inr (6, [.ref (zq 1), .ref (zq 3), .ref (zq 5), .ref (zq 7), .ref (zq 9), .ref (zq 11), .int aq, .int fd])), (zq 9, .inr (5, [.ref (zq 10)])), (zq 10, .inl (dA 0, 30, .inl f))] sz)) 0 0 (va_A [(zq 0, .inr (6, [.ref (zq 1), .ref (zq 3), .ref (zq 5), .ref (zq 7), .ref (zq 9), .ref (zq 11), .int aq, .int fd])), (zq 9, .inr (5, [.ref (zq 10)])), (zq 10, .inl (dA 0, 30, .inl f))] sz) := by
  refine mb_of (Qc := fun A => va_Qi (fun (r : Int32) (u : Unit) => r = f k) (fun u t => va_P D vwCl [(zq 0, .inr (6, [.ref (zq 1), .ref (zq 3), .ref (zq 5), .ref (zq 7), .ref (zq 9), .ref (zq 11), .int aq, .int fd])), (zq 9, .inr (5, [.ref (zq 10)])), (zq 10, .inl (dA 0, 30, .inl f))] t.heap ∧ va_D A [(zq 0, .inr (6, [.ref (zq 1), .ref (zq 3), .ref (zq 5), .ref (zq 7), .ref (zq 9), .ref (zq 11), .int aq, .int fd])), (zq 9, .inr (5, [.ref (zq 10)])), (zq 10, .inl (dA 0, 30, .inl f))]) A) RX3 rfl (by decide) (Nat.le_of_ble_eq_true rfl) ?_
  intro p e s m args below meth c hae hx hb hr hts hown hlocks hml hnm hP hK A hAe hD hZ hS hA ls hl
  replace hl : lv_has ls 2 [(0, .ref (zq 0)), (1, .int (nI k))] := hl
  refine lv_aload_n hx hb dX3_hitAt_0 rfl (lv_at hl 0 rfl) ?_
  refine va_get (D := D) (ci := 6) (v := .ref (zq 9)) (C := RX3) (T := TX3) (N := 8) hx hb hts inAX3 hown hK hP 0 rfl rfl 4 (by decide) (hts _ q317) (fun _ h9 => h9) rfl dX3_hitAt_1 ?_
  refine lv_iload_n hx hb dX3_hitAt_4 rfl (lv_at hl 1 rfl) ?_
  replace hPc := hP.sub (ws' := [(zq 9, .inr (5, [.ref (zq 10)])), (zq 10, .inl (dA 0, 30, .inl f))]) [1, 2] rfl
  replace hDc := hD.sub (ws' := [(zq 9, .inr (5, [.ref (zq 10)])), (zq 10, .inl (dA 0, 30, .inl f))]) [1, 2] (by decide) rfl
  replace hFc := va_free (wc := [(zq 9, .inr (5, [.ref (zq 10)])), (zq 10, .inl (dA 0, 30, .inl f))]) hD hS hA [1, 2] rfl
  refine va_calli (va_runV (As := [.int (nI k)]) (rest := []) ⟨hx, hb, hml, hown, hts⟩ (t_getN l D dA E (zq 9) (zq 10) 30 f k s.heap.size  (by omega) (by decide)) (cwV 1 hts (ga_V q438 q203 q200 q204 q201) rfl rfl rfl (by decide +kernel) ⟨(Nat.le_of_ble_eq_true rfl), (Nat.le_of_ble_eq_true rfl)⟩) ⟨pb_blind, va_recv hK hPc (ci := 5) (q0 := 0) rfl rfl, pb_pre hK hPc hDc hZ hS hFc _⟩ rfl rfl hl.1 rfl (lv_room (Nat.le_of_ble_eq_true rfl)) dX3_hitAt_5 ⟨(Nat.le_of_ble_eq_true rfl), (Nat.le_of_ble_eq_true rfl)⟩) hS (fun q _ h => hFc q h) hFc (fun r u t H1 locs ht hvm hw hB hz1 hk1 hS => ?_)
  refine W.widen (k := 0) (n := 0) (Nat.le_of_ble_eq_true rfl) (Nat.le_of_ble_eq_true rfl) ?_
  obtain ⟨r1, rfl⟩ : ∃ z, z = r := ⟨_, rfl⟩
  obtain ⟨u2, rfl⟩ : ∃ z, z = u := ⟨_, rfl⟩
  have hw3 := hw
  clear hw
  obtain ⟨hP1, hD1⟩ := hB
  rw [ht] at hP1
  obtain ⟨hP, hD⟩ := va_join (wr := [(zq 0, .inr (6, [.ref (zq 1), .ref (zq 3), .ref (zq 5), .ref (zq 7), .ref (zq 9), .ref (zq 11), .int aq, .int fd]))]) (w1 := [(zq 9, .inr (5, [.ref (zq 10)])), (zq 10, .inl (dA 0, 30, .inl f))]) hP hD [1, 2] [0] rfl rfl (by decide) (by decide) hk1 hFc hP1 hD1
  generalize H1 = H at hP hS ⊢
  replace hP : va_P D vwCl [(zq 0, .inr (6, [.ref (zq 1), .ref (zq 3), .ref (zq 5), .ref (zq 7), .ref (zq 9), .ref (zq 11), .int aq, .int fd])), (zq 9, .inr (5, [.ref (zq 10)])), (zq 10, .inl (dA 0, 30, .inl f))] H := hP
  replace hD : va_D A [(zq 0, .inr (6, [.ref (zq 1), .ref (zq 3), .ref (zq 5), .ref (zq 7), .ref (zq 9), .ref (zq 11), .int aq, .int fd])), (zq 9, .inr (5, [.ref (zq 10)])), (zq 10, .inl (dA 0, 30, .inl f))] := hD
  obtain rfl : r1 = f k := hw3
  refine W.widen (k := 0) (n := 0) (Nat.le_of_ble_eq_true rfl) (Nat.le_of_ble_eq_true rfl) ?_
  have hP9 := hP.sub (ws' := [(zq 0, .inr (6, [.ref (zq 1), .ref (zq 3), .ref (zq 5), .ref (zq 7), .ref (zq 9), .ref (zq 11), .int aq, .int fd])), (zq 9, .inr (5, [.ref (zq 10)])), (zq 10, .inl (dA 0, 30, .inl f))]) [0, 1, 2] rfl
  have hD9 := hD.sub (ws' := [(zq 0, .inr (6, [.ref (zq 1), .ref (zq 3), .ref (zq 5), .ref (zq 7), .ref (zq 9), .ref (zq 11), .int aq, .int fd])), (zq 9, .inr (5, [.ref (zq 10)])), (zq 10, .inl (dA 0, 30, .inl f))]) [0, 1, 2] (by decide) rfl
  exact W.iret (v := (f k)) hx hb hr (fun t ht hW => ⟨⟨(f k), (), rfl, rfl, ⟨by rw [ht]; exact hP9, hD9⟩⟩, hS.F ht⟩) hS.2.2 dX3_hitAt_8

set_option maxHeartbeats 4000000 in
set_option maxRecDepth 100000 in
theorem z_scoreOf (l : Launch) (D : va_G) (dA : Nat → ClassId) (E : Nat) (zq : Nat → Nat) (aq : Nat) (fd : Int32) (sc : Nat → Int32) (k : Nat) (sz : Nat) (haq : aq < 40) (hk : k < 30)  : Met l yX3_scoreOf (wq (.code yX3_scoreOf cX3_scoreOf 2 (some .int))) { frames := 1, cells := 0, slots := 0, locals := 21 } (va_Pc [.ref (zq 0), .int (nI k)] (PcB D dA E [(zq 0, .inr (6, [.ref (zq 1), .ref (zq 3), .ref (zq 5), .ref (zq 7), .ref (zq 9), .ref (zq 11), .int (nI aq), .int fd])), (zq 5, .inr (5, [.ref (zq 6)])), (zq 6, .inl (dA 0, 1200, .inl sc))] sz)) (va_Qi (fun (r : Int32) (u : Unit) => r = sc (30 * aq + k)) (fun u t => va_P D vwCl [(zq 0, .inr (6, [.ref (zq 1), .ref (zq 3), .ref (zq 5), .ref (zq 7), .ref (zq 9), .ref (zq 11), .int (nI aq), .int fd])), (zq 5, .inr (5, [.ref (zq 6)])), (zq 6, .inl (dA 0, 1200, .inl sc))] t.heap ∧ va_D (va_A [(zq 0, .inr (6, [.ref (zq 1), .ref (zq 3), .ref (zq 5), .ref (zq 7), .ref (zq 9), .ref (zq 11), .int (nI aq), .int fd])), (zq 5, .inr (5, [.ref (zq 6)])), (zq 6, .inl (dA 0, 1200, .inl sc))] sz) [(zq 0, .inr (6, [.ref (zq 1), .ref (zq 3), .ref (zq 5), .ref (zq 7), .ref (zq 9), .ref (zq 11), .int (nI aq), .int fd])), (zq 5, .inr (5, [.ref (zq 6)])), (zq 6, .inl (dA 0, 1200, .inl sc))]) (va_A [(zq 0, .inr (6, [.ref (zq 1), .ref (zq 3), .ref (zq 5), .ref (zq 7), .ref (zq 9), .ref (zq 11), .int (nI aq), .int fd])), (zq 5, .inr (5, [.ref (zq 6)])), (zq 6, .inl (dA 0, 1200, .inl sc))] sz)) 0 0 (va_A [(zq 0, .inr (6, [.ref (zq 1), .ref (zq 3), .ref (zq 5), .ref (zq 7), .ref (zq 9), .ref (zq 11), .int (nI aq), .int fd])), (zq 5, .inr (5, [.ref (zq 6)])), (zq 6, .inl (dA 0, 1200, .inl sc))] sz) := by
  refine mb_of (Qc := fun A => va_Qi (fun (r : Int32) (u : Unit) => r = sc (30 * aq + k)) (fun u t => va_P D vwCl [(zq 0, .inr (6, [.ref (zq 1), .ref (zq 3), .ref (zq 5), .ref (zq 7), .ref (zq 9), .ref (zq 11), .int (nI aq), .int fd])), (zq 5, .inr (5, [.ref (zq 6)])), (zq 6, .inl (dA 0, 1200, .inl sc))] t.heap ∧ va_D A [(zq 0, .inr (6, [.ref (zq 1), .ref (zq 3), .ref (zq 5), .ref (zq 7), .ref (zq 9), .ref (zq 11), .int (nI aq), .int fd])), (zq 5, .inr (5, [.ref (zq 6)])), (zq 6, .inl (dA 0, 1200, .inl sc))]) A) RX3 rfl (by decide) (Nat.le_of_ble_eq_true rfl) ?_
  intro p e s m args below meth c hae hx hb hr hts hown hlocks hml hnm hP hK A hAe hD hZ hS hA ls hl
  replace hl : lv_has ls 2 [(0, .ref (zq 0)), (1, .int (nI k))] := hl
  refine lv_aload_n hx hb dX3_scoreOf_0 rfl (lv_at hl 0 rfl) ?_
  refine va_get (D := D) (ci := 6) (v := .ref (zq 5)) (C := RX3) (T := TX3) (N := 8) hx hb hts inAX3 hown hK hP 0 rfl rfl 2 (by decide) (hts _ q315) (fun _ h9 => h9) rfl dX3_scoreOf_1 ?_
  refine lv_aload_n hx hb dX3_scoreOf_4 rfl (lv_at hl 0 rfl) ?_
  refine va_get (D := D) (ci := 6) (v := .int (nI aq)) (C := RX3) (T := TX3) (N := 8) hx hb hts inAX3 hown hK hP 0 rfl rfl 6 (by decide) (hts _ q439) (fun _ h9 => h9) rfl dX3_scoreOf_5 ?_
  refine lv_iload_n hx hb dX3_scoreOf_8 rfl (lv_at hl 1 rfl) ?_
  replace hPc := hP.sub (ws' := []) [] rfl
  replace hDc := hD.sub (ws' := []) [] (by decide) rfl
  replace hFc := va_free (wc := []) hD hS hA [] rfl
  refine va_calli (va_runS (As := [.int (nI aq), .int (nI k)]) (rest := [.ref (zq 5)]) ⟨hx, hb, hml, hown, hts⟩ (z_cell l D dA E aq k s.heap.size  (by omega) (by omega)) (va_cwS 2 hts (ga_S q441 q442 q341 q440) rfl rfl rfl (by decide +kernel) ⟨(Nat.le_of_ble_eq_true rfl), (Nat.le_of_ble_eq_true rfl)⟩) ⟨pb_blind, pb_pre hK hPc hDc hZ hS hFc _⟩ rfl rfl hl.1 rfl (lv_room (Nat.le_of_ble_eq_true rfl)) dX3_scoreOf_9 ⟨(Nat.le_of_ble_eq_true rfl), (Nat.le_of_ble_eq_true rfl)⟩) hS (fun q _ h => hFc q h) hFc (fun r u t H1 locs ht hvm hw hB hz1 hk1 hS => ?_)
  refine W.widen (k := 0) (n := 0) (Nat.le_of_ble_eq_true rfl) (Nat.le_of_ble_eq_true rfl) ?_
  obtain ⟨r1, rfl⟩ : ∃ z, z = r := ⟨_, rfl⟩
  obtain ⟨u2, rfl⟩ : ∃ z, z = u := ⟨_, rfl⟩
  have hw3 := hw
  clear hw
  obtain ⟨hP1, hD1⟩ := hB
  rw [ht] at hP1
  obtain ⟨hP, hD⟩ := va_join (wr := [(zq 0, .inr (6, [.ref (zq 1), .ref (zq 3), .ref (zq 5), .ref (zq 7), .ref (zq 9), .ref (zq 11), .int (nI aq), .int fd])), (zq 5, .inr (5, [.ref (zq 6)])), (zq 6, .inl (dA 0, 1200, .inl sc))]) (w1 := []) hP hD [] [0, 1, 2] rfl rfl (by decide) (by decide) hk1 hFc hP1 hD1
  generalize H1 = H at hP hS ⊢
  replace hP : va_P D vwCl [(zq 0, .inr (6, [.ref (zq 1), .ref (zq 3), .ref (zq 5), .ref (zq 7), .ref (zq 9), .ref (zq 11), .int (nI aq), .int fd])), (zq 5, .inr (5, [.ref (zq 6)])), (zq 6, .inl (dA 0, 1200, .inl sc))] H := hP
  replace hD : va_D A [(zq 0, .inr (6, [.ref (zq 1), .ref (zq 3), .ref (zq 5), .ref (zq 7), .ref (zq 9), .ref (zq 11), .int (nI aq), .int fd])), (zq 5, .inr (5, [.ref (zq 6)])), (zq 6, .inl (dA 0, 1200, .inl sc))] := hD
  obtain rfl : r1 = nI (30 * aq + k) := hw3
  replace hPc := hP.sub (ws' := [(zq 5, .inr (5, [.ref (zq 6)])), (zq 6, .inl (dA 0, 1200, .inl sc))]) [1, 2] rfl
  replace hDc := hD.sub (ws' := [(zq 5, .inr (5, [.ref (zq 6)])), (zq 6, .inl (dA 0, 1200, .inl sc))]) [1, 2] (by decide) rfl
  replace hFc := va_free (wc := [(zq 5, .inr (5, [.ref (zq 6)])), (zq 6, .inl (dA 0, 1200, .inl sc))]) hD hS hA [1, 2] rfl
  refine va_calli (va_runV (As := [.int (nI (30 * aq + k))]) (rest := []) ⟨hx, hb, hml, hown, hts⟩ (t_getN l D dA E (zq 5) (zq 6) 1200 sc (30 * aq + k) H.size  (by omega) (by decide)) (cwV 1 hts (ga_V q438 q203 q200 q204 q201) rfl rfl rfl (by decide +kernel) ⟨(Nat.le_of_ble_eq_true rfl), (Nat.le_of_ble_eq_true rfl)⟩) ⟨pb_blind, va_recv hK hPc (ci := 5) (q0 := 0) rfl rfl, pb_pre hK hPc hDc hZ hS hFc _⟩ rfl rfl hl.1 rfl (lv_room (Nat.le_of_ble_eq_true rfl)) dX3_scoreOf_12 ⟨(Nat.le_of_ble_eq_true rfl), (Nat.le_of_ble_eq_true rfl)⟩) hS (fun q _ h => hFc q h) hFc (fun r u t H1 locs ht hvm hw hB hz1 hk1 hS => ?_)
  refine W.widen (k := 0) (n := 0) (Nat.le_of_ble_eq_true rfl) (Nat.le_of_ble_eq_true rfl) ?_
  obtain ⟨r4, rfl⟩ : ∃ z, z = r := ⟨_, rfl⟩
  obtain ⟨u5, rfl⟩ : ∃ z, z = u := ⟨_, rfl⟩
  have hw6 := hw
  clear hw
  obtain ⟨hP1, hD1⟩ := hB
  rw [ht] at hP1
  obtain ⟨hP, hD⟩ := va_join (wr := [(zq 0, .inr (6, [.ref (zq 1), .ref (zq 3), .ref (zq 5), .ref (zq 7), .ref (zq 9), .ref (zq 11), .int (nI aq), .int fd]))]) (w1 := [(zq 5, .inr (5, [.ref (zq 6)])), (zq 6, .inl (dA 0, 1200, .inl sc))]) hP hD [1, 2] [0] rfl rfl (by decide) (by decide) hk1 hFc hP1 hD1
  generalize H1 = H at hP hS ⊢
  replace hP : va_P D vwCl [(zq 0, .inr (6, [.ref (zq 1), .ref (zq 3), .ref (zq 5), .ref (zq 7), .ref (zq 9), .ref (zq 11), .int (nI aq), .int fd])), (zq 5, .inr (5, [.ref (zq 6)])), (zq 6, .inl (dA 0, 1200, .inl sc))] H := hP
  replace hD : va_D A [(zq 0, .inr (6, [.ref (zq 1), .ref (zq 3), .ref (zq 5), .ref (zq 7), .ref (zq 9), .ref (zq 11), .int (nI aq), .int fd])), (zq 5, .inr (5, [.ref (zq 6)])), (zq 6, .inl (dA 0, 1200, .inl sc))] := hD
  obtain rfl : r4 = sc (30 * aq + k) := hw6
  refine W.widen (k := 0) (n := 0) (Nat.le_of_ble_eq_true rfl) (Nat.le_of_ble_eq_true rfl) ?_
  have hP9 := hP.sub (ws' := [(zq 0, .inr (6, [.ref (zq 1), .ref (zq 3), .ref (zq 5), .ref (zq 7), .ref (zq 9), .ref (zq 11), .int (nI aq), .int fd])), (zq 5, .inr (5, [.ref (zq 6)])), (zq 6, .inl (dA 0, 1200, .inl sc))]) [0, 1, 2] rfl
  have hD9 := hD.sub (ws' := [(zq 0, .inr (6, [.ref (zq 1), .ref (zq 3), .ref (zq 5), .ref (zq 7), .ref (zq 9), .ref (zq 11), .int (nI aq), .int fd])), (zq 5, .inr (5, [.ref (zq 6)])), (zq 6, .inl (dA 0, 1200, .inl sc))]) [0, 1, 2] (by decide) rfl
  exact W.iret (v := (sc (30 * aq + k))) hx hb hr (fun t ht hW => ⟨⟨(sc (30 * aq + k)), (), rfl, rfl, ⟨by rw [ht]; exact hP9, hD9⟩⟩, hS.F ht⟩) hS.2.2 dX3_scoreOf_15
