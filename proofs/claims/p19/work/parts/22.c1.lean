/-! CONTRACTS, general -/
theorem q199 : (.fieldLink RX2 7 "TallowIndex$Row" "cells" "[I" : Cond) ∈ WA := WA_of (tb_1 76 rfl) rfl
theorem q200 : (.selects RX2 yX2_get yX2_get : Cond) ∈ WA := WA_of (tb_1 194 rfl) rfl
theorem q201 : (.code yX2_get cX2_get 2 (some .int) : Cond) ∈ WA := WA_of (tb_1 195 rfl) rfl
theorem q202 : (.methodLink RX2 13 yX2_get : Cond) ∈ WA := WA_of (tb_1 216 rfl) rfl
theorem q203 : (.instanceMethod yX2_get : Cond) ∈ WA := WA_of (tb_1 193 rfl) rfl
theorem q204 : (.initialized RX2 : Cond) ∈ WA := WA_of (tb_1 6 rfl) rfl
def rgF (n : Nat) (f : Nat → Int32) (p : Int32) : Int32 := if p < 0 then 0 else if nI n ≤ p then 0 else f p.toNatClampNeg
def evF (v : Int32) : Int32 := v &&& (-2)
theorem wc_y {w : Nat → Int32} {a : Int32} {n : Nat} (h : w n = a) : nI (cn (fun i => decide (w i = a)) n + 1) = nI (cn (fun i => decide (w i = a)) (n + 1)) := cn_y (decide_eq_true h)
theorem cntA_cong {w p p' : Nat → Int32} {a q : Int32} : ∀ n, (∀ k, k < n → w k = a → p' k = p k) → cntA w p' a q n = cntA w p a q n
  | 0, _ => rfl
  | n + 1, h => by
    unfold cntA
    rw [cntA_cong n (fun k hk => h k (by omega))]
    by_cases e : w n = a
    · rw [h n (by omega) e]
    · simp [e]
def clF (w p : Nat → Int32) (a : Int32) (n j : Nat) : Int32 := if w j = a then p j else p j - nI (cntA w p a (p j) n)
theorem cntA_cl {w p : Nat → Int32} {a q : Int32} {n i : Nat} : cntA w (fl (clF w p a n) p i) a q n = cntA w p a q n := cntA_cong n (fun k _ e => by
  unfold fl
  split
  · unfold clF; rw [if_pos e]
  · rfl)
def ffB (w p : Nat → Int32) (e : Nat) : Nat → Bool
  | 0 => true
  | n + 1 => ffB w p e n && !(decide (w n = w e) && decide (p n = p e))
theorem vin9 {x : Int32} {n : Nat} (h1 : ¬ x < 0) (h2 : x < nI n) (hn : n < 2 ^ 31) : vp_in x n := by
  rcases pk_ix x hn with h | h | ⟨j, hj, rfl⟩
  · exact absurd h h1
  · have e1 : x < nI n ↔ x.toInt < (nI n).toInt := Int32.lt_iff_toInt_lt
    have e2 : nI n ≤ x ↔ (nI n).toInt ≤ x.toInt := Int32.le_iff_toInt_le
    exact absurd (e1.mp h2) (by have := e2.mp h; omega)
  · exact vp_in_nI hj hn
theorem i32_nle {x y : Int32} (h : x < y) : ¬ y ≤ x := by
  have e1 : x < y ↔ x.toInt < y.toInt := Int32.lt_iff_toInt_lt
  have e2 : y ≤ x ↔ y.toInt ≤ x.toInt := Int32.le_iff_toInt_le
  intro q
  have := e1.mp h
  have := e2.mp q
  omega
theorem i32_le {x y : Int32} (h : ¬ x < y) : y ≤ x := by
  have e1 : x < y ↔ x.toInt < y.toInt := Int32.lt_iff_toInt_lt
  have e2 : y ≤ x ↔ y.toInt ≤ x.toInt := Int32.le_iff_toInt_le
  exact e2.mpr (by have := mt e1.mpr h; omega)
theorem sat_n0 {w p : Nat → Int32} {a t : Int32} {n : Nat} (h1 : ¬ w n = a) : nI (sat w p a t n) = nI (sat w p a t (n + 1)) := by simp [sat, h1]
theorem sat_n1 {w p : Nat → Int32} {a t : Int32} {n : Nat} (h1 : ¬ p n = t) : nI (sat w p a t n) = nI (sat w p a t (n + 1)) := by simp [sat, h1]
theorem cntA_n0 {w p : Nat → Int32} {a b : Int32} {n : Nat} (h1 : ¬ w n = a) : nI (cntA w p a b n) = nI (cntA w p a b (n + 1)) := by simp [cntA, h1]
theorem cntA_n1 {w p : Nat → Int32} {a b : Int32} {n : Nat} (h1 : b ≤ p n) : nI (cntA w p a b n) = nI (cntA w p a b (n + 1)) := by simp [cntA, Int32.not_lt.mpr h1]
set_option maxHeartbeats 4000000 in
set_option maxRecDepth 100000 in
theorem t_getN (l : Launch) (D : va_G) (dA : Nat → ClassId) (E : Nat) (h r0 n : Nat) (f : Nat → Int32) (k : Nat) (sz : Nat) (hk : k < n) (hn : n < 2 ^ 31)  : Met l yX2_get (wq (.code yX2_get cX2_get 2 (some .int))) { frames := 0, cells := 0, slots := 0, locals := 0 } (va_Pc [.ref h, .int (nI k)] (PcB D dA E [(h, .inr (5, [.ref r0])), (r0, .inl (dA 0, n, .inl f))] sz)) (va_Qi (fun (r : Int32) (u : Unit) => r = f k) (fun u t => va_P D vwCl [(h, .inr (5, [.ref r0])), (r0, .inl (dA 0, n, .inl f))] t.heap ∧ va_D (va_A [(h, .inr (5, [.ref r0])), (r0, .inl (dA 0, n, .inl f))] sz) [(h, .inr (5, [.ref r0])), (r0, .inl (dA 0, n, .inl f))]) (va_A [(h, .inr (5, [.ref r0])), (r0, .inl (dA 0, n, .inl f))] sz)) 0 0 (va_A [(h, .inr (5, [.ref r0])), (r0, .inl (dA 0, n, .inl f))] sz) := by
  refine mb_of (Qc := fun A => va_Qi (fun (r : Int32) (u : Unit) => r = f k) (fun u t => va_P D vwCl [(h, .inr (5, [.ref r0])), (r0, .inl (dA 0, n, .inl f))] t.heap ∧ va_D A [(h, .inr (5, [.ref r0])), (r0, .inl (dA 0, n, .inl f))]) A) RX2 rfl (by decide) (Nat.le_of_ble_eq_true rfl) ?_
  intro p e s m args below meth c hae hx hb hr hts hown hlocks hml hnm hP hK A hAe hD hZ hS hA ls hl
  replace hl : lv_has ls 2 [(0, .ref h), (1, .int (nI k))] := hl
  refine lv_iload_n hx hb dX2_get_0 rfl (lv_at hl 1 rfl) ?_
  refine lv_if_lt (tgt := 13) hx hb dX2_get_1 (by decide) (fun c1 => absurd ((nI_ltI (a := k) (b := 0) (by omega) (by omega)).mp c1) (by omega)) (fun _ => ?_)
  refine lv_iload_n hx hb dX2_get_4 rfl (lv_at hl 1 rfl) ?_
  refine lv_aload_n hx hb dX2_get_5 rfl (lv_at hl 0 rfl) ?_
  refine va_get (D := D) (ci := 5) (v := .ref r0) (C := RX2) (T := TX2) (N := 1) hx hb hts inAX2 hown hK hP 0 rfl rfl 0 (by decide) (hts _ q199) (fun _ h9 => h9) rfl dX2_get_6 ?_
  refine va_alen hx hb hK hP 1 0 rfl rfl (v := nI n) rfl dX2_get_9 ?_
  refine lv_icmp_lt (tgt := 17) hx hb dX2_get_10 (by decide) (fun _ => ?_) (fun c2 => absurd ((nI_ltI (a := k) (b := n) (by omega) (by omega)).mpr (by omega)) c2)
  refine lv_aload_n hx hb dX2_get_17 rfl (lv_at hl 0 rfl) ?_
  refine va_get (D := D) (ci := 5) (v := .ref r0) (C := RX2) (T := TX2) (N := 1) hx hb hts inAX2 hown hK hP 0 rfl rfl 0 (by decide) (hts _ q199) (fun _ h9 => h9) rfl dX2_get_18 ?_
  refine lv_iload_n hx hb dX2_get_21 rfl (lv_at hl 1 rfl) ?_
  refine va_iald hx hb hK hP 1 0 rfl rfl (vp_in_nI (n := k) (by omega) (by omega)) dX2_get_22 ?_
  refine lv_topi (fun x3 ex3 => ?_)
  obtain rfl : x3 = f k := ex3.trans (by rw [nI_clamp (n := k) (by omega)])
  refine W.widen (k := 0) (n := 0) (Nat.le_of_ble_eq_true rfl) (Nat.le_of_ble_eq_true rfl) ?_
  have hP9 := hP.sub (ws' := [(h, .inr (5, [.ref r0])), (r0, .inl (dA 0, n, .inl f))]) [0, 1] rfl
  have hD9 := hD.sub (ws' := [(h, .inr (5, [.ref r0])), (r0, .inl (dA 0, n, .inl f))]) [0, 1] (by decide) rfl
  exact W.iret (v := (f k)) hx hb hr (fun t ht hW => ⟨⟨(f k), (), rfl, rfl, ⟨by rw [ht]; exact hP9, hD9⟩⟩, hS.F ht⟩) hS.2.2 dX2_get_23

set_option maxHeartbeats 4000000 in
set_option maxRecDepth 100000 in
theorem t_get (l : Launch) (D : va_G) (dA : Nat → ClassId) (E : Nat) (h r0 n : Nat) (f : Nat → Int32) (p0 : Int32) (sz : Nat) (hn : n < 2 ^ 31)  : Met l yX2_get (wq (.code yX2_get cX2_get 2 (some .int))) { frames := 0, cells := 0, slots := 0, locals := 0 } (va_Pc [.ref h, .int p0] (PcB D dA E [(h, .inr (5, [.ref r0])), (r0, .inl (dA 0, n, .inl f))] sz)) (va_Qi (fun (r : Int32) (u : Unit) => r = rgF n f p0) (fun u t => va_P D vwCl [(h, .inr (5, [.ref r0])), (r0, .inl (dA 0, n, .inl f))] t.heap ∧ va_D (va_A [(h, .inr (5, [.ref r0])), (r0, .inl (dA 0, n, .inl f))] sz) [(h, .inr (5, [.ref r0])), (r0, .inl (dA 0, n, .inl f))]) (va_A [(h, .inr (5, [.ref r0])), (r0, .inl (dA 0, n, .inl f))] sz)) 0 0 (va_A [(h, .inr (5, [.ref r0])), (r0, .inl (dA 0, n, .inl f))] sz) := by
  refine mb_of (Qc := fun A => va_Qi (fun (r : Int32) (u : Unit) => r = rgF n f p0) (fun u t => va_P D vwCl [(h, .inr (5, [.ref r0])), (r0, .inl (dA 0, n, .inl f))] t.heap ∧ va_D A [(h, .inr (5, [.ref r0])), (r0, .inl (dA 0, n, .inl f))]) A) RX2 rfl (by decide) (Nat.le_of_ble_eq_true rfl) ?_
  intro p e s m args below meth c hae hx hb hr hts hown hlocks hml hnm hP hK A hAe hD hZ hS hA ls hl
  replace hl : lv_has ls 2 [(0, .ref h), (1, .int p0)] := hl
  refine lv_iload_n hx hb dX2_get_0 rfl (lv_at hl 1 rfl) ?_
  refine lv_if_lt (tgt := 13) hx hb dX2_get_1 (by decide) (fun c1 => ?_) (fun c1 => ?_)
  · refine lv_iconst (v := 0) hx hb dX2_get_13 (by decide) ?_
    refine lv_goto (tgt := 23) hx hb dX2_get_14 (by decide) ?_
    refine W.widen (k := 0) (n := 0) (Nat.le_of_ble_eq_true rfl) (Nat.le_of_ble_eq_true rfl) ?_
    have hP9 := hP.sub (ws' := [(h, .inr (5, [.ref r0])), (r0, .inl (dA 0, n, .inl f))]) [0, 1] rfl
    have hD9 := hD.sub (ws' := [(h, .inr (5, [.ref r0])), (r0, .inl (dA 0, n, .inl f))]) [0, 1] (by decide) rfl
    exact W.iret (v := 0) hx hb hr (fun t ht hW => ⟨⟨0, (), rfl, (if_pos c1).symm, ⟨by rw [ht]; exact hP9, hD9⟩⟩, hS.F ht⟩) hS.2.2 dX2_get_23
  · refine lv_iload_n hx hb dX2_get_4 rfl (lv_at hl 1 rfl) ?_
    refine lv_aload_n hx hb dX2_get_5 rfl (lv_at hl 0 rfl) ?_
    refine va_get (D := D) (ci := 5) (v := .ref r0) (C := RX2) (T := TX2) (N := 1) hx hb hts inAX2 hown hK hP 0 rfl rfl 0 (by decide) (hts _ q199) (fun _ h9 => h9) rfl dX2_get_6 ?_
    refine va_alen hx hb hK hP 1 0 rfl rfl (v := nI n) rfl dX2_get_9 ?_
    refine lv_icmp_lt (tgt := 17) hx hb dX2_get_10 (by decide) (fun c2 => ?_) (fun c2 => ?_)
    · refine lv_aload_n hx hb dX2_get_17 rfl (lv_at hl 0 rfl) ?_
      refine va_get (D := D) (ci := 5) (v := .ref r0) (C := RX2) (T := TX2) (N := 1) hx hb hts inAX2 hown hK hP 0 rfl rfl 0 (by decide) (hts _ q199) (fun _ h9 => h9) rfl dX2_get_18 ?_
      refine lv_iload_n hx hb dX2_get_21 rfl (lv_at hl 1 rfl) ?_
      refine va_iald hx hb hK hP 1 0 rfl rfl (vin9 c1 c2 hn) dX2_get_22 ?_
      refine lv_topi (fun x3 ex3 => ?_)
      refine W.widen (k := 0) (n := 0) (Nat.le_of_ble_eq_true rfl) (Nat.le_of_ble_eq_true rfl) ?_
      have hP9 := hP.sub (ws' := [(h, .inr (5, [.ref r0])), (r0, .inl (dA 0, n, .inl f))]) [0, 1] rfl
      have hD9 := hD.sub (ws' := [(h, .inr (5, [.ref r0])), (r0, .inl (dA 0, n, .inl f))]) [0, 1] (by decide) rfl
      exact W.iret (v := x3) hx hb hr (fun t ht hW => ⟨⟨x3, (), rfl, (ex3.trans ((if_neg c1).trans (if_neg (i32_nle c2))).symm), ⟨by rw [ht]; exact hP9, hD9⟩⟩, hS.F ht⟩) hS.2.2 dX2_get_23
    · refine lv_iconst (v := 0) hx hb dX2_get_13 (by decide) ?_
      refine lv_goto (tgt := 23) hx hb dX2_get_14 (by decide) ?_
      refine W.widen (k := 0) (n := 0) (Nat.le_of_ble_eq_true rfl) (Nat.le_of_ble_eq_true rfl) ?_
      have hP9 := hP.sub (ws' := [(h, .inr (5, [.ref r0])), (r0, .inl (dA 0, n, .inl f))]) [0, 1] rfl
      have hD9 := hD.sub (ws' := [(h, .inr (5, [.ref r0])), (r0, .inl (dA 0, n, .inl f))]) [0, 1] (by decide) rfl
      exact W.iret (v := 0) hx hb hr (fun t ht hW => ⟨⟨0, (), rfl, ((if_neg c1).trans (if_pos (i32_le c2))).symm, ⟨by rw [ht]; exact hP9, hD9⟩⟩, hS.F ht⟩) hS.2.2 dX2_get_23

set_option maxHeartbeats 4000000 in
set_option maxRecDepth 100000 in
theorem t_putN (l : Launch) (D : va_G) (dA : Nat → ClassId) (E : Nat) (h r0 n : Nat) (f : Nat → Int32) (k : Nat) (v : Int32) (sz : Nat) (hk : k < n) (hn : n < 2 ^ 31)  : Met l yX2_put (wq (.code yX2_put cX2_put 3 none)) { frames := 0, cells := 0, slots := 0, locals := 0 } (va_Pc [.ref h, .int (nI k), .int v] (PcB D dA E [(h, .inr (5, [.ref r0])), (r0, .inl (dA 0, n, .inl f))] sz)) (va_Qv (fun (u : Unit) => True) (fun u t => va_P D vwCl [(h, .inr (5, [.ref r0])), (r0, .inl (dA 0, n, .inl (upd f k v)))] t.heap ∧ va_D (va_A [(h, .inr (5, [.ref r0])), (r0, .inl (dA 0, n, .inl f))] sz) [(h, .inr (5, [.ref r0])), (r0, .inl (dA 0, n, .inl (upd f k v)))]) (va_A [(h, .inr (5, [.ref r0])), (r0, .inl (dA 0, n, .inl f))] sz)) 0 0 (va_A [(h, .inr (5, [.ref r0])), (r0, .inl (dA 0, n, .inl f))] sz) := by
  refine mb_of (Qc := fun A => va_Qv (fun (u : Unit) => True) (fun u t => va_P D vwCl [(h, .inr (5, [.ref r0])), (r0, .inl (dA 0, n, .inl (upd f k v)))] t.heap ∧ va_D A [(h, .inr (5, [.ref r0])), (r0, .inl (dA 0, n, .inl (upd f k v)))]) A) RX2 rfl (by decide) (Nat.le_of_ble_eq_true rfl) ?_
  intro p e s m args below meth c hae hx hb hr hts hown hlocks hml hnm hP hK A hAe hD hZ hS hA ls hl
  replace hl : lv_has ls 3 [(0, .ref h), (1, .int (nI k)), (2, .int v)] := hl
  refine lv_iload_n hx hb dX2_put_0 rfl (lv_at hl 1 rfl) ?_
  refine lv_if_lt (tgt := 20) hx hb dX2_put_1 (by decide) (fun c1 => absurd ((nI_ltI (a := k) (b := 0) (by omega) (by omega)).mp c1) (by omega)) (fun _ => ?_)
  refine lv_iload_n hx hb dX2_put_4 rfl (lv_at hl 1 rfl) ?_
  refine lv_aload_n hx hb dX2_put_5 rfl (lv_at hl 0 rfl) ?_
  refine va_get (D := D) (ci := 5) (v := .ref r0) (C := RX2) (T := TX2) (N := 1) hx hb hts inAX2 hown hK hP 0 rfl rfl 0 (by decide) (hts _ q199) (fun _ h9 => h9) rfl dX2_put_6 ?_
  refine va_alen hx hb hK hP 1 0 rfl rfl (v := nI n) rfl dX2_put_9 ?_
  refine lv_icmp_ge (tgt := 20) hx hb dX2_put_10 (by decide) (fun c2 => absurd ((nI_leI (a := n) (b := k) (by omega) (by omega)).mp c2) (by omega)) (fun _ => ?_)
  refine lv_aload_n hx hb dX2_put_13 rfl (lv_at hl 0 rfl) ?_
  refine va_get (D := D) (ci := 5) (v := .ref r0) (C := RX2) (T := TX2) (N := 1) hx hb hts inAX2 hown hK hP 0 rfl rfl 0 (by decide) (hts _ q199) (fun _ h9 => h9) rfl dX2_put_14 ?_
  refine lv_iload_n hx hb dX2_put_17 rfl (lv_at hl 1 rfl) ?_
  refine lv_iload_n hx hb dX2_put_18 rfl (lv_at hl 2 rfl) ?_
  refine va_iast hx hb hK hP hD hS 1 0 rfl rfl (vp_in_nI (n := k) (by omega) (by omega)) dX2_put_19 (fun H locs hP hD hS => ?_)
  rw [nI_clamp (n := k) (by omega)] at hP hD
  replace hP : va_P D vwCl [(h, .inr (5, [.ref r0])), (r0, .inl (dA 0, n, .inl (upd f k v)))] H := hP
  replace hD : va_D A [(h, .inr (5, [.ref r0])), (r0, .inl (dA 0, n, .inl (upd f k v)))] := hD
  refine W.widen (k := 0) (n := 0) (Nat.le_of_ble_eq_true rfl) (Nat.le_of_ble_eq_true rfl) ?_
  have hP9 := hP.sub (ws' := [(h, .inr (5, [.ref r0])), (r0, .inl (dA 0, n, .inl (upd f k v)))]) [0, 1] rfl
  have hD9 := hD.sub (ws' := [(h, .inr (5, [.ref r0])), (r0, .inl (dA 0, n, .inl (upd f k v)))]) [0, 1] (by decide) rfl
  exact W.vret hx hb hr (fun t ht hW => ⟨⟨(), rfl, trivial, ⟨by rw [ht]; exact hP9, hD9⟩⟩, hS.F ht⟩) hS.2.2 dX2_put_20

set_option maxHeartbeats 4000000 in
set_option maxRecDepth 100000 in
theorem t_put (l : Launch) (D : va_G) (dA : Nat → ClassId) (E : Nat) (h r0 n : Nat) (f : Nat → Int32) (p0 v : Int32) (sz : Nat) (hn : n < 2 ^ 31)  : Met l yX2_put (wq (.code yX2_put cX2_put 3 none)) { frames := 0, cells := 0, slots := 0, locals := 0 } (va_Pc [.ref h, .int p0, .int v] (PcB D dA E [(h, .inr (5, [.ref r0])), (r0, .inl (dA 0, n, .inl f))] sz)) (va_Qv (fun (u : Nat → Int32) => True) (fun u t => va_P D vwCl [(h, .inr (5, [.ref r0])), (r0, .inl (dA 0, n, .inl u))] t.heap ∧ va_D (va_A [(h, .inr (5, [.ref r0])), (r0, .inl (dA 0, n, .inl f))] sz) [(h, .inr (5, [.ref r0])), (r0, .inl (dA 0, n, .inl u))]) (va_A [(h, .inr (5, [.ref r0])), (r0, .inl (dA 0, n, .inl f))] sz)) 0 0 (va_A [(h, .inr (5, [.ref r0])), (r0, .inl (dA 0, n, .inl f))] sz) := by
  refine mb_of (Qc := fun A => va_Qv (fun (u : Nat → Int32) => True) (fun u t => va_P D vwCl [(h, .inr (5, [.ref r0])), (r0, .inl (dA 0, n, .inl u))] t.heap ∧ va_D A [(h, .inr (5, [.ref r0])), (r0, .inl (dA 0, n, .inl u))]) A) RX2 rfl (by decide) (Nat.le_of_ble_eq_true rfl) ?_
  intro p e s m args below meth c hae hx hb hr hts hown hlocks hml hnm hP hK A hAe hD hZ hS hA ls hl
  replace hl : lv_has ls 3 [(0, .ref h), (1, .int p0), (2, .int v)] := hl
  refine lv_iload_n hx hb dX2_put_0 rfl (lv_at hl 1 rfl) ?_
  refine lv_if_lt (tgt := 20) hx hb dX2_put_1 (by decide) (fun c1 => ?_) (fun c1 => ?_)
  · refine W.widen (k := 0) (n := 0) (Nat.le_of_ble_eq_true rfl) (Nat.le_of_ble_eq_true rfl) ?_
    have hP9 := hP.sub (ws' := [(h, .inr (5, [.ref r0])), (r0, .inl (dA 0, n, .inl f))]) [0, 1] rfl
    have hD9 := hD.sub (ws' := [(h, .inr (5, [.ref r0])), (r0, .inl (dA 0, n, .inl f))]) [0, 1] (by decide) rfl
    exact W.vret hx hb hr (fun t ht hW => ⟨⟨f, rfl, trivial, ⟨by rw [ht]; exact hP9, hD9⟩⟩, hS.F ht⟩) hS.2.2 dX2_put_20
  · refine lv_iload_n hx hb dX2_put_4 rfl (lv_at hl 1 rfl) ?_
    refine lv_aload_n hx hb dX2_put_5 rfl (lv_at hl 0 rfl) ?_
    refine va_get (D := D) (ci := 5) (v := .ref r0) (C := RX2) (T := TX2) (N := 1) hx hb hts inAX2 hown hK hP 0 rfl rfl 0 (by decide) (hts _ q199) (fun _ h9 => h9) rfl dX2_put_6 ?_
    refine va_alen hx hb hK hP 1 0 rfl rfl (v := nI n) rfl dX2_put_9 ?_
    refine lv_icmp_ge (tgt := 20) hx hb dX2_put_10 (by decide) (fun c2 => ?_) (fun c2 => ?_)
    · refine W.widen (k := 0) (n := 0) (Nat.le_of_ble_eq_true rfl) (Nat.le_of_ble_eq_true rfl) ?_
      have hP9 := hP.sub (ws' := [(h, .inr (5, [.ref r0])), (r0, .inl (dA 0, n, .inl f))]) [0, 1] rfl
      have hD9 := hD.sub (ws' := [(h, .inr (5, [.ref r0])), (r0, .inl (dA 0, n, .inl f))]) [0, 1] (by decide) rfl
      exact W.vret hx hb hr (fun t ht hW => ⟨⟨f, rfl, trivial, ⟨by rw [ht]; exact hP9, hD9⟩⟩, hS.F ht⟩) hS.2.2 dX2_put_20
    · refine lv_aload_n hx hb dX2_put_13 rfl (lv_at hl 0 rfl) ?_
      refine va_get (D := D) (ci := 5) (v := .ref r0) (C := RX2) (T := TX2) (N := 1) hx hb hts inAX2 hown hK hP 0 rfl rfl 0 (by decide) (hts _ q199) (fun _ h9 => h9) rfl dX2_put_14 ?_
      refine lv_iload_n hx hb dX2_put_17 rfl (lv_at hl 1 rfl) ?_
      refine lv_iload_n hx hb dX2_put_18 rfl (lv_at hl 2 rfl) ?_
      refine va_iast hx hb hK hP hD hS 1 0 rfl rfl (vin9 c1 (Int32.not_le.mp c2) hn) dX2_put_19 (fun H locs hP hD hS => ?_)
      replace hP : va_P D vwCl [(h, .inr (5, [.ref r0])), (r0, .inl (dA 0, n, .inl (upd f (p0).toNatClampNeg v)))] H := hP
      replace hD : va_D A [(h, .inr (5, [.ref r0])), (r0, .inl (dA 0, n, .inl (upd f (p0).toNatClampNeg v)))] := hD
      refine W.widen (k := 0) (n := 0) (Nat.le_of_ble_eq_true rfl) (Nat.le_of_ble_eq_true rfl) ?_
      have hP9 := hP.sub (ws' := [(h, .inr (5, [.ref r0])), (r0, .inl (dA 0, n, .inl (upd f (p0).toNatClampNeg v)))]) [0, 1] rfl
      have hD9 := hD.sub (ws' := [(h, .inr (5, [.ref r0])), (r0, .inl (dA 0, n, .inl (upd f (p0).toNatClampNeg v)))]) [0, 1] (by decide) rfl
      exact W.vret hx hb hr (fun t ht hW => ⟨⟨upd f (p0).toNatClampNeg v, rfl, trivial, ⟨by rw [ht]; exact hP9, hD9⟩⟩, hS.F ht⟩) hS.2.2 dX2_put_20

set_option maxHeartbeats 4000000 in
set_option maxRecDepth 100000 in
theorem t_fill (l : Launch) (D : va_G) (dA : Nat → ClassId) (E : Nat) (h r0 n : Nat) (f : Nat → Int32) (p0 : Int32) (sz : Nat) (hn : n < 2 ^ 31 - 1)  : Met l yX2_fill (wq (.code yX2_fill cX2_fill 3 none)) { frames := 0, cells := 0, slots := 0, locals := 0 } (va_Pc [.ref h, .int p0] (PcB D dA E [(h, .inr (5, [.ref r0])), (r0, .inl (dA 0, n, .inl f))] sz)) (va_Qv (fun (u : Unit) => True) (fun u t => va_P D vwCl [(h, .inr (5, [.ref r0])), (r0, .inl (dA 0, n, .inl (fl (fun _ => p0) f n)))] t.heap ∧ va_D (va_A [(h, .inr (5, [.ref r0])), (r0, .inl (dA 0, n, .inl f))] sz) [(h, .inr (5, [.ref r0])), (r0, .inl (dA 0, n, .inl (fl (fun _ => p0) f n)))]) (va_A [(h, .inr (5, [.ref r0])), (r0, .inl (dA 0, n, .inl f))] sz)) 0 0 (va_A [(h, .inr (5, [.ref r0])), (r0, .inl (dA 0, n, .inl f))] sz) := by
  refine mb_of (Qc := fun A => va_Qv (fun (u : Unit) => True) (fun u t => va_P D vwCl [(h, .inr (5, [.ref r0])), (r0, .inl (dA 0, n, .inl (fl (fun _ => p0) f n)))] t.heap ∧ va_D A [(h, .inr (5, [.ref r0])), (r0, .inl (dA 0, n, .inl (fl (fun _ => p0) f n)))]) A) RX2 rfl (by decide) (Nat.le_of_ble_eq_true rfl) ?_
  intro p e s m args below meth c hae hx hb hr hts hown hlocks hml hnm hP hK A hAe hD hZ hS hA ls hl
  replace hl : lv_has ls 3 [(0, .ref h), (1, .int p0)] := hl
  refine lv_iconst (v := 0) hx hb dX2_fill_0 (by decide) ?_
  refine lv_istore_n (lv' := [(2, .int 0), (0, .ref h), (1, .int p0)]) hx hb dX2_fill_1 rfl hl (by decide) rfl (fun ls hl => ?_)
  have K2 : ∀ (k2 i2 : Nat) (g2_0 : Nat → Int32), 0 ≤ i2 → i2 ≤ n → n < i2 + k2 → (g2_0 = fl (fun _ => p0) f i2) → ∀ (H : Heap) (locs : List Loc), va_P D vwCl [(h, .inr (5, [.ref r0])), (r0, .inl (dA 0, n, .inl g2_0))] H → va_D A [(h, .inr (5, [.ref r0])), (r0, .inl (dA 0, n, .inl g2_0))] → va_S A s.heap H locs → ∀ ls : Array Slot, lv_has ls 3 [(2, .int (nI i2)), (0, .ref h), (1, .int p0)] → W p l e { frames := 0, cells := 0, slots := 0, locals := 0 } s m args below meth c H locs 0 0 (MQ below (va_Qv (fun (u : Unit) => True) (fun u t => va_P D vwCl [(h, .inr (5, [.ref r0])), (r0, .inl (dA 0, n, .inl (fl (fun _ => p0) f n)))] t.heap ∧ va_D A [(h, .inr (5, [.ref r0])), (r0, .inl (dA 0, n, .inl (fl (fun _ => p0) f n)))]) A) args s 0 0 A) (F0 m 2 ls []) := by
    intro k2
    induction k2 with
    | zero => intro i2 g2_0 h1 h2 h3; exact absurd h3 (by omega)
    | succ k2 ih2 =>
      intro i2 g2_0 hlo2 hhi2 hms2 hinv2 H locs hP hD hS ls hl
      have eg2_0 := hinv2
      subst eg2_0
      refine lv_iload_n hx hb dX2_fill_2 rfl (lv_at hl 0 rfl) ?_
      refine lv_aload_n hx hb dX2_fill_3 rfl (lv_at hl 1 rfl) ?_
      refine va_get (D := D) (ci := 5) (v := .ref r0) (C := RX2) (T := TX2) (N := 1) hx hb hts inAX2 hown hK hP 0 rfl rfl 0 (by decide) (hts _ q199) (fun _ h9 => h9) rfl dX2_fill_4 ?_
      refine va_alen hx hb hK hP 1 0 rfl rfl (v := nI n) rfl dX2_fill_7 ?_
      refine lv_icmp_ge (tgt := 24) hx hb dX2_fill_8 (by decide) (fun c1 => ?_) (fun c1 => ?_)
      · replace c1 := (nI_leI (a := n) (b := i2) (by omega) (by omega)).mp c1
        obtain rfl : n = i2 := (by omega)
        replace hP : va_P D vwCl [(h, .inr (5, [.ref r0])), (r0, .inl (dA 0, n, .inl (fl (fun _ => p0) f n)))] H := hP
        replace hD : va_D A [(h, .inr (5, [.ref r0])), (r0, .inl (dA 0, n, .inl (fl (fun _ => p0) f n)))] := hD
        refine W.widen (k := 0) (n := 0) (Nat.le_of_ble_eq_true rfl) (Nat.le_of_ble_eq_true rfl) ?_
        have hP9 := hP.sub (ws' := [(h, .inr (5, [.ref r0])), (r0, .inl (dA 0, n, .inl (fl (fun _ => p0) f n)))]) [0, 1] rfl
        have hD9 := hD.sub (ws' := [(h, .inr (5, [.ref r0])), (r0, .inl (dA 0, n, .inl (fl (fun _ => p0) f n)))]) [0, 1] (by decide) rfl
        exact W.vret hx hb hr (fun t ht hW => ⟨⟨(), rfl, trivial, ⟨by rw [ht]; exact hP9, hD9⟩⟩, hS.F ht⟩) hS.2.2 dX2_fill_24
      · replace c1 := mt (nI_leI (a := n) (b := i2) (by omega) (by omega)).mpr c1
        refine lv_aload_n hx hb dX2_fill_11 rfl (lv_at hl 1 rfl) ?_
        refine va_get (D := D) (ci := 5) (v := .ref r0) (C := RX2) (T := TX2) (N := 1) hx hb hts inAX2 hown hK hP 0 rfl rfl 0 (by decide) (hts _ q199) (fun _ h9 => h9) rfl dX2_fill_12 ?_
        refine lv_iload_n hx hb dX2_fill_15 rfl (lv_at hl 0 rfl) ?_
        refine lv_iload_n hx hb dX2_fill_16 rfl (lv_at hl 2 rfl) ?_
        refine va_iast hx hb hK hP hD hS 1 0 rfl rfl (vp_in_nI (n := i2) (by omega) (by omega)) dX2_fill_17 (fun H locs hP hD hS => ?_)
        rw [nI_clamp (n := i2) (by omega)] at hP hD
        replace hP : va_P D vwCl [(h, .inr (5, [.ref r0])), (r0, .inl (dA 0, n, .inl (upd (fl (fun _ => p0) f i2) i2 p0)))] H := hP
        replace hD : va_D A [(h, .inr (5, [.ref r0])), (r0, .inl (dA 0, n, .inl (upd (fl (fun _ => p0) f i2) i2 p0)))] := hD
        refine lv_iinc (v := nI (i2 + 1)) (lv' := [(2, .int (nI (i2 + 1))), (0, .ref h), (1, .int p0)]) hx hb dX2_fill_18 hl (k := 0) rfl (nI_add i2 1) (by decide) rfl (fun ls hl => ?_)
        refine lv_goto (tgt := 2) hx hb dX2_fill_21 (by decide) ?_
        exact ih2 (i2 + 1) (upd (fl (fun _ => p0) f i2) i2 p0) (by omega) (by omega) (by omega) (fl_succ rfl) _ _ hP hD hS ls (lv_sub hl [0, 1, 2] rfl)
  exact K2 (n + 1) 0 f (by omega) (by omega) (by omega) fl_0.symm _ _ hP hD hS ls hl

set_option maxHeartbeats 4000000 in
set_option maxRecDepth 100000 in
theorem t_copyFrom (l : Launch) (D : va_G) (dA : Nat → ClassId) (E : Nat) (h r0 h2 rz n : Nat) (f g : Nat → Int32) (sz : Nat) (hn : n < 2 ^ 31 - 1)  : Met l yX2_copyFrom (wq (.code yX2_copyFrom cX2_copyFrom 3 none)) { frames := 1, cells := 0, slots := 0, locals := 21 } (va_Pc [.ref h, .ref h2] (PcB D dA E [(h, .inr (5, [.ref r0])), (r0, .inl (dA 0, n, .inl f)), (h2, .inr (5, [.ref rz])), (rz, .inl (dA 0, n, .inl g))] sz)) (va_Qv (fun (u : Unit) => True) (fun u t => va_P D vwCl [(h, .inr (5, [.ref r0])), (r0, .inl (dA 0, n, .inl (fl g f n))), (h2, .inr (5, [.ref rz])), (rz, .inl (dA 0, n, .inl g))] t.heap ∧ va_D (va_A [(h, .inr (5, [.ref r0])), (r0, .inl (dA 0, n, .inl f)), (h2, .inr (5, [.ref rz])), (rz, .inl (dA 0, n, .inl g))] sz) [(h, .inr (5, [.ref r0])), (r0, .inl (dA 0, n, .inl (fl g f n))), (h2, .inr (5, [.ref rz])), (rz, .inl (dA 0, n, .inl g))]) (va_A [(h, .inr (5, [.ref r0])), (r0, .inl (dA 0, n, .inl f)), (h2, .inr (5, [.ref rz])), (rz, .inl (dA 0, n, .inl g))] sz)) 0 0 (va_A [(h, .inr (5, [.ref r0])), (r0, .inl (dA 0, n, .inl f)), (h2, .inr (5, [.ref rz])), (rz, .inl (dA 0, n, .inl g))] sz) := by
  refine mb_of (Qc := fun A => va_Qv (fun (u : Unit) => True) (fun u t => va_P D vwCl [(h, .inr (5, [.ref r0])), (r0, .inl (dA 0, n, .inl (fl g f n))), (h2, .inr (5, [.ref rz])), (rz, .inl (dA 0, n, .inl g))] t.heap ∧ va_D A [(h, .inr (5, [.ref r0])), (r0, .inl (dA 0, n, .inl (fl g f n))), (h2, .inr (5, [.ref rz])), (rz, .inl (dA 0, n, .inl g))]) A) RX2 rfl (by decide) (Nat.le_of_ble_eq_true rfl) ?_
  intro p e s m args below meth c hae hx hb hr hts hown hlocks hml hnm hP hK A hAe hD hZ hS hA ls hl
  replace hl : lv_has ls 3 [(0, .ref h), (1, .ref h2)] := hl
  refine lv_iconst (v := 0) hx hb dX2_copyFrom_0 (by decide) ?_
  refine lv_istore_n (lv' := [(2, .int 0), (0, .ref h), (1, .ref h2)]) hx hb dX2_copyFrom_1 rfl hl (by decide) rfl (fun ls hl => ?_)
  have K2 : ∀ (k2 i2 : Nat) (g2_0 : Nat → Int32), 0 ≤ i2 → i2 ≤ n → n < i2 + k2 → (g2_0 = fl g f i2) → ∀ (H : Heap) (locs : List Loc), va_P D vwCl [(h, .inr (5, [.ref r0])), (r0, .inl (dA 0, n, .inl g2_0)), (h2, .inr (5, [.ref rz])), (rz, .inl (dA 0, n, .inl g))] H → va_D A [(h, .inr (5, [.ref r0])), (r0, .inl (dA 0, n, .inl g2_0)), (h2, .inr (5, [.ref rz])), (rz, .inl (dA 0, n, .inl g))] → va_S A s.heap H locs → ∀ ls : Array Slot, lv_has ls 3 [(2, .int (nI i2)), (0, .ref h), (1, .ref h2)] → W p l e { frames := 1, cells := 0, slots := 0, locals := 21 } s m args below meth c H locs 0 0 (MQ below (va_Qv (fun (u : Unit) => True) (fun u t => va_P D vwCl [(h, .inr (5, [.ref r0])), (r0, .inl (dA 0, n, .inl (fl g f n))), (h2, .inr (5, [.ref rz])), (rz, .inl (dA 0, n, .inl g))] t.heap ∧ va_D A [(h, .inr (5, [.ref r0])), (r0, .inl (dA 0, n, .inl (fl g f n))), (h2, .inr (5, [.ref rz])), (rz, .inl (dA 0, n, .inl g))]) A) args s 0 0 A) (F0 m 2 ls []) := by
    intro k2
    induction k2 with
    | zero => intro i2 g2_0 h1 h2 h3; exact absurd h3 (by omega)
    | succ k2 ih2 =>
      intro i2 g2_0 hlo2 hhi2 hms2 hinv2 H locs hP hD hS ls hl
      have eg2_0 := hinv2
      subst eg2_0
      refine lv_iload_n hx hb dX2_copyFrom_2 rfl (lv_at hl 0 rfl) ?_
      refine lv_aload_n hx hb dX2_copyFrom_3 rfl (lv_at hl 1 rfl) ?_
      refine va_get (D := D) (ci := 5) (v := .ref r0) (C := RX2) (T := TX2) (N := 1) hx hb hts inAX2 hown hK hP 0 rfl rfl 0 (by decide) (hts _ q199) (fun _ h9 => h9) rfl dX2_copyFrom_4 ?_
      refine va_alen hx hb hK hP 1 0 rfl rfl (v := nI n) rfl dX2_copyFrom_7 ?_
      refine lv_icmp_ge (tgt := 28) hx hb dX2_copyFrom_8 (by decide) (fun c1 => ?_) (fun c1 => ?_)
      · replace c1 := (nI_leI (a := n) (b := i2) (by omega) (by omega)).mp c1
        obtain rfl : n = i2 := (by omega)
        replace hP : va_P D vwCl [(h, .inr (5, [.ref r0])), (r0, .inl (dA 0, n, .inl (fl g f n))), (h2, .inr (5, [.ref rz])), (rz, .inl (dA 0, n, .inl g))] H := hP
        replace hD : va_D A [(h, .inr (5, [.ref r0])), (r0, .inl (dA 0, n, .inl (fl g f n))), (h2, .inr (5, [.ref rz])), (rz, .inl (dA 0, n, .inl g))] := hD
        refine W.widen (k := 0) (n := 0) (Nat.le_of_ble_eq_true rfl) (Nat.le_of_ble_eq_true rfl) ?_
        have hP9 := hP.sub (ws' := [(h, .inr (5, [.ref r0])), (r0, .inl (dA 0, n, .inl (fl g f n))), (h2, .inr (5, [.ref rz])), (rz, .inl (dA 0, n, .inl g))]) [0, 1, 2, 3] rfl
        have hD9 := hD.sub (ws' := [(h, .inr (5, [.ref r0])), (r0, .inl (dA 0, n, .inl (fl g f n))), (h2, .inr (5, [.ref rz])), (rz, .inl (dA 0, n, .inl g))]) [0, 1, 2, 3] (by decide) rfl
        exact W.vret hx hb hr (fun t ht hW => ⟨⟨(), rfl, trivial, ⟨by rw [ht]; exact hP9, hD9⟩⟩, hS.F ht⟩) hS.2.2 dX2_copyFrom_28
      · replace c1 := mt (nI_leI (a := n) (b := i2) (by omega) (by omega)).mpr c1
        refine lv_aload_n hx hb dX2_copyFrom_11 rfl (lv_at hl 1 rfl) ?_
        refine va_get (D := D) (ci := 5) (v := .ref r0) (C := RX2) (T := TX2) (N := 1) hx hb hts inAX2 hown hK hP 0 rfl rfl 0 (by decide) (hts _ q199) (fun _ h9 => h9) rfl dX2_copyFrom_12 ?_
        refine lv_iload_n hx hb dX2_copyFrom_15 rfl (lv_at hl 0 rfl) ?_
        refine lv_aload_n hx hb dX2_copyFrom_16 rfl (lv_at hl 2 rfl) ?_
        refine lv_iload_n hx hb dX2_copyFrom_17 rfl (lv_at hl 0 rfl) ?_
        replace hPc := hP.sub (ws' := [(h2, .inr (5, [.ref rz])), (rz, .inl (dA 0, n, .inl g))]) [2, 3] rfl
        replace hDc := hD.sub (ws' := [(h2, .inr (5, [.ref rz])), (rz, .inl (dA 0, n, .inl g))]) [2, 3] (by decide) rfl
        replace hFc := va_free (wc := [(h2, .inr (5, [.ref rz])), (rz, .inl (dA 0, n, .inl g))]) hD hS hA [2, 3] rfl
        refine va_calli (va_runV (As := [.int (nI i2)]) (rest := [.int (nI i2), .ref r0]) ⟨hx, hb, hml, hown, hts⟩ (t_getN l D dA E h2 rz n g i2 H.size  (by omega) (by omega)) (cwV 1 hts (ga_V q202 q203 q200 q204 q201) rfl rfl rfl (by decide +kernel) ⟨(Nat.le_of_ble_eq_true rfl), (Nat.le_of_ble_eq_true rfl)⟩) ⟨pb_blind, va_recv hK hPc (ci := 5) (q0 := 0) rfl rfl, pb_pre hK hPc hDc hZ hS hFc _⟩ rfl rfl hl.1 rfl (lv_room (Nat.le_of_ble_eq_true rfl)) dX2_copyFrom_18 ⟨(Nat.le_of_ble_eq_true rfl), (Nat.le_of_ble_eq_true rfl)⟩) hS (fun q _ h => hFc q h) hFc (fun r u t H1 locs ht hvm hw hB hz1 hk1 hS => ?_)
        refine W.widen (k := 0) (n := 0) (Nat.le_of_ble_eq_true rfl) (Nat.le_of_ble_eq_true rfl) ?_
        obtain ⟨r2, rfl⟩ : ∃ z, z = r := ⟨_, rfl⟩
        obtain ⟨u3, rfl⟩ : ∃ z, z = u := ⟨_, rfl⟩
        have hw4 := hw
        clear hw
        obtain ⟨hP1, hD1⟩ := hB
        rw [ht] at hP1
        obtain ⟨hP, hD⟩ := va_join (wr := [(h, .inr (5, [.ref r0])), (r0, .inl (dA 0, n, .inl (fl g f i2)))]) (w1 := [(h2, .inr (5, [.ref rz])), (rz, .inl (dA 0, n, .inl g))]) hP hD [2, 3] [0, 1] rfl rfl (by decide) (by decide) hk1 hFc hP1 hD1
        generalize H1 = H at hP hS ⊢
        replace hP : va_P D vwCl [(h, .inr (5, [.ref r0])), (r0, .inl (dA 0, n, .inl (fl g f i2))), (h2, .inr (5, [.ref rz])), (rz, .inl (dA 0, n, .inl g))] H := hP
        replace hD : va_D A [(h, .inr (5, [.ref r0])), (r0, .inl (dA 0, n, .inl (fl g f i2))), (h2, .inr (5, [.ref rz])), (rz, .inl (dA 0, n, .inl g))] := hD
        obtain rfl : r2 = g i2 := hw4
        refine va_iast hx hb hK hP hD hS 1 0 rfl rfl (vp_in_nI (n := i2) (by omega) (by omega)) dX2_copyFrom_21 (fun H locs hP hD hS => ?_)
        rw [nI_clamp (n := i2) (by omega)] at hP hD
        replace hP : va_P D vwCl [(h, .inr (5, [.ref r0])), (r0, .inl (dA 0, n, .inl (upd (fl g f i2) i2 (g i2)))), (h2, .inr (5, [.ref rz])), (rz, .inl (dA 0, n, .inl g))] H := hP
        replace hD : va_D A [(h, .inr (5, [.ref r0])), (r0, .inl (dA 0, n, .inl (upd (fl g f i2) i2 (g i2)))), (h2, .inr (5, [.ref rz])), (rz, .inl (dA 0, n, .inl g))] := hD
        refine lv_iinc (v := nI (i2 + 1)) (lv' := [(2, .int (nI (i2 + 1))), (0, .ref h), (1, .ref h2)]) hx hb dX2_copyFrom_22 hl (k := 0) rfl (nI_add i2 1) (by decide) rfl (fun ls hl => ?_)
        refine lv_goto (tgt := 2) hx hb dX2_copyFrom_25 (by decide) ?_
        exact ih2 (i2 + 1) (upd (fl g f i2) i2 (g i2)) (by omega) (by omega) (by omega) (fl_succ rfl) _ _ hP hD hS ls (lv_sub hl [0, 1, 2] rfl)
  exact K2 (n + 1) 0 f (by omega) (by omega) (by omega) fl_0.symm _ _ hP hD hS ls hl
