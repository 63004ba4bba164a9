/-! CONTRACTS, p1 -/
theorem q137 : (.selects RX2 yX2_get yX2_get : Cond) ∈ WA := WA_of (tb_1 194 rfl) rfl
theorem q138 : (.code yX2_get cX2_get 2 (some .int) : Cond) ∈ WA := WA_of (tb_1 195 rfl) rfl
theorem q139 : (.methodLink RX2 13 yX2_get : Cond) ∈ WA := WA_of (tb_1 216 rfl) rfl
theorem q140 : (.instanceMethod yX2_get : Cond) ∈ WA := WA_of (tb_1 193 rfl) rfl
theorem q141 : (.selects RX2 yX2_copyFrom yX2_copyFrom : Cond) ∈ WA := WA_of (tb_1 214 rfl) rfl
theorem q142 : (.code yX2_copyFrom cX2_copyFrom 3 none : Cond) ∈ WA := WA_of (tb_1 215 rfl) rfl
theorem q143 : (.methodLink RX4 45 yX2_copyFrom : Cond) ∈ WA := WA_of (tb_1 212 rfl) rfl
theorem q144 : (.instanceMethod yX2_copyFrom : Cond) ∈ WA := WA_of (tb_1 213 rfl) rfl
theorem q145 : (.selects RX2 yX2_fill yX2_fill : Cond) ∈ WA := WA_of (tb_3 202 rfl) rfl
theorem q146 : (.code yX2_fill cX2_fill 3 none : Cond) ∈ WA := WA_of (tb_3 203 rfl) rfl
theorem q147 : (.methodLink RX4 53 yX2_fill : Cond) ∈ WA := WA_of (tb_3 200 rfl) rfl
theorem q148 : (.instanceMethod yX2_fill : Cond) ∈ WA := WA_of (tb_3 201 rfl) rfl
theorem vin_of {x : Int32} {n : Nat} (h1 : ¬ x < 0) (h2 : x < nI n) (hn : n < 2 ^ 31) : vp_in x n := by
  rcases pk_ix x hn with h | h | ⟨j, hj, rfl⟩
  · exact absurd h h1
  · have e1 : x < nI n ↔ x.toInt < (nI n).toInt := Int32.lt_iff_toInt_lt
    have e2 : nI n ≤ x ↔ (nI n).toInt ≤ x.toInt := Int32.le_iff_toInt_le
    exact absurd (e1.mp h2) (by have := e2.mp h; omega)
  · exact vp_in_nI hj hn
set_option maxHeartbeats 4000000 in
set_option maxRecDepth 100000 in
theorem c_Row_get (l : Launch) (D : va_G) (dA : Nat → ClassId) (E : Nat) (h r0 n : Nat) (f : Nat → Int32) (p0 : Int32) (sz : Nat) (hn : n < 2 ^ 31) : Met l yX2_get (wq (.code yX2_get cX2_get 2 (some .int))) { frames := 0, cells := 0, slots := 0, locals := 0 } (va_Pc [.ref h, .int p0] (PcB D dA E [(h, .inr (5, [.ref r0])), (r0, .inl (dA 0, n, .inl f))] sz)) (va_Qi (fun (r : Int32) (u : Unit) => True) (fun u t => va_P D vwCl [(h, .inr (5, [.ref r0])), (r0, .inl (dA 0, n, .inl f))] t.heap ∧ va_D (va_A [(h, .inr (5, [.ref r0])), (r0, .inl (dA 0, n, .inl f))] sz) [(h, .inr (5, [.ref r0])), (r0, .inl (dA 0, n, .inl f))]) (va_A [(h, .inr (5, [.ref r0])), (r0, .inl (dA 0, n, .inl f))] sz)) 0 0 (va_A [(h, .inr (5, [.ref r0])), (r0, .inl (dA 0, n, .inl f))] sz) := by
  refine mb_of (Qc := fun A => va_Qi (fun (r : Int32) (u : Unit) => True) (fun u t => va_P D vwCl [(h, .inr (5, [.ref r0])), (r0, .inl (dA 0, n, .inl f))] t.heap ∧ va_D A [(h, .inr (5, [.ref r0])), (r0, .inl (dA 0, n, .inl f))]) A) RX2 rfl (by decide) (Nat.le_of_ble_eq_true rfl) ?_
  intro p e s m args below meth c hae hx hb hr hts hown hlocks hml hnm hP hK A hAe hD hZ hS hA ls hl
  have hl : lv_has ls 2 [(0, .ref h), (1, .int p0)] := hl
  refine lv_iload_n hx hb dX2_get_0 rfl (lv_at hl 1 rfl) ?_
  refine lv_if_lt (tgt := 13) hx hb dX2_get_1 (by decide) (fun c1 => ?_) (fun c1 => ?_)
  · refine lv_iconst (v := 0) hx hb dX2_get_13 (by decide) ?_
    refine lv_goto (tgt := 23) hx hb dX2_get_14 (by decide) ?_
    refine W.widen (k := 0) (n := 0) (Nat.le_of_ble_eq_true rfl) (Nat.le_of_ble_eq_true rfl) ?_
    have hP9 := hP.sub (ws' := [(h, .inr (5, [.ref r0])), (r0, .inl (dA 0, n, .inl f))]) [0, 1] rfl
    have hD9 := hD.sub (ws' := [(h, .inr (5, [.ref r0])), (r0, .inl (dA 0, n, .inl f))]) [0, 1] (by decide) rfl
    exact W.iret (v := 0) hx hb hr (fun t ht hW => ⟨⟨0, (), rfl, trivial, ⟨by rw [ht]; exact hP9, hD9⟩⟩, hS.F ht⟩) hS.2.2 dX2_get_23
  · refine lv_iload_n hx hb dX2_get_4 rfl (lv_at hl 1 rfl) ?_
    refine lv_aload_n hx hb dX2_get_5 rfl (lv_at hl 0 rfl) ?_
    refine va_get (D := D) (ci := 5) (v := .ref r0) (C := RX2) (T := TX2) (N := 1) hx hb hts inAX2 hown hK hP 0 rfl rfl 0 (by decide) (hts _ q37) (fun _ h9 => h9) rfl dX2_get_6 ?_
    refine va_alen hx hb hK hP 1 0 rfl rfl (v := nI n) rfl dX2_get_9 ?_
    refine lv_icmp_lt (tgt := 17) hx hb dX2_get_10 (by decide) (fun c2 => ?_) (fun c2 => ?_)
    · refine lv_aload_n hx hb dX2_get_17 rfl (lv_at hl 0 rfl) ?_
      refine va_get (D := D) (ci := 5) (v := .ref r0) (C := RX2) (T := TX2) (N := 1) hx hb hts inAX2 hown hK hP 0 rfl rfl 0 (by decide) (hts _ q37) (fun _ h9 => h9) rfl dX2_get_18 ?_
      refine lv_iload_n hx hb dX2_get_21 rfl (lv_at hl 1 rfl) ?_
      refine va_iald hx hb hK hP 1 0 rfl rfl (vin_of c1 c2 hn) dX2_get_22 ?_
      refine lv_topi (fun x3 ex3 => ?_)
      refine W.widen (k := 0) (n := 0) (Nat.le_of_ble_eq_true rfl) (Nat.le_of_ble_eq_true rfl) ?_
      have hP9 := hP.sub (ws' := [(h, .inr (5, [.ref r0])), (r0, .inl (dA 0, n, .inl f))]) [0, 1] rfl
      have hD9 := hD.sub (ws' := [(h, .inr (5, [.ref r0])), (r0, .inl (dA 0, n, .inl f))]) [0, 1] (by decide) rfl
      exact W.iret (v := x3) hx hb hr (fun t ht hW => ⟨⟨x3, (), rfl, trivial, ⟨by rw [ht]; exact hP9, hD9⟩⟩, hS.F ht⟩) hS.2.2 dX2_get_23
    · refine lv_iconst (v := 0) hx hb dX2_get_13 (by decide) ?_
      refine lv_goto (tgt := 23) hx hb dX2_get_14 (by decide) ?_
      refine W.widen (k := 0) (n := 0) (Nat.le_of_ble_eq_true rfl) (Nat.le_of_ble_eq_true rfl) ?_
      have hP9 := hP.sub (ws' := [(h, .inr (5, [.ref r0])), (r0, .inl (dA 0, n, .inl f))]) [0, 1] rfl
      have hD9 := hD.sub (ws' := [(h, .inr (5, [.ref r0])), (r0, .inl (dA 0, n, .inl f))]) [0, 1] (by decide) rfl
      exact W.iret (v := 0) hx hb hr (fun t ht hW => ⟨⟨0, (), rfl, trivial, ⟨by rw [ht]; exact hP9, hD9⟩⟩, hS.F ht⟩) hS.2.2 dX2_get_23

set_option maxHeartbeats 4000000 in
set_option maxRecDepth 100000 in
theorem c_Row_fill (l : Launch) (D : va_G) (dA : Nat → ClassId) (E : Nat) (h r0 n : Nat) (f : Nat → Int32) (p0 : Int32) (sz : Nat) (hn : n < 2 ^ 31) : Met l yX2_fill (wq (.code yX2_fill cX2_fill 3 none)) { frames := 0, cells := 0, slots := 0, locals := 0 } (va_Pc [.ref h, .int p0] (PcB D dA E [(h, .inr (5, [.ref r0])), (r0, .inl (dA 0, n, .inl f))] sz)) (va_Qv (fun (u : Nat → Int32) => True) (fun u t => va_P D vwCl [(h, .inr (5, [.ref r0])), (r0, .inl (dA 0, n, .inl u))] t.heap ∧ va_D (va_A [(h, .inr (5, [.ref r0])), (r0, .inl (dA 0, n, .inl f))] sz) [(h, .inr (5, [.ref r0])), (r0, .inl (dA 0, n, .inl u))]) (va_A [(h, .inr (5, [.ref r0])), (r0, .inl (dA 0, n, .inl f))] sz)) 0 0 (va_A [(h, .inr (5, [.ref r0])), (r0, .inl (dA 0, n, .inl f))] sz) := by
  refine mb_of (Qc := fun A => va_Qv (fun (u : Nat → Int32) => True) (fun u t => va_P D vwCl [(h, .inr (5, [.ref r0])), (r0, .inl (dA 0, n, .inl u))] t.heap ∧ va_D A [(h, .inr (5, [.ref r0])), (r0, .inl (dA 0, n, .inl u))]) A) RX2 rfl (by decide) (Nat.le_of_ble_eq_true rfl) ?_
  intro p e s m args below meth c hae hx hb hr hts hown hlocks hml hnm hP hK A hAe hD hZ hS hA ls hl
  have hl : lv_has ls 3 [(0, .ref h), (1, .int p0)] := hl
  refine lv_iconst (v := 0) hx hb dX2_fill_0 (by decide) ?_
  refine lv_istore_n (lv' := [(2, .int 0), (0, .ref h), (1, .int p0)]) hx hb dX2_fill_1 rfl hl (by decide) rfl (fun ls hl => ?_)
  have K : ∀ (k i : Nat) (g0 : Nat → Int32), i ≤ n → n < i + k → True → ∀ (H : Heap) (locs : List Loc), va_P D vwCl [(h, .inr (5, [.ref r0])), (r0, .inl (dA 0, n, .inl g0))] H → va_D A [(h, .inr (5, [.ref r0])), (r0, .inl (dA 0, n, .inl g0))] → va_S A s.heap H locs → ∀ ls : Array Slot, lv_has ls 3 [(2, .int (nI i)), (0, .ref h), (1, .int p0)] → W p l e { frames := 0, cells := 0, slots := 0, locals := 0 } s m args below meth c H locs 0 0 (MQ below (va_Qv (fun (u : Nat → Int32) => True) (fun u t => va_P D vwCl [(h, .inr (5, [.ref r0])), (r0, .inl (dA 0, n, .inl u))] t.heap ∧ va_D A [(h, .inr (5, [.ref r0])), (r0, .inl (dA 0, n, .inl u))]) A) args s 0 0 A) (F0 m 2 ls []) := by
    intro k
    induction k with
    | zero => intro i g0 h1 h2; exact absurd h2 (by omega)
    | succ k ih =>
      intro i g0 h1 h2 hinv2 H locs hP hD hS ls hl
      refine lv_iload_n hx hb dX2_fill_2 rfl (lv_at hl 0 rfl) ?_
      refine lv_aload_n hx hb dX2_fill_3 rfl (lv_at hl 1 rfl) ?_
      refine va_get (D := D) (ci := 5) (v := .ref r0) (C := RX2) (T := TX2) (N := 1) hx hb hts inAX2 hown hK hP 0 rfl rfl 0 (by decide) (hts _ q37) (fun _ h9 => h9) rfl dX2_fill_4 ?_
      refine va_alen hx hb hK hP 1 0 rfl rfl (v := nI n) rfl dX2_fill_7 ?_
      refine lv_icmp_ge (tgt := 24) hx hb dX2_fill_8 (by decide) (fun c1 => ?_) (fun c1 => ?_)
      · have hin : i = n := Nat.le_antisymm h1 ((nI_leI hn (by omega)).mp c1)
        refine W.widen (k := 0) (n := 0) (Nat.le_of_ble_eq_true rfl) (Nat.le_of_ble_eq_true rfl) ?_
        have hP9 := hP.sub (ws' := [(h, .inr (5, [.ref r0])), (r0, .inl (dA 0, n, .inl g0))]) [0, 1] rfl
        have hD9 := hD.sub (ws' := [(h, .inr (5, [.ref r0])), (r0, .inl (dA 0, n, .inl g0))]) [0, 1] (by decide) rfl
        exact W.vret hx hb hr (fun t ht hW => ⟨⟨g0, rfl, trivial, ⟨by rw [ht]; exact hP9, hD9⟩⟩, hS.F ht⟩) hS.2.2 dX2_fill_24
      · have hlt : i < n := by
          rcases Nat.lt_or_ge i n with q | q
          · exact q
          · exact absurd (nI_le q (by omega)) c1
        refine lv_aload_n hx hb dX2_fill_11 rfl (lv_at hl 1 rfl) ?_
        refine va_get (D := D) (ci := 5) (v := .ref r0) (C := RX2) (T := TX2) (N := 1) hx hb hts inAX2 hown hK hP 0 rfl rfl 0 (by decide) (hts _ q37) (fun _ h9 => h9) rfl dX2_fill_12 ?_
        refine lv_iload_n hx hb dX2_fill_15 rfl (lv_at hl 0 rfl) ?_
        refine lv_iload_n hx hb dX2_fill_16 rfl (lv_at hl 2 rfl) ?_
        refine va_iast hx hb hK hP hD hS 1 0 rfl rfl (vp_in_nI hlt hn) dX2_fill_17 (fun H locs hP hD hS => ?_)
        have hP : va_P D vwCl [(h, .inr (5, [.ref r0])), (r0, .inl (dA 0, n, .inl (upd g0 (nI i).toNatClampNeg p0)))] H := hP
        have hD : va_D A [(h, .inr (5, [.ref r0])), (r0, .inl (dA 0, n, .inl (upd g0 (nI i).toNatClampNeg p0)))] := hD
        refine lv_iinc (v := nI (i + 1)) (lv' := [(2, .int (nI (i + 1))), (0, .ref h), (1, .int p0)]) hx hb dX2_fill_18 hl (k := 0) rfl (nI_1 i) (by decide) rfl (fun ls hl => ?_)
        refine lv_goto (tgt := 2) hx hb dX2_fill_21 (by decide) ?_
        exact ih (i + 1) (upd g0 (nI i).toNatClampNeg p0)  hlt (by omega) trivial _ _ hP hD hS ls (lv_sub hl [0, 1, 2] rfl)
  exact K (n + 1) 0 f (Nat.zero_le _) (by omega) trivial _ _ hP hD hS ls hl

set_option maxHeartbeats 4000000 in
set_option maxRecDepth 100000 in
theorem c_Row_copy (l : Launch) (D : va_G) (dA : Nat → ClassId) (E : Nat) (h r0 g r1 n : Nat) (f f1 : Nat → Int32) (sz : Nat) (hn : n < 2 ^ 31) : Met l yX2_copyFrom (wq (.code yX2_copyFrom cX2_copyFrom 3 none)) { frames := 1, cells := 0, slots := 0, locals := 21 } (va_Pc [.ref h, .ref g] (PcB D dA E [(h, .inr (5, [.ref r0])), (r0, .inl (dA 0, n, .inl f)), (g, .inr (5, [.ref r1])), (r1, .inl (dA 0, n, .inl f1))] sz)) (va_Qv (fun (u : Nat → Int32) => True) (fun u t => va_P D vwCl [(h, .inr (5, [.ref r0])), (r0, .inl (dA 0, n, .inl u)), (g, .inr (5, [.ref r1])), (r1, .inl (dA 0, n, .inl f1))] t.heap ∧ va_D (va_A [(h, .inr (5, [.ref r0])), (r0, .inl (dA 0, n, .inl f)), (g, .inr (5, [.ref r1])), (r1, .inl (dA 0, n, .inl f1))] sz) [(h, .inr (5, [.ref r0])), (r0, .inl (dA 0, n, .inl u)), (g, .inr (5, [.ref r1])), (r1, .inl (dA 0, n, .inl f1))]) (va_A [(h, .inr (5, [.ref r0])), (r0, .inl (dA 0, n, .inl f)), (g, .inr (5, [.ref r1])), (r1, .inl (dA 0, n, .inl f1))] sz)) 0 0 (va_A [(h, .inr (5, [.ref r0])), (r0, .inl (dA 0, n, .inl f)), (g, .inr (5, [.ref r1])), (r1, .inl (dA 0, n, .inl f1))] sz) := by
  refine mb_of (Qc := fun A => va_Qv (fun (u : Nat → Int32) => True) (fun u t => va_P D vwCl [(h, .inr (5, [.ref r0])), (r0, .inl (dA 0, n, .inl u)), (g, .inr (5, [.ref r1])), (r1, .inl (dA 0, n, .inl f1))] t.heap ∧ va_D A [(h, .inr (5, [.ref r0])), (r0, .inl (dA 0, n, .inl u)), (g, .inr (5, [.ref r1])), (r1, .inl (dA 0, n, .inl f1))]) A) RX2 rfl (by decide) (Nat.le_of_ble_eq_true rfl) ?_
  intro p e s m args below meth c hae hx hb hr hts hown hlocks hml hnm hP hK A hAe hD hZ hS hA ls hl
  have hl : lv_has ls 3 [(0, .ref h), (1, .ref g)] := hl
  refine lv_iconst (v := 0) hx hb dX2_copyFrom_0 (by decide) ?_
  refine lv_istore_n (lv' := [(2, .int 0), (0, .ref h), (1, .ref g)]) hx hb dX2_copyFrom_1 rfl hl (by decide) rfl (fun ls hl => ?_)
  have K : ∀ (k i : Nat) (g0 : Nat → Int32), i ≤ n → n < i + k → True → ∀ (H : Heap) (locs : List Loc), va_P D vwCl [(h, .inr (5, [.ref r0])), (r0, .inl (dA 0, n, .inl g0)), (g, .inr (5, [.ref r1])), (r1, .inl (dA 0, n, .inl f1))] H → va_D A [(h, .inr (5, [.ref r0])), (r0, .inl (dA 0, n, .inl g0)), (g, .inr (5, [.ref r1])), (r1, .inl (dA 0, n, .inl f1))] → va_S A s.heap H locs → ∀ ls : Array Slot, lv_has ls 3 [(2, .int (nI i)), (0, .ref h), (1, .ref g)] → W p l e { frames := 1, cells := 0, slots := 0, locals := 21 } s m args below meth c H locs 0 0 (MQ below (va_Qv (fun (u : Nat → Int32) => True) (fun u t => va_P D vwCl [(h, .inr (5, [.ref r0])), (r0, .inl (dA 0, n, .inl u)), (g, .inr (5, [.ref r1])), (r1, .inl (dA 0, n, .inl f1))] t.heap ∧ va_D A [(h, .inr (5, [.ref r0])), (r0, .inl (dA 0, n, .inl u)), (g, .inr (5, [.ref r1])), (r1, .inl (dA 0, n, .inl f1))]) A) args s 0 0 A) (F0 m 2 ls []) := by
    intro k
    induction k with
    | zero => intro i g0 h1 h2; exact absurd h2 (by omega)
    | succ k ih =>
      intro i g0 h1 h2 hinv2 H locs hP hD hS ls hl
      refine lv_iload_n hx hb dX2_copyFrom_2 rfl (lv_at hl 0 rfl) ?_
      refine lv_aload_n hx hb dX2_copyFrom_3 rfl (lv_at hl 1 rfl) ?_
      refine va_get (D := D) (ci := 5) (v := .ref r0) (C := RX2) (T := TX2) (N := 1) hx hb hts inAX2 hown hK hP 0 rfl rfl 0 (by decide) (hts _ q37) (fun _ h9 => h9) rfl dX2_copyFrom_4 ?_
      refine va_alen hx hb hK hP 1 0 rfl rfl (v := nI n) rfl dX2_copyFrom_7 ?_
      refine lv_icmp_ge (tgt := 28) hx hb dX2_copyFrom_8 (by decide) (fun c1 => ?_) (fun c1 => ?_)
      · have hin : i = n := Nat.le_antisymm h1 ((nI_leI hn (by omega)).mp c1)
        refine W.widen (k := 0) (n := 0) (Nat.le_of_ble_eq_true rfl) (Nat.le_of_ble_eq_true rfl) ?_
        have hP9 := hP.sub (ws' := [(h, .inr (5, [.ref r0])), (r0, .inl (dA 0, n, .inl g0)), (g, .inr (5, [.ref r1])), (r1, .inl (dA 0, n, .inl f1))]) [0, 1, 2, 3] rfl
        have hD9 := hD.sub (ws' := [(h, .inr (5, [.ref r0])), (r0, .inl (dA 0, n, .inl g0)), (g, .inr (5, [.ref r1])), (r1, .inl (dA 0, n, .inl f1))]) [0, 1, 2, 3] (by decide) rfl
        exact W.vret hx hb hr (fun t ht hW => ⟨⟨g0, rfl, trivial, ⟨by rw [ht]; exact hP9, hD9⟩⟩, hS.F ht⟩) hS.2.2 dX2_copyFrom_28
      · have hlt : i < n := by
          rcases Nat.lt_or_ge i n with q | q
          · exact q
          · exact absurd (nI_le q (by omega)) c1
        refine lv_aload_n hx hb dX2_copyFrom_11 rfl (lv_at hl 1 rfl) ?_
        refine va_get (D := D) (ci := 5) (v := .ref r0) (C := RX2) (T := TX2) (N := 1) hx hb hts inAX2 hown hK hP 0 rfl rfl 0 (by decide) (hts _ q37) (fun _ h9 => h9) rfl dX2_copyFrom_12 ?_
        refine lv_iload_n hx hb dX2_copyFrom_15 rfl (lv_at hl 0 rfl) ?_
        refine lv_aload_n hx hb dX2_copyFrom_16 rfl (lv_at hl 2 rfl) ?_
        refine lv_iload_n hx hb dX2_copyFrom_17 rfl (lv_at hl 0 rfl) ?_
        have hPc := hP.sub (ws' := [(g, .inr (5, [.ref r1])), (r1, .inl (dA 0, n, .inl f1))]) [2, 3] rfl
        have hDc := hD.sub (ws' := [(g, .inr (5, [.ref r1])), (r1, .inl (dA 0, n, .inl f1))]) [2, 3] (by decide) rfl
        have hFc := va_free (wc := [(g, .inr (5, [.ref r1])), (r1, .inl (dA 0, n, .inl f1))]) hD hS hA [2, 3] rfl
        refine va_calli (va_runV (As := [.int (nI i)]) (rest := [.int (nI i), .ref r0]) ⟨hx, hb, hml, hown, hts⟩ (c_Row_get l D dA E g r1 n f1 (nI i) H.size hn) (cwV 1 hts (ga_V q139 q140 q137 q41 q138) rfl rfl rfl (by decide +kernel) ⟨(Nat.le_of_ble_eq_true rfl), (Nat.le_of_ble_eq_true rfl)⟩) ⟨pb_blind, va_recv hK hPc (ci := 5) (q0 := 0) rfl rfl, pb_pre hK hPc hDc hZ hS hFc _⟩ rfl rfl hl.1 rfl (lv_room (Nat.le_of_ble_eq_true rfl)) dX2_copyFrom_18 ⟨(Nat.le_of_ble_eq_true rfl), (Nat.le_of_ble_eq_true rfl)⟩) hS (fun q _ h => hFc q h) hFc (fun r u t H1 locs ht hvm hw hB hz1 hk1 hS => ?_)
        refine W.widen (k := 0) (n := 0) (Nat.le_of_ble_eq_true rfl) (Nat.le_of_ble_eq_true rfl) ?_
        obtain ⟨r2, rfl⟩ : ∃ z, z = r := ⟨_, rfl⟩
        obtain ⟨u3, rfl⟩ : ∃ z, z = u := ⟨_, rfl⟩
        have hw4 := hw
        clear hw
        obtain ⟨hP1, hD1⟩ := hB
        rw [ht] at hP1
        obtain ⟨hP, hD⟩ := va_join (wr := [(h, .inr (5, [.ref r0])), (r0, .inl (dA 0, n, .inl g0))]) (w1 := [(g, .inr (5, [.ref r1])), (r1, .inl (dA 0, n, .inl f1))]) hP hD [2, 3] [0, 1] rfl rfl (by decide) (by decide) hk1 hFc hP1 hD1
        generalize H1 = H at hP hS ⊢
        have hP : va_P D vwCl [(h, .inr (5, [.ref r0])), (r0, .inl (dA 0, n, .inl g0)), (g, .inr (5, [.ref r1])), (r1, .inl (dA 0, n, .inl f1))] H := hP
        have hD : va_D A [(h, .inr (5, [.ref r0])), (r0, .inl (dA 0, n, .inl g0)), (g, .inr (5, [.ref r1])), (r1, .inl (dA 0, n, .inl f1))] := hD
        refine va_iast hx hb hK hP hD hS 1 0 rfl rfl (vp_in_nI hlt hn) dX2_copyFrom_21 (fun H locs hP hD hS => ?_)
        have hP : va_P D vwCl [(h, .inr (5, [.ref r0])), (r0, .inl (dA 0, n, .inl (upd g0 (nI i).toNatClampNeg r2))), (g, .inr (5, [.ref r1])), (r1, .inl (dA 0, n, .inl f1))] H := hP
        have hD : va_D A [(h, .inr (5, [.ref r0])), (r0, .inl (dA 0, n, .inl (upd g0 (nI i).toNatClampNeg r2))), (g, .inr (5, [.ref r1])), (r1, .inl (dA 0, n, .inl f1))] := hD
        refine lv_iinc (v := nI (i + 1)) (lv' := [(2, .int (nI (i + 1))), (0, .ref h), (1, .ref g)]) hx hb dX2_copyFrom_22 hl (k := 0) rfl (nI_1 i) (by decide) rfl (fun ls hl => ?_)
        refine lv_goto (tgt := 2) hx hb dX2_copyFrom_25 (by decide) ?_
        exact ih (i + 1) (upd g0 (nI i).toNatClampNeg r2)  hlt (by omega) trivial _ _ hP hD hS ls (lv_sub hl [0, 1, 2] rfl)
  exact K (n + 1) 0 f (Nat.zero_le _) (by omega) trivial _ _ hP hD hS ls hl

set_option maxHeartbeats 4000000 in
set_option maxRecDepth 100000 in
theorem c_takeOver (l : Launch) (D : va_G) (dA : Nat → ClassId) (E : Nat) (h h1 h2 h3 h4 g g1 g2 g3 g4 : Nat) (sz : Nat)  : Met l yX4_takeOver (wq (.code yX4_takeOver cX4_takeOver 2 none)) { frames := 2, cells := 0, slots := 0, locals := 43 } (va_Pc [.ref h, .ref g] (PcB D dA E [(h, .inr (7, [.ref h1, .ref h3, .int 0, .int 0])), (h1, .inr (5, [.ref h2])), (h2, .inl (dA 0, 30, .inl (fun _ => 0))), (h3, .inr (5, [.ref h4])), (h4, .inl (dA 0, 30, .inl (fun _ => 0))), (g, .inr (7, [.ref g1, .ref g3, .int 0, .int 0])), (g1, .inr (5, [.ref g2])), (g2, .inl (dA 0, 30, .inl (fun _ => 0))), (g3, .inr (5, [.ref g4])), (g4, .inl (dA 0, 30, .inl (fun _ => 0)))] sz)) (va_Qv (fun (u : Unit) => True) (fun u t => True) (va_A [(h, .inr (7, [.ref h1, .ref h3, .int 0, .int 0])), (h1, .inr (5, [.ref h2])), (h2, .inl (dA 0, 30, .inl (fun _ => 0))), (h3, .inr (5, [.ref h4])), (h4, .inl (dA 0, 30, .inl (fun _ => 0))), (g, .inr (7, [.ref g1, .ref g3, .int 0, .int 0])), (g1, .inr (5, [.ref g2])), (g2, .inl (dA 0, 30, .inl (fun _ => 0))), (g3, .inr (5, [.ref g4])), (g4, .inl (dA 0, 30, .inl (fun _ => 0)))] sz)) 0 0 (va_A [(h, .inr (7, [.ref h1, .ref h3, .int 0, .int 0])), (h1, .inr (5, [.ref h2])), (h2, .inl (dA 0, 30, .inl (fun _ => 0))), (h3, .inr (5, [.ref h4])), (h4, .inl (dA 0, 30, .inl (fun _ => 0))), (g, .inr (7, [.ref g1, .ref g3, .int 0, .int 0])), (g1, .inr (5, [.ref g2])), (g2, .inl (dA 0, 30, .inl (fun _ => 0))), (g3, .inr (5, [.ref g4])), (g4, .inl (dA 0, 30, .inl (fun _ => 0)))] sz) := by
  refine mb_of (Qc := fun A => va_Qv (fun (u : Unit) => True) (fun u t => True) A) RX4 rfl (by decide) (Nat.le_of_ble_eq_true rfl) ?_
  intro p e s m args below meth c hae hx hb hr hts hown hlocks hml hnm hP hK A hAe hD hZ hS hA ls hl
  have hl : lv_has ls 2 [(0, .ref h), (1, .ref g)] := hl
  refine lv_aload_n hx hb dX4_takeOver_0 rfl (lv_at hl 0 rfl) ?_
  refine va_get (D := D) (ci := 7) (v := .ref h1) (C := RX4) (T := TX4) (N := 4) hx hb hts inAX4 hown hK hP 0 rfl rfl 0 (by decide) (hts _ q75) (fun _ h9 => h9) rfl dX4_takeOver_1 ?_
  refine lv_aload_n hx hb dX4_takeOver_4 rfl (lv_at hl 1 rfl) ?_
  refine va_get (D := D) (ci := 7) (v := .ref g1) (C := RX4) (T := TX4) (N := 4) hx hb hts inAX4 hown hK hP 5 rfl rfl 0 (by decide) (hts _ q75) (fun _ h9 => h9) rfl dX4_takeOver_5 ?_
  have hPc := hP.sub (ws' := [(h1, .inr (5, [.ref h2])), (h2, .inl (dA 0, 30, .inl (fun _ => 0))), (g1, .inr (5, [.ref g2])), (g2, .inl (dA 0, 30, .inl (fun _ => 0)))]) [1, 2, 6, 7] rfl
  have hDc := hD.sub (ws' := [(h1, .inr (5, [.ref h2])), (h2, .inl (dA 0, 30, .inl (fun _ => 0))), (g1, .inr (5, [.ref g2])), (g2, .inl (dA 0, 30, .inl (fun _ => 0)))]) [1, 2, 6, 7] (by decide) rfl
  have hFc := va_free (wc := [(h1, .inr (5, [.ref h2])), (h2, .inl (dA 0, 30, .inl (fun _ => 0))), (g1, .inr (5, [.ref g2])), (g2, .inl (dA 0, 30, .inl (fun _ => 0)))]) hD hS hA [1, 2, 6, 7] rfl
  refine va_callv (va_runV (As := [.ref g1]) (rest := []) ⟨hx, hb, hml, hown, hts⟩ (c_Row_copy l D dA E h1 h2 g1 g2 30 (fun _ => 0) (fun _ => 0) s.heap.size (by decide)) (cwV 1 hts (ga_V q143 q144 q141 q41 q142) rfl rfl rfl (by decide +kernel) ⟨(Nat.le_of_ble_eq_true rfl), (Nat.le_of_ble_eq_true rfl)⟩) ⟨pb_blind, va_recv hK hPc (ci := 5) (q0 := 0) rfl rfl, pb_pre hK hPc hDc hZ hS hFc _⟩ rfl rfl hl.1 rfl (lv_room (Nat.le_of_ble_eq_true rfl)) dX4_takeOver_8 ⟨(Nat.le_of_ble_eq_true rfl), (Nat.le_of_ble_eq_true rfl)⟩) hS (fun q _ h => hFc q h) hFc (fun u t H1 locs ht hvm hw hB hz1 hk1 hS => ?_)
  refine W.widen (k := 0) (n := 0) (Nat.le_of_ble_eq_true rfl) (Nat.le_of_ble_eq_true rfl) ?_
  obtain ⟨u1, rfl⟩ : ∃ z, z = u := ⟨_, rfl⟩
  have hw2 := hw
  clear hw
  obtain ⟨hP1, hD1⟩ := hB
  rw [ht] at hP1
  obtain ⟨hP, hD⟩ := va_join (wr := [(h, .inr (7, [.ref h1, .ref h3, .int 0, .int 0])), (h3, .inr (5, [.ref h4])), (h4, .inl (dA 0, 30, .inl (fun _ => 0))), (g, .inr (7, [.ref g1, .ref g3, .int 0, .int 0])), (g3, .inr (5, [.ref g4])), (g4, .inl (dA 0, 30, .inl (fun _ => 0)))]) (w1 := [(h1, .inr (5, [.ref h2])), (h2, .inl (dA 0, 30, .inl u1)), (g1, .inr (5, [.ref g2])), (g2, .inl (dA 0, 30, .inl (fun _ => 0)))]) hP hD [1, 2, 6, 7] [0, 3, 4, 5, 8, 9] rfl rfl (by decide) (by decide) hk1 hFc hP1 hD1
  generalize H1 = H at hP hS ⊢
  have hP : va_P D vwCl [(h, .inr (7, [.ref h1, .ref h3, .int 0, .int 0])), (h3, .inr (5, [.ref h4])), (h4, .inl (dA 0, 30, .inl (fun _ => 0))), (g, .inr (7, [.ref g1, .ref g3, .int 0, .int 0])), (g3, .inr (5, [.ref g4])), (g4, .inl (dA 0, 30, .inl (fun _ => 0))), (h1, .inr (5, [.ref h2])), (h2, .inl (dA 0, 30, .inl u1)), (g1, .inr (5, [.ref g2])), (g2, .inl (dA 0, 30, .inl (fun _ => 0)))] H := hP
  have hD : va_D A [(h, .inr (7, [.ref h1, .ref h3, .int 0, .int 0])), (h3, .inr (5, [.ref h4])), (h4, .inl (dA 0, 30, .inl (fun _ => 0))), (g, .inr (7, [.ref g1, .ref g3, .int 0, .int 0])), (g3, .inr (5, [.ref g4])), (g4, .inl (dA 0, 30, .inl (fun _ => 0))), (h1, .inr (5, [.ref h2])), (h2, .inl (dA 0, 30, .inl u1)), (g1, .inr (5, [.ref g2])), (g2, .inl (dA 0, 30, .inl (fun _ => 0)))] := hD
  refine lv_aload_n hx hb dX4_takeOver_11 rfl (lv_at hl 0 rfl) ?_
  refine va_get (D := D) (ci := 7) (v := .ref h3) (C := RX4) (T := TX4) (N := 4) hx hb hts inAX4 hown hK hP 0 rfl rfl 1 (by decide) (hts _ q76) (fun _ h9 => h9) rfl dX4_takeOver_12 ?_
  refine lv_aload_n hx hb dX4_takeOver_15 rfl (lv_at hl 1 rfl) ?_
  refine va_get (D := D) (ci := 7) (v := .ref g3) (C := RX4) (T := TX4) (N := 4) hx hb hts inAX4 hown hK hP 3 rfl rfl 1 (by decide) (hts _ q76) (fun _ h9 => h9) rfl dX4_takeOver_16 ?_
  have hPc := hP.sub (ws' := [(h3, .inr (5, [.ref h4])), (h4, .inl (dA 0, 30, .inl (fun _ => 0))), (g3, .inr (5, [.ref g4])), (g4, .inl (dA 0, 30, .inl (fun _ => 0)))]) [1, 2, 4, 5] rfl
  have hDc := hD.sub (ws' := [(h3, .inr (5, [.ref h4])), (h4, .inl (dA 0, 30, .inl (fun _ => 0))), (g3, .inr (5, [.ref g4])), (g4, .inl (dA 0, 30, .inl (fun _ => 0)))]) [1, 2, 4, 5] (by decide) rfl
  have hFc := va_free (wc := [(h3, .inr (5, [.ref h4])), (h4, .inl (dA 0, 30, .inl (fun _ => 0))), (g3, .inr (5, [.ref g4])), (g4, .inl (dA 0, 30, .inl (fun _ => 0)))]) hD hS hA [1, 2, 4, 5] rfl
  refine va_callv (va_runV (As := [.ref g3]) (rest := []) ⟨hx, hb, hml, hown, hts⟩ (c_Row_copy l D dA E h3 h4 g3 g4 30 (fun _ => 0) (fun _ => 0) H.size (by decide)) (cwV 1 hts (ga_V q143 q144 q141 q41 q142) rfl rfl rfl (by decide +kernel) ⟨(Nat.le_of_ble_eq_true rfl), (Nat.le_of_ble_eq_true rfl)⟩) ⟨pb_blind, va_recv hK hPc (ci := 5) (q0 := 0) rfl rfl, pb_pre hK hPc hDc hZ hS hFc _⟩ rfl rfl hl.1 rfl (lv_room (Nat.le_of_ble_eq_true rfl)) dX4_takeOver_19 ⟨(Nat.le_of_ble_eq_true rfl), (Nat.le_of_ble_eq_true rfl)⟩) hS (fun q _ h => hFc q h) hFc (fun u t H1 locs ht hvm hw hB hz1 hk1 hS => ?_)
  refine W.widen (k := 0) (n := 0) (Nat.le_of_ble_eq_true rfl) (Nat.le_of_ble_eq_true rfl) ?_
  obtain ⟨u3, rfl⟩ : ∃ z, z = u := ⟨_, rfl⟩
  have hw4 := hw
  clear hw
  obtain ⟨hP1, hD1⟩ := hB
  rw [ht] at hP1
  obtain ⟨hP, hD⟩ := va_join (wr := [(h, .inr (7, [.ref h1, .ref h3, .int 0, .int 0])), (g, .inr (7, [.ref g1, .ref g3, .int 0, .int 0])), (h1, .inr (5, [.ref h2])), (h2, .inl (dA 0, 30, .inl u1)), (g1, .inr (5, [.ref g2])), (g2, .inl (dA 0, 30, .inl (fun _ => 0)))]) (w1 := [(h3, .inr (5, [.ref h4])), (h4, .inl (dA 0, 30, .inl u3)), (g3, .inr (5, [.ref g4])), (g4, .inl (dA 0, 30, .inl (fun _ => 0)))]) hP hD [1, 2, 4, 5] [0, 3, 6, 7, 8, 9] rfl rfl (by decide) (by decide) hk1 hFc hP1 hD1
  generalize H1 = H at hP hS ⊢
  have hP : va_P D vwCl [(h, .inr (7, [.ref h1, .ref h3, .int 0, .int 0])), (g, .inr (7, [.ref g1, .ref g3, .int 0, .int 0])), (h1, .inr (5, [.ref h2])), (h2, .inl (dA 0, 30, .inl u1)), (g1, .inr (5, [.ref g2])), (g2, .inl (dA 0, 30, .inl (fun _ => 0))), (h3, .inr (5, [.ref h4])), (h4, .inl (dA 0, 30, .inl u3)), (g3, .inr (5, [.ref g4])), (g4, .inl (dA 0, 30, .inl (fun _ => 0)))] H := hP
  have hD : va_D A [(h, .inr (7, [.ref h1, .ref h3, .int 0, .int 0])), (g, .inr (7, [.ref g1, .ref g3, .int 0, .int 0])), (h1, .inr (5, [.ref h2])), (h2, .inl (dA 0, 30, .inl u1)), (g1, .inr (5, [.ref g2])), (g2, .inl (dA 0, 30, .inl (fun _ => 0))), (h3, .inr (5, [.ref h4])), (h4, .inl (dA 0, 30, .inl u3)), (g3, .inr (5, [.ref g4])), (g4, .inl (dA 0, 30, .inl (fun _ => 0)))] := hD
  refine lv_aload_n hx hb dX4_takeOver_22 rfl (lv_at hl 0 rfl) ?_
  refine lv_aload_n hx hb dX4_takeOver_23 rfl (lv_at hl 1 rfl) ?_
  refine va_get (D := D) (ci := 7) (v := .int 0) (C := RX4) (T := TX4) (N := 4) hx hb hts inAX4 hown hK hP 1 rfl rfl 2 (by decide) (hts _ q135) (fun _ h9 => h9) rfl dX4_takeOver_24 ?_
  refine va_put (D := D) (ci := 7) (v := .int 0) (ty := .int) (C := RX4) (T := TX4) (N := 4) hx hb hts inAX4 tyX4 tyX4_ok nmX4 hown hK hP hD hS 0 rfl rfl 2 (by decide) (hts _ q135) (fun _ h9 => h9) rfl (tyX4_ok 2 (by decide)) rfl rfl (Nat.le_of_ble_eq_true rfl) dX4_takeOver_27 (fun H locs hP hD hS => ?_)
  have hP : va_P D vwCl [(h, .inr (7, [.ref h1, .ref h3, .int 0, .int 0])), (g, .inr (7, [.ref g1, .ref g3, .int 0, .int 0])), (h1, .inr (5, [.ref h2])), (h2, .inl (dA 0, 30, .inl u1)), (g1, .inr (5, [.ref g2])), (g2, .inl (dA 0, 30, .inl (fun _ => 0))), (h3, .inr (5, [.ref h4])), (h4, .inl (dA 0, 30, .inl u3)), (g3, .inr (5, [.ref g4])), (g4, .inl (dA 0, 30, .inl (fun _ => 0)))] H := hP
  have hD : va_D A [(h, .inr (7, [.ref h1, .ref h3, .int 0, .int 0])), (g, .inr (7, [.ref g1, .ref g3, .int 0, .int 0])), (h1, .inr (5, [.ref h2])), (h2, .inl (dA 0, 30, .inl u1)), (g1, .inr (5, [.ref g2])), (g2, .inl (dA 0, 30, .inl (fun _ => 0))), (h3, .inr (5, [.ref h4])), (h4, .inl (dA 0, 30, .inl u3)), (g3, .inr (5, [.ref g4])), (g4, .inl (dA 0, 30, .inl (fun _ => 0)))] := hD
  refine lv_aload_n hx hb dX4_takeOver_30 rfl (lv_at hl 0 rfl) ?_
  refine lv_aload_n hx hb dX4_takeOver_31 rfl (lv_at hl 1 rfl) ?_
  refine va_get (D := D) (ci := 7) (v := .int 0) (C := RX4) (T := TX4) (N := 4) hx hb hts inAX4 hown hK hP 1 rfl rfl 3 (by decide) (hts _ q136) (fun _ h9 => h9) rfl dX4_takeOver_32 ?_
  refine va_put (D := D) (ci := 7) (v := .int 0) (ty := .int) (C := RX4) (T := TX4) (N := 4) hx hb hts inAX4 tyX4 tyX4_ok nmX4 hown hK hP hD hS 0 rfl rfl 3 (by decide) (hts _ q136) (fun _ h9 => h9) rfl (tyX4_ok 3 (by decide)) rfl rfl (Nat.le_of_ble_eq_true rfl) dX4_takeOver_35 (fun H locs hP hD hS => ?_)
  have hP : va_P D vwCl [(h, .inr (7, [.ref h1, .ref h3, .int 0, .int 0])), (g, .inr (7, [.ref g1, .ref g3, .int 0, .int 0])), (h1, .inr (5, [.ref h2])), (h2, .inl (dA 0, 30, .inl u1)), (g1, .inr (5, [.ref g2])), (g2, .inl (dA 0, 30, .inl (fun _ => 0))), (h3, .inr (5, [.ref h4])), (h4, .inl (dA 0, 30, .inl u3)), (g3, .inr (5, [.ref g4])), (g4, .inl (dA 0, 30, .inl (fun _ => 0)))] H := hP
  have hD : va_D A [(h, .inr (7, [.ref h1, .ref h3, .int 0, .int 0])), (g, .inr (7, [.ref g1, .ref g3, .int 0, .int 0])), (h1, .inr (5, [.ref h2])), (h2, .inl (dA 0, 30, .inl u1)), (g1, .inr (5, [.ref g2])), (g2, .inl (dA 0, 30, .inl (fun _ => 0))), (h3, .inr (5, [.ref h4])), (h4, .inl (dA 0, 30, .inl u3)), (g3, .inr (5, [.ref g4])), (g4, .inl (dA 0, 30, .inl (fun _ => 0)))] := hD
  refine W.widen (k := 0) (n := 0) (Nat.le_of_ble_eq_true rfl) (Nat.le_of_ble_eq_true rfl) ?_
  exact W.vret hx hb hr (fun t ht hW => ⟨⟨(), rfl, trivial, trivial⟩, hS.F ht⟩) hS.2.2 dX4_takeOver_38

set_option maxHeartbeats 4000000 in
set_option maxRecDepth 100000 in
theorem c_listPresent (l : Launch) (D : va_G) (dA : Nat → ClassId) (E : Nat) (h r1 r2 g r0 : Nat) (sz : Nat)  : Met l yX4_listPresent (wq (.code yX4_listPresent cX4_listPresent 4 (some .int))) { frames := 1, cells := 0, slots := 0, locals := 22 } (va_Pc [.ref h, .ref g] (PcB D dA E [(h, .inr (7, [.ref r1, .ref r2, .int 0, .int 0])), (g, .inr (5, [.ref r0])), (r0, .inl (dA 0, 30, .inl (fun _ => 0)))] sz)) (va_Qi (fun (r : Int32) (u : Unit) => r = 0) (fun u t => va_P D vwCl [(h, .inr (7, [.ref r1, .ref r2, .int 0, .int 0]))] t.heap ∧ va_D (va_A [(h, .inr (7, [.ref r1, .ref r2, .int 0, .int 0])), (g, .inr (5, [.ref r0])), (r0, .inl (dA 0, 30, .inl (fun _ => 0)))] sz) [(h, .inr (7, [.ref r1, .ref r2, .int 0, .int 0]))]) (va_A [(h, .inr (7, [.ref r1, .ref r2, .int 0, .int 0])), (g, .inr (5, [.ref r0])), (r0, .inl (dA 0, 30, .inl (fun _ => 0)))] sz)) 0 0 (va_A [(h, .inr (7, [.ref r1, .ref r2, .int 0, .int 0])), (g, .inr (5, [.ref r0])), (r0, .inl (dA 0, 30, .inl (fun _ => 0)))] sz) := by
  refine mb_of (Qc := fun A => va_Qi (fun (r : Int32) (u : Unit) => r = 0) (fun u t => va_P D vwCl [(h, .inr (7, [.ref r1, .ref r2, .int 0, .int 0]))] t.heap ∧ va_D A [(h, .inr (7, [.ref r1, .ref r2, .int 0, .int 0]))]) A) RX4 rfl (by decide) (Nat.le_of_ble_eq_true rfl) ?_
  intro p e s m args below meth c hae hx hb hr hts hown hlocks hml hnm hP hK A hAe hD hZ hS hA ls hl
  have hl : lv_has ls 4 [(0, .ref h), (1, .ref g)] := hl
  refine lv_iconst (v := 0) hx hb dX4_listPresent_0 (by decide) ?_
  refine lv_istore_n (lv' := [(2, .int 0), (0, .ref h), (1, .ref g)]) hx hb dX4_listPresent_1 rfl hl (by decide) rfl (fun ls hl => ?_)
  refine lv_aload_n hx hb dX4_listPresent_2 rfl (lv_at hl 2 rfl) ?_
  refine lv_iconst (v := 0) hx hb dX4_listPresent_3 (by decide) ?_
  have hPc := hP.sub (ws' := [(g, .inr (5, [.ref r0])), (r0, .inl (dA 0, 30, .inl (fun _ => 0)))]) [1, 2] rfl
  have hDc := hD.sub (ws' := [(g, .inr (5, [.ref r0])), (r0, .inl (dA 0, 30, .inl (fun _ => 0)))]) [1, 2] (by decide) rfl
  have hFc := va_free (wc := [(g, .inr (5, [.ref r0])), (r0, .inl (dA 0, 30, .inl (fun _ => 0)))]) hD hS hA [1, 2] rfl
  refine va_callv (va_runV (As := [.int 0]) (rest := []) ⟨hx, hb, hml, hown, hts⟩ (c_Row_fill l D dA E g r0 30 (fun _ => 0) 0 s.heap.size (by decide)) (cwV 1 hts (ga_V q147 q148 q145 q41 q146) rfl rfl rfl (by decide +kernel) ⟨(Nat.le_of_ble_eq_true rfl), (Nat.le_of_ble_eq_true rfl)⟩) ⟨pb_blind, va_recv hK hPc (ci := 5) (q0 := 0) rfl rfl, pb_pre hK hPc hDc hZ hS hFc _⟩ rfl rfl hl.1 rfl (lv_room (Nat.le_of_ble_eq_true rfl)) dX4_listPresent_4 ⟨(Nat.le_of_ble_eq_true rfl), (Nat.le_of_ble_eq_true rfl)⟩) hS (fun q _ h => hFc q h) hFc (fun u t H1 locs ht hvm hw hB hz1 hk1 hS => ?_)
  refine W.widen (k := 0) (n := 0) (Nat.le_of_ble_eq_true rfl) (Nat.le_of_ble_eq_true rfl) ?_
  obtain ⟨u1, rfl⟩ : ∃ z, z = u := ⟨_, rfl⟩
  have hw2 := hw
  clear hw
  obtain ⟨hP1, hD1⟩ := hB
  rw [ht] at hP1
  obtain ⟨hP, hD⟩ := va_join (wr := [(h, .inr (7, [.ref r1, .ref r2, .int 0, .int 0]))]) (w1 := [(g, .inr (5, [.ref r0])), (r0, .inl (dA 0, 30, .inl u1))]) hP hD [1, 2] [0] rfl rfl (by decide) (by decide) hk1 hFc hP1 hD1
  generalize H1 = H at hP hS ⊢
  have hP : va_P D vwCl [(h, .inr (7, [.ref r1, .ref r2, .int 0, .int 0])), (g, .inr (5, [.ref r0])), (r0, .inl (dA 0, 30, .inl u1))] H := hP
  have hD : va_D A [(h, .inr (7, [.ref r1, .ref r2, .int 0, .int 0])), (g, .inr (5, [.ref r0])), (r0, .inl (dA 0, 30, .inl u1))] := hD
  refine lv_iconst (v := 0) hx hb dX4_listPresent_7 (by decide) ?_
  refine lv_istore_n (lv' := [(3, .int 0), (2, .int 0), (0, .ref h), (1, .ref g)]) hx hb dX4_listPresent_8 rfl hl (by decide) rfl (fun ls hl => ?_)
  refine lv_iload_n hx hb dX4_listPresent_9 rfl (lv_at hl 0 rfl) ?_
  refine lv_aload_n hx hb dX4_listPresent_10 rfl (lv_at hl 2 rfl) ?_
  refine va_get (D := D) (ci := 7) (v := .int 0) (C := RX4) (T := TX4) (N := 4) hx hb hts inAX4 hown hK hP 0 rfl rfl 2 (by decide) (hts _ q135) (fun _ h9 => h9) rfl dX4_listPresent_11 ?_
  refine lv_icmp_ge (tgt := 45) hx hb dX4_listPresent_14 (by decide) (fun _ => ?_) (fun c3 => absurd (by decide) c3)
  refine lv_iload_n hx hb dX4_listPresent_45 rfl (lv_at hl 1 rfl) ?_
  refine W.widen (k := 0) (n := 0) (Nat.le_of_ble_eq_true rfl) (Nat.le_of_ble_eq_true rfl) ?_
  have hP9 := hP.sub (ws' := [(h, .inr (7, [.ref r1, .ref r2, .int 0, .int 0]))]) [0] rfl
  have hD9 := hD.sub (ws' := [(h, .inr (7, [.ref r1, .ref r2, .int 0, .int 0]))]) [0] (by decide) rfl
  exact W.iret (v := 0) hx hb hr (fun t ht hW => ⟨⟨0, (), rfl, rfl, ⟨by rw [ht]; exact hP9, hD9⟩⟩, hS.F ht⟩) hS.2.2 dX4_listPresent_46
