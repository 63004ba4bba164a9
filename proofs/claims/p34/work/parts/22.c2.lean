/-! CONTRACTS, general -/
theorem q205 : (.fieldLink RX6 26 "TallowIndex$Text" "count" "I" : Cond) ∈ WA := WA_of (tb_3 5 rfl) rfl
theorem q206 : (.fieldLink RX6 14 "TallowIndex$Text" "words" "LTallowIndex$Row;" : Cond) ∈ WA := WA_of (tb_2 239 rfl) rfl
theorem q207 : (.selects RX2 yX2_put yX2_put : Cond) ∈ WA := WA_of (tb_1 198 rfl) rfl
theorem q208 : (.code yX2_put cX2_put 3 none : Cond) ∈ WA := WA_of (tb_1 199 rfl) rfl
theorem q209 : (.methodLink RX6 30 yX2_put : Cond) ∈ WA := WA_of (tb_3 51 rfl) rfl
theorem q210 : (.instanceMethod yX2_put : Cond) ∈ WA := WA_of (tb_1 197 rfl) rfl
theorem q211 : (.fieldLink RX6 20 "TallowIndex$Text" "places" "LTallowIndex$Row;" : Cond) ∈ WA := WA_of (tb_3 1 rfl) rfl
theorem q212 : (.fieldLink RX6 23 "TallowIndex$Text" "indexes" "LTallowIndex$Row;" : Cond) ∈ WA := WA_of (tb_3 3 rfl) rfl
theorem q213 : (.methodLink RX6 34 yX2_get : Cond) ∈ WA := WA_of (tb_3 81 rfl) rfl
theorem q214 : (.selects RX6 yX6_takeOut yX6_takeOut : Cond) ∈ WA := WA_of (tb_3 88 rfl) rfl
theorem q215 : (.code yX6_takeOut cX6_takeOut 4 none : Cond) ∈ WA := WA_of (tb_3 89 rfl) rfl
theorem q216 : (.methodLink RX6 42 yX6_takeOut : Cond) ∈ WA := WA_of (tb_3 98 rfl) rfl
theorem q217 : (.instanceMethod yX6_takeOut : Cond) ∈ WA := WA_of (tb_3 87 rfl) rfl
theorem q218 : (.initialized RX6 : Cond) ∈ WA := WA_of (tb_1 23 rfl) rfl
theorem q219 : (.selects RX6 yX6_timesAhead yX6_timesAhead : Cond) ∈ WA := WA_of (sb_1 5 rfl) rfl
theorem q220 : (.code yX6_timesAhead cX6_timesAhead 5 (some .int) : Cond) ∈ WA := WA_of (tb_3 97 rfl) rfl
theorem q221 : (.methodLink RX6 38 yX6_timesAhead : Cond) ∈ WA := WA_of (tb_3 94 rfl) rfl
theorem q222 : (.instanceMethod yX6_timesAhead : Cond) ∈ WA := WA_of (tb_3 96 rfl) rfl
theorem q223 : (.selects RX6 yX6_timesAt yX6_timesAt : Cond) ∈ WA := WA_of (tb_3 105 rfl) rfl
theorem q224 : (.code yX6_timesAt cX6_timesAt 5 (some .int) : Cond) ∈ WA := WA_of (tb_3 106 rfl) rfl
theorem q225 : (.methodLink RX6 45 yX6_timesAt : Cond) ∈ WA := WA_of (tb_3 103 rfl) rfl
theorem q226 : (.instanceMethod yX6_timesAt : Cond) ∈ WA := WA_of (tb_3 104 rfl) rfl
theorem q227 : (.selects RX6 yX6_firstIndexAt yX6_firstIndexAt : Cond) ∈ WA := WA_of (sb_1 6 rfl) rfl
theorem q228 : (.code yX6_firstIndexAt cX6_firstIndexAt 6 (some .int) : Cond) ∈ WA := WA_of (tb_3 110 rfl) rfl
theorem q229 : (.methodLink RX6 48 yX6_firstIndexAt : Cond) ∈ WA := WA_of (tb_3 107 rfl) rfl
theorem q230 : (.instanceMethod yX6_firstIndexAt : Cond) ∈ WA := WA_of (tb_3 109 rfl) rfl
theorem q231 : (.selects RX6 yX6_append yX6_append : Cond) ∈ WA := WA_of (tb_3 49 rfl) rfl
theorem q232 : (.code yX6_append cX6_append 4 none : Cond) ∈ WA := WA_of (tb_3 50 rfl) rfl
theorem q233 : (.methodLink RX6 51 yX6_append : Cond) ∈ WA := WA_of (tb_3 111 rfl) rfl
theorem q234 : (.instanceMethod yX6_append : Cond) ∈ WA := WA_of (tb_3 48 rfl) rfl
theorem ptS_mono {a b : Int32} {s0 : TXS} {i : Nat} : ∀ k, (ptS a b s0 i).1 ≤ (ptS a b s0 (i + k)).1
  | 0 => Nat.le_refl _
  | k + 1 => by
    have h := ptS_mono (a := a) (b := b) (s0 := s0) (i := i) k
    have h2 : (ptS a b s0 (i + k)).1 ≤ (ptB a b s0 (i + k) (ptS a b s0 (i + k))).1 := by
      unfold ptB
      split
      · exact Nat.le_succ _
      · exact Nat.le_refl _
    exact Nat.le_trans h h2
theorem sat_stB {w p : Nat → Int32} {a t : Int32} : ∀ n, stB w p a t n = decide (0 < sat w p a t n)
  | 0 => rfl
  | n + 1 => by
    unfold stB sat
    rw [sat_stB n]
    by_cases e1 : w n = a <;> by_cases e2 : p n = t <;> simp [e1, e2]
theorem stB_f0 {w p : Nat → Int32} {a t : Int32} {n : Nat} (h : sat w p a t n = 0) : stB w p a t n = false := by rw [sat_stB]; simp [h]
theorem stB_t0 {w p : Nat → Int32} {a t : Int32} {n : Nat} (h : ¬ sat w p a t n = 0) : stB w p a t n = true := by rw [sat_stB]; simp; omega
theorem ptS_84 {a b : Int32} {s0 : TXS} {i n : Nat} (h : (ptS a b s0 n).1 ≤ 84) (hi : i < n) (h1 : s0.2.1 i = a) (h2 : stB (ptS a b s0 i).2.1 (ptS a b s0 i).2.2.1 b (s0.2.2.1 i) (ptS a b s0 i).1 = false) : (ptS a b s0 i).1 < 84 := by
  have h3 := ptS_mono (a := a) (b := b) (s0 := s0) (i := i + 1) (n - (i + 1))
  rw [show i + 1 + (n - (i + 1)) = n by omega, ptS_y h1 h2] at h3
  have h4 : (ptS a b s0 i).1 + 1 ≤ (ptS a b s0 n).1 := h3
  omega
theorem ffB_s {w p : Nat → Int32} {e n : Nat} (h : ffB w p e n = true) (h2 : ¬ w n = w e) : ffB w p e (n + 1) = true := by simp [ffB, h, h2]
theorem ffB_s2 {w p : Nat → Int32} {e n : Nat} (h : ffB w p e n = true) (h2 : ¬ p n = p e) : ffB w p e (n + 1) = true := by simp [ffB, h, h2]
theorem ffB_f {w p : Nat → Int32} {e j : Nat} (h1 : w j = w e) (h2 : p j = p e) : ∀ n, j < n → ffB w p e n = false
  | 0, h => absurd h (by omega)
  | n + 1, h => by
    unfold ffB
    by_cases q : j = n
    · subst q; simp [h1, h2]
    · rw [ffB_f h1 h2 n (by omega)]; rfl
theorem cl_y {w p : Nat → Int32} {a : Int32} {n i : Nat} (h : ¬ w i = a) : p i - nI (cntA w (fl (clF w p a n) p i) a (p i) n) = clF w p a n i := by
  rw [cntA_cl]
  exact (if_neg h).symm
theorem cl_n {w p : Nat → Int32} {a : Int32} {n i : Nat} (h : w i = a) : clF w p a n i = p i := if_pos h
set_option maxHeartbeats 4000000 in
set_option maxRecDepth 100000 in
theorem t_append (l : Launch) (D : va_G) (dA : Nat → ClassId) (E : Nat) (tt : Nat → Nat) (tw tp tx : Nat → Int32) (nm : Nat) (p0 p1 p2 : Int32) (sz : Nat) (hnm : nm < 84)  : Met l yX6_append (wq (.code yX6_append cX6_append 4 none)) { frames := 1, cells := 0, slots := 0, locals := 22 } (va_Pc [.ref (tt 0), .int p0, .int p1, .int p2] (PcB D dA E [(tt 0, .inr (9, [.ref (tt 1), .ref (tt 3), .ref (tt 5), .int (nI nm)])), (tt 1, .inr (5, [.ref (tt 2)])), (tt 2, .inl (dA 0, 84, .inl tw)), (tt 3, .inr (5, [.ref (tt 4)])), (tt 4, .inl (dA 0, 84, .inl tp)), (tt 5, .inr (5, [.ref (tt 6)])), (tt 6, .inl (dA 0, 84, .inl tx))] sz)) (va_Qv (fun (u : Unit) => True) (fun u t => va_P D vwCl [(tt 0, .inr (9, [.ref (tt 1), .ref (tt 3), .ref (tt 5), .int (nI (nm + 1))])), (tt 1, .inr (5, [.ref (tt 2)])), (tt 2, .inl (dA 0, 84, .inl (upd tw nm p0))), (tt 3, .inr (5, [.ref (tt 4)])), (tt 4, .inl (dA 0, 84, .inl (upd tp nm p1))), (tt 5, .inr (5, [.ref (tt 6)])), (tt 6, .inl (dA 0, 84, .inl (upd tx nm p2)))] t.heap ∧ va_D (va_A [(tt 0, .inr (9, [.ref (tt 1), .ref (tt 3), .ref (tt 5), .int (nI nm)])), (tt 1, .inr (5, [.ref (tt 2)])), (tt 2, .inl (dA 0, 84, .inl tw)), (tt 3, .inr (5, [.ref (tt 4)])), (tt 4, .inl (dA 0, 84, .inl tp)), (tt 5, .inr (5, [.ref (tt 6)])), (tt 6, .inl (dA 0, 84, .inl tx))] sz) [(tt 0, .inr (9, [.ref (tt 1), .ref (tt 3), .ref (tt 5), .int (nI (nm + 1))])), (tt 1, .inr (5, [.ref (tt 2)])), (tt 2, .inl (dA 0, 84, .inl (upd tw nm p0))), (tt 3, .inr (5, [.ref (tt 4)])), (tt 4, .inl (dA 0, 84, .inl (upd tp nm p1))), (tt 5, .inr (5, [.ref (tt 6)])), (tt 6, .inl (dA 0, 84, .inl (upd tx nm p2)))]) (va_A [(tt 0, .inr (9, [.ref (tt 1), .ref (tt 3), .ref (tt 5), .int (nI nm)])), (tt 1, .inr (5, [.ref (tt 2)])), (tt 2, .inl (dA 0, 84, .inl tw)), (tt 3, .inr (5, [.ref (tt 4)])), (tt 4, .inl (dA 0, 84, .inl tp)), (tt 5, .inr (5, [.ref (tt 6)])), (tt 6, .inl (dA 0, 84, .inl tx))] sz)) 0 0 (va_A [(tt 0, .inr (9, [.ref (tt 1), .ref (tt 3), .ref (tt 5), .int (nI nm)])), (tt 1, .inr (5, [.ref (tt 2)])), (tt 2, .inl (dA 0, 84, .inl tw)), (tt 3, .inr (5, [.ref (tt 4)])), (tt 4, .inl (dA 0, 84, .inl tp)), (tt 5, .inr (5, [.ref (tt 6)])), (tt 6, .inl (dA 0, 84, .inl tx))] sz) := by
  refine mb_of (Qc := fun A => va_Qv (fun (u : Unit) => True) (fun u t => va_P D vwCl [(tt 0, .inr (9, [.ref (tt 1), .ref (tt 3), .ref (tt 5), .int (nI (nm + 1))])), (tt 1, .inr (5, [.ref (tt 2)])), (tt 2, .inl (dA 0, 84, .inl (upd tw nm p0))), (tt 3, .inr (5, [.ref (tt 4)])), (tt 4, .inl (dA 0, 84, .inl (upd tp nm p1))), (tt 5, .inr (5, [.ref (tt 6)])), (tt 6, .inl (dA 0, 84, .inl (upd tx nm p2)))] t.heap ∧ va_D A [(tt 0, .inr (9, [.ref (tt 1), .ref (tt 3), .ref (tt 5), .int (nI (nm + 1))])), (tt 1, .inr (5, [.ref (tt 2)])), (tt 2, .inl (dA 0, 84, .inl (upd tw nm p0))), (tt 3, .inr (5, [.ref (tt 4)])), (tt 4, .inl (dA 0, 84, .inl (upd tp nm p1))), (tt 5, .inr (5, [.ref (tt 6)])), (tt 6, .inl (dA 0, 84, .inl (upd tx nm p2)))]) A) RX6 rfl (by decide) (Nat.le_of_ble_eq_true rfl) ?_
  intro p e s m args below meth c hae hx hb hr hts hown hlocks hml hnm hP hK A hAe hD hZ hS hA ls hl
  have hl : lv_has ls 4 [(0, .ref (tt 0)), (1, .int p0), (2, .int p1), (3, .int p2)] := hl
  refine lv_aload_n hx hb dX6_append_0 rfl (lv_at hl 0 rfl) ?_
  refine va_get (D := D) (ci := 9) (v := .int (nI nm)) (C := RX6) (T := TX6) (N := 4) hx hb hts inAX6 hown hK hP 0 rfl rfl 3 (by decide) (hts _ q205) (fun _ h9 => h9) rfl dX6_append_1 ?_
  refine lv_bipush (v := 84) hx hb dX6_append_4 (by decide) ?_
  refine lv_icmp_lt (tgt := 10) hx hb dX6_append_6 (by decide) (fun _ => ?_) (fun c1 => absurd ((nI_ltI (a := nm) (b := 84) (by omega) (by omega)).mpr (by omega)) c1)
  refine lv_aload_n hx hb dX6_append_10 rfl (lv_at hl 0 rfl) ?_
  refine va_get (D := D) (ci := 9) (v := .ref (tt 1)) (C := RX6) (T := TX6) (N := 4) hx hb hts inAX6 hown hK hP 0 rfl rfl 0 (by decide) (hts _ q206) (fun _ h9 => h9) rfl dX6_append_11 ?_
  refine lv_aload_n hx hb dX6_append_14 rfl (lv_at hl 0 rfl) ?_
  refine va_get (D := D) (ci := 9) (v := .int (nI nm)) (C := RX6) (T := TX6) (N := 4) hx hb hts inAX6 hown hK hP 0 rfl rfl 3 (by decide) (hts _ q205) (fun _ h9 => h9) rfl dX6_append_15 ?_
  refine lv_iload_n hx hb dX6_append_18 rfl (lv_at hl 1 rfl) ?_
  have hPc := hP.sub (ws' := [(tt 1, .inr (5, [.ref (tt 2)])), (tt 2, .inl (dA 0, 84, .inl tw))]) [1, 2] rfl
  have hDc := hD.sub (ws' := [(tt 1, .inr (5, [.ref (tt 2)])), (tt 2, .inl (dA 0, 84, .inl tw))]) [1, 2] (by decide) rfl
  have hFc := va_free (wc := [(tt 1, .inr (5, [.ref (tt 2)])), (tt 2, .inl (dA 0, 84, .inl tw))]) hD hS hA [1, 2] rfl
  refine va_callv (va_runV (As := [.int (nI nm), .int p0]) (rest := []) ⟨hx, hb, hml, hown, hts⟩ (t_putN l D dA E (tt 1) (tt 2) 84 tw nm p0 s.heap.size  (by omega) (by decide)) (cwV 2 hts (ga_V q209 q210 q207 q204 q208) rfl rfl rfl (by decide +kernel) ⟨(Nat.le_of_ble_eq_true rfl), (Nat.le_of_ble_eq_true rfl)⟩) ⟨pb_blind, va_recv hK hPc (ci := 5) (q0 := 0) rfl rfl, pb_pre hK hPc hDc hZ hS hFc _⟩ rfl rfl hl.1 rfl (lv_room (Nat.le_of_ble_eq_true rfl)) dX6_append_19 ⟨(Nat.le_of_ble_eq_true rfl), (Nat.le_of_ble_eq_true rfl)⟩) hS (fun q _ h => hFc q h) hFc (fun u t H1 locs ht hvm hw hB hz1 hk1 hS => ?_)
  refine W.widen (k := 0) (n := 0) (Nat.le_of_ble_eq_true rfl) (Nat.le_of_ble_eq_true rfl) ?_
  obtain ⟨u2, rfl⟩ : ∃ z, z = u := ⟨_, rfl⟩
  have hw3 := hw
  clear hw
  obtain ⟨hP1, hD1⟩ := hB
  rw [ht] at hP1
  obtain ⟨hP, hD⟩ := va_join (wr := [(tt 0, .inr (9, [.ref (tt 1), .ref (tt 3), .ref (tt 5), .int (nI nm)])), (tt 3, .inr (5, [.ref (tt 4)])), (tt 4, .inl (dA 0, 84, .inl tp)), (tt 5, .inr (5, [.ref (tt 6)])), (tt 6, .inl (dA 0, 84, .inl tx))]) (w1 := [(tt 1, .inr (5, [.ref (tt 2)])), (tt 2, .inl (dA 0, 84, .inl (upd tw nm p0)))]) hP hD [1, 2] [0, 3, 4, 5, 6] rfl rfl (by decide) (by decide) hk1 hFc hP1 hD1
  generalize H1 = H at hP hS ⊢
  have hP : va_P D vwCl [(tt 0, .inr (9, [.ref (tt 1), .ref (tt 3), .ref (tt 5), .int (nI nm)])), (tt 3, .inr (5, [.ref (tt 4)])), (tt 4, .inl (dA 0, 84, .inl tp)), (tt 5, .inr (5, [.ref (tt 6)])), (tt 6, .inl (dA 0, 84, .inl tx)), (tt 1, .inr (5, [.ref (tt 2)])), (tt 2, .inl (dA 0, 84, .inl (upd tw nm p0)))] H := hP
  have hD : va_D A [(tt 0, .inr (9, [.ref (tt 1), .ref (tt 3), .ref (tt 5), .int (nI nm)])), (tt 3, .inr (5, [.ref (tt 4)])), (tt 4, .inl (dA 0, 84, .inl tp)), (tt 5, .inr (5, [.ref (tt 6)])), (tt 6, .inl (dA 0, 84, .inl tx)), (tt 1, .inr (5, [.ref (tt 2)])), (tt 2, .inl (dA 0, 84, .inl (upd tw nm p0)))] := hD
  refine lv_aload_n hx hb dX6_append_22 rfl (lv_at hl 0 rfl) ?_
  refine va_get (D := D) (ci := 9) (v := .ref (tt 3)) (C := RX6) (T := TX6) (N := 4) hx hb hts inAX6 hown hK hP 0 rfl rfl 1 (by decide) (hts _ q211) (fun _ h9 => h9) rfl dX6_append_23 ?_
  refine lv_aload_n hx hb dX6_append_26 rfl (lv_at hl 0 rfl) ?_
  refine va_get (D := D) (ci := 9) (v := .int (nI nm)) (C := RX6) (T := TX6) (N := 4) hx hb hts inAX6 hown hK hP 0 rfl rfl 3 (by decide) (hts _ q205) (fun _ h9 => h9) rfl dX6_append_27 ?_
  refine lv_iload_n hx hb dX6_append_30 rfl (lv_at hl 2 rfl) ?_
  have hPc := hP.sub (ws' := [(tt 3, .inr (5, [.ref (tt 4)])), (tt 4, .inl (dA 0, 84, .inl tp))]) [1, 2] rfl
  have hDc := hD.sub (ws' := [(tt 3, .inr (5, [.ref (tt 4)])), (tt 4, .inl (dA 0, 84, .inl tp))]) [1, 2] (by decide) rfl
  have hFc := va_free (wc := [(tt 3, .inr (5, [.ref (tt 4)])), (tt 4, .inl (dA 0, 84, .inl tp))]) hD hS hA [1, 2] rfl
  refine va_callv (va_runV (As := [.int (nI nm), .int p1]) (rest := []) ⟨hx, hb, hml, hown, hts⟩ (t_putN l D dA E (tt 3) (tt 4) 84 tp nm p1 H.size  (by omega) (by decide)) (cwV 2 hts (ga_V q209 q210 q207 q204 q208) rfl rfl rfl (by decide +kernel) ⟨(Nat.le_of_ble_eq_true rfl), (Nat.le_of_ble_eq_true rfl)⟩) ⟨pb_blind, va_recv hK hPc (ci := 5) (q0 := 0) rfl rfl, pb_pre hK hPc hDc hZ hS hFc _⟩ rfl rfl hl.1 rfl (lv_room (Nat.le_of_ble_eq_true rfl)) dX6_append_31 ⟨(Nat.le_of_ble_eq_true rfl), (Nat.le_of_ble_eq_true rfl)⟩) hS (fun q _ h => hFc q h) hFc (fun u t H1 locs ht hvm hw hB hz1 hk1 hS => ?_)
  refine W.widen (k := 0) (n := 0) (Nat.le_of_ble_eq_true rfl) (Nat.le_of_ble_eq_true rfl) ?_
  obtain ⟨u4, rfl⟩ : ∃ z, z = u := ⟨_, rfl⟩
  have hw5 := hw
  clear hw
  obtain ⟨hP1, hD1⟩ := hB
  rw [ht] at hP1
  obtain ⟨hP, hD⟩ := va_join (wr := [(tt 0, .inr (9, [.ref (tt 1), .ref (tt 3), .ref (tt 5), .int (nI nm)])), (tt 5, .inr (5, [.ref (tt 6)])), (tt 6, .inl (dA 0, 84, .inl tx)), (tt 1, .inr (5, [.ref (tt 2)])), (tt 2, .inl (dA 0, 84, .inl (upd tw nm p0)))]) (w1 := [(tt 3, .inr (5, [.ref (tt 4)])), (tt 4, .inl (dA 0, 84, .inl (upd tp nm p1)))]) hP hD [1, 2] [0, 3, 4, 5, 6] rfl rfl (by decide) (by decide) hk1 hFc hP1 hD1
  generalize H1 = H at hP hS ⊢
  have hP : va_P D vwCl [(tt 0, .inr (9, [.ref (tt 1), .ref (tt 3), .ref (tt 5), .int (nI nm)])), (tt 5, .inr (5, [.ref (tt 6)])), (tt 6, .inl (dA 0, 84, .inl tx)), (tt 1, .inr (5, [.ref (tt 2)])), (tt 2, .inl (dA 0, 84, .inl (upd tw nm p0))), (tt 3, .inr (5, [.ref (tt 4)])), (tt 4, .inl (dA 0, 84, .inl (upd tp nm p1)))] H := hP
  have hD : va_D A [(tt 0, .inr (9, [.ref (tt 1), .ref (tt 3), .ref (tt 5), .int (nI nm)])), (tt 5, .inr (5, [.ref (tt 6)])), (tt 6, .inl (dA 0, 84, .inl tx)), (tt 1, .inr (5, [.ref (tt 2)])), (tt 2, .inl (dA 0, 84, .inl (upd tw nm p0))), (tt 3, .inr (5, [.ref (tt 4)])), (tt 4, .inl (dA 0, 84, .inl (upd tp nm p1)))] := hD
  refine lv_aload_n hx hb dX6_append_34 rfl (lv_at hl 0 rfl) ?_
  refine va_get (D := D) (ci := 9) (v := .ref (tt 5)) (C := RX6) (T := TX6) (N := 4) hx hb hts inAX6 hown hK hP 0 rfl rfl 2 (by decide) (hts _ q212) (fun _ h9 => h9) rfl dX6_append_35 ?_
  refine lv_aload_n hx hb dX6_append_38 rfl (lv_at hl 0 rfl) ?_
  refine va_get (D := D) (ci := 9) (v := .int (nI nm)) (C := RX6) (T := TX6) (N := 4) hx hb hts inAX6 hown hK hP 0 rfl rfl 3 (by decide) (hts _ q205) (fun _ h9 => h9) rfl dX6_append_39 ?_
  refine lv_iload_n hx hb dX6_append_42 rfl (lv_at hl 3 rfl) ?_
  have hPc := hP.sub (ws' := [(tt 5, .inr (5, [.ref (tt 6)])), (tt 6, .inl (dA 0, 84, .inl tx))]) [1, 2] rfl
  have hDc := hD.sub (ws' := [(tt 5, .inr (5, [.ref (tt 6)])), (tt 6, .inl (dA 0, 84, .inl tx))]) [1, 2] (by decide) rfl
  have hFc := va_free (wc := [(tt 5, .inr (5, [.ref (tt 6)])), (tt 6, .inl (dA 0, 84, .inl tx))]) hD hS hA [1, 2] rfl
  refine va_callv (va_runV (As := [.int (nI nm), .int p2]) (rest := []) ⟨hx, hb, hml, hown, hts⟩ (t_putN l D dA E (tt 5) (tt 6) 84 tx nm p2 H.size  (by omega) (by decide)) (cwV 2 hts (ga_V q209 q210 q207 q204 q208) rfl rfl rfl (by decide +kernel) ⟨(Nat.le_of_ble_eq_true rfl), (Nat.le_of_ble_eq_true rfl)⟩) ⟨pb_blind, va_recv hK hPc (ci := 5) (q0 := 0) rfl rfl, pb_pre hK hPc hDc hZ hS hFc _⟩ rfl rfl hl.1 rfl (lv_room (Nat.le_of_ble_eq_true rfl)) dX6_append_43 ⟨(Nat.le_of_ble_eq_true rfl), (Nat.le_of_ble_eq_true rfl)⟩) hS (fun q _ h => hFc q h) hFc (fun u t H1 locs ht hvm hw hB hz1 hk1 hS => ?_)
  refine W.widen (k := 0) (n := 0) (Nat.le_of_ble_eq_true rfl) (Nat.le_of_ble_eq_true rfl) ?_
  obtain ⟨u6, rfl⟩ : ∃ z, z = u := ⟨_, rfl⟩
  have hw7 := hw
  clear hw
  obtain ⟨hP1, hD1⟩ := hB
  rw [ht] at hP1
  obtain ⟨hP, hD⟩ := va_join (wr := [(tt 0, .inr (9, [.ref (tt 1), .ref (tt 3), .ref (tt 5), .int (nI nm)])), (tt 1, .inr (5, [.ref (tt 2)])), (tt 2, .inl (dA 0, 84, .inl (upd tw nm p0))), (tt 3, .inr (5, [.ref (tt 4)])), (tt 4, .inl (dA 0, 84, .inl (upd tp nm p1)))]) (w1 := [(tt 5, .inr (5, [.ref (tt 6)])), (tt 6, .inl (dA 0, 84, .inl (upd tx nm p2)))]) hP hD [1, 2] [0, 3, 4, 5, 6] rfl rfl (by decide) (by decide) hk1 hFc hP1 hD1
  generalize H1 = H at hP hS ⊢
  have hP : va_P D vwCl [(tt 0, .inr (9, [.ref (tt 1), .ref (tt 3), .ref (tt 5), .int (nI nm)])), (tt 1, .inr (5, [.ref (tt 2)])), (tt 2, .inl (dA 0, 84, .inl (upd tw nm p0))), (tt 3, .inr (5, [.ref (tt 4)])), (tt 4, .inl (dA 0, 84, .inl (upd tp nm p1))), (tt 5, .inr (5, [.ref (tt 6)])), (tt 6, .inl (dA 0, 84, .inl (upd tx nm p2)))] H := hP
  have hD : va_D A [(tt 0, .inr (9, [.ref (tt 1), .ref (tt 3), .ref (tt 5), .int (nI nm)])), (tt 1, .inr (5, [.ref (tt 2)])), (tt 2, .inl (dA 0, 84, .inl (upd tw nm p0))), (tt 3, .inr (5, [.ref (tt 4)])), (tt 4, .inl (dA 0, 84, .inl (upd tp nm p1))), (tt 5, .inr (5, [.ref (tt 6)])), (tt 6, .inl (dA 0, 84, .inl (upd tx nm p2)))] := hD
  refine lv_aload_n hx hb dX6_append_46 rfl (lv_at hl 0 rfl) ?_
  refine lv_dup hx hb dX6_append_47 rfl ?_
  refine va_get (D := D) (ci := 9) (v := .int (nI nm)) (C := RX6) (T := TX6) (N := 4) hx hb hts inAX6 hown hK hP 0 rfl rfl 3 (by decide) (hts _ q205) (fun _ h9 => h9) rfl dX6_append_48 ?_
  refine lv_iconst (v := 1) hx hb dX6_append_51 (by decide) ?_
  refine lv_iadd hx hb dX6_append_52 ?_
  refine lv_topi (fun x8 ex8 => ?_)
  obtain rfl : x8 = nI (nm + 1) := ex8.trans (nI_add nm 1)
  refine va_put (D := D) (ci := 9) (v := .int (nI (nm + 1))) (ty := .int) (C := RX6) (T := TX6) (N := 4) hx hb hts inAX6 tyX6 tyX6_ok nmX6 hown hK hP hD hS 0 rfl rfl 3 (by decide) (hts _ q205) (fun _ h9 => h9) rfl (tyX6_ok 3 (by decide)) rfl rfl (Nat.le_of_ble_eq_true rfl) dX6_append_53 (fun H locs hP hD hS => ?_)
  have hP : va_P D vwCl [(tt 0, .inr (9, [.ref (tt 1), .ref (tt 3), .ref (tt 5), .int (nI (nm + 1))])), (tt 1, .inr (5, [.ref (tt 2)])), (tt 2, .inl (dA 0, 84, .inl (upd tw nm p0))), (tt 3, .inr (5, [.ref (tt 4)])), (tt 4, .inl (dA 0, 84, .inl (upd tp nm p1))), (tt 5, .inr (5, [.ref (tt 6)])), (tt 6, .inl (dA 0, 84, .inl (upd tx nm p2)))] H := hP
  have hD : va_D A [(tt 0, .inr (9, [.ref (tt 1), .ref (tt 3), .ref (tt 5), .int (nI (nm + 1))])), (tt 1, .inr (5, [.ref (tt 2)])), (tt 2, .inl (dA 0, 84, .inl (upd tw nm p0))), (tt 3, .inr (5, [.ref (tt 4)])), (tt 4, .inl (dA 0, 84, .inl (upd tp nm p1))), (tt 5, .inr (5, [.ref (tt 6)])), (tt 6, .inl (dA 0, 84, .inl (upd tx nm p2)))] := hD
  refine W.widen (k := 0) (n := 0) (Nat.le_of_ble_eq_true rfl) (Nat.le_of_ble_eq_true rfl) ?_
  have hP9 := hP.sub (ws' := [(tt 0, .inr (9, [.ref (tt 1), .ref (tt 3), .ref (tt 5), .int (nI (nm + 1))])), (tt 1, .inr (5, [.ref (tt 2)])), (tt 2, .inl (dA 0, 84, .inl (upd tw nm p0))), (tt 3, .inr (5, [.ref (tt 4)])), (tt 4, .inl (dA 0, 84, .inl (upd tp nm p1))), (tt 5, .inr (5, [.ref (tt 6)])), (tt 6, .inl (dA 0, 84, .inl (upd tx nm p2)))]) [0, 1, 2, 3, 4, 5, 6] rfl
  have hD9 := hD.sub (ws' := [(tt 0, .inr (9, [.ref (tt 1), .ref (tt 3), .ref (tt 5), .int (nI (nm + 1))])), (tt 1, .inr (5, [.ref (tt 2)])), (tt 2, .inl (dA 0, 84, .inl (upd tw nm p0))), (tt 3, .inr (5, [.ref (tt 4)])), (tt 4, .inl (dA 0, 84, .inl (upd tp nm p1))), (tt 5, .inr (5, [.ref (tt 6)])), (tt 6, .inl (dA 0, 84, .inl (upd tx nm p2)))]) [0, 1, 2, 3, 4, 5, 6] (by decide) rfl
  exact W.vret hx hb hr (fun t ht hW => ⟨⟨(), rfl, trivial, ⟨by rw [ht]; exact hP9, hD9⟩⟩, hS.F ht⟩) hS.2.2 dX6_append_56

set_option maxHeartbeats 4000000 in
set_option maxRecDepth 100000 in
theorem t_lower (l : Launch) (D : va_G) (dA : Nat → ClassId) (E : Nat) (tt : Nat → Nat) (tw tp tx : Nat → Int32) (nm : Nat) (sz : Nat) (hnm : nm ≤ 84)  : Met l yX6_lower (wq (.code yX6_lower cX6_lower 3 none)) { frames := 1, cells := 0, slots := 0, locals := 22 } (va_Pc [.ref (tt 0)] (PcB D dA E [(tt 0, .inr (9, [.ref (tt 1), .ref (tt 3), .ref (tt 5), .int (nI nm)])), (tt 1, .inr (5, [.ref (tt 2)])), (tt 2, .inl (dA 0, 84, .inl tw)), (tt 3, .inr (5, [.ref (tt 4)])), (tt 4, .inl (dA 0, 84, .inl tp)), (tt 5, .inr (5, [.ref (tt 6)])), (tt 6, .inl (dA 0, 84, .inl tx))] sz)) (va_Qv (fun (u : Unit) => True) (fun u t => va_P D vwCl [(tt 0, .inr (9, [.ref (tt 1), .ref (tt 3), .ref (tt 5), .int (nI nm)])), (tt 1, .inr (5, [.ref (tt 2)])), (tt 2, .inl (dA 0, 84, .inl (fl (fun j => lowF 108 (tw j)) tw nm))), (tt 3, .inr (5, [.ref (tt 4)])), (tt 4, .inl (dA 0, 84, .inl tp)), (tt 5, .inr (5, [.ref (tt 6)])), (tt 6, .inl (dA 0, 84, .inl tx))] t.heap ∧ va_D (va_A [(tt 0, .inr (9, [.ref (tt 1), .ref (tt 3), .ref (tt 5), .int (nI nm)])), (tt 1, .inr (5, [.ref (tt 2)])), (tt 2, .inl (dA 0, 84, .inl tw)), (tt 3, .inr (5, [.ref (tt 4)])), (tt 4, .inl (dA 0, 84, .inl tp)), (tt 5, .inr (5, [.ref (tt 6)])), (tt 6, .inl (dA 0, 84, .inl tx))] sz) [(tt 0, .inr (9, [.ref (tt 1), .ref (tt 3), .ref (tt 5), .int (nI nm)])), (tt 1, .inr (5, [.ref (tt 2)])), (tt 2, .inl (dA 0, 84, .inl (fl (fun j => lowF 108 (tw j)) tw nm))), (tt 3, .inr (5, [.ref (tt 4)])), (tt 4, .inl (dA 0, 84, .inl tp)), (tt 5, .inr (5, [.ref (tt 6)])), (tt 6, .inl (dA 0, 84, .inl tx))]) (va_A [(tt 0, .inr (9, [.ref (tt 1), .ref (tt 3), .ref (tt 5), .int (nI nm)])), (tt 1, .inr (5, [.ref (tt 2)])), (tt 2, .inl (dA 0, 84, .inl tw)), (tt 3, .inr (5, [.ref (tt 4)])), (tt 4, .inl (dA 0, 84, .inl tp)), (tt 5, .inr (5, [.ref (tt 6)])), (tt 6, .inl (dA 0, 84, .inl tx))] sz)) 0 0 (va_A [(tt 0, .inr (9, [.ref (tt 1), .ref (tt 3), .ref (tt 5), .int (nI nm)])), (tt 1, .inr (5, [.ref (tt 2)])), (tt 2, .inl (dA 0, 84, .inl tw)), (tt 3, .inr (5, [.ref (tt 4)])), (tt 4, .inl (dA 0, 84, .inl tp)), (tt 5, .inr (5, [.ref (tt 6)])), (tt 6, .inl (dA 0, 84, .inl tx))] sz) := by
  refine mb_of (Qc := fun A => va_Qv (fun (u : Unit) => True) (fun u t => va_P D vwCl [(tt 0, .inr (9, [.ref (tt 1), .ref (tt 3), .ref (tt 5), .int (nI nm)])), (tt 1, .inr (5, [.ref (tt 2)])), (tt 2, .inl (dA 0, 84, .inl (fl (fun j => lowF 108 (tw j)) tw nm))), (tt 3, .inr (5, [.ref (tt 4)])), (tt 4, .inl (dA 0, 84, .inl tp)), (tt 5, .inr (5, [.ref (tt 6)])), (tt 6, .inl (dA 0, 84, .inl tx))] t.heap ∧ va_D A [(tt 0, .inr (9, [.ref (tt 1), .ref (tt 3), .ref (tt 5), .int (nI nm)])), (tt 1, .inr (5, [.ref (tt 2)])), (tt 2, .inl (dA 0, 84, .inl (fl (fun j => lowF 108 (tw j)) tw nm))), (tt 3, .inr (5, [.ref (tt 4)])), (tt 4, .inl (dA 0, 84, .inl tp)), (tt 5, .inr (5, [.ref (tt 6)])), (tt 6, .inl (dA 0, 84, .inl tx))]) A) RX6 rfl (by decide) (Nat.le_of_ble_eq_true rfl) ?_
  intro p e s m args below meth c hae hx hb hr hts hown hlocks hml hnm hP hK A hAe hD hZ hS hA ls hl
  have hl : lv_has ls 3 [(0, .ref (tt 0))] := hl
  refine lv_iconst (v := 0) hx hb dX6_lower_0 (by decide) ?_
  refine lv_istore_n (lv' := [(1, .int 0), (0, .ref (tt 0))]) hx hb dX6_lower_1 rfl hl (by decide) rfl (fun ls hl => ?_)
  have K2 : ∀ (k2 i2 : Nat) (g2_0 : Nat → Int32), 0 ≤ i2 → i2 ≤ nm → nm < i2 + k2 → (g2_0 = fl (fun j => lowF 108 (tw j)) tw i2) → ∀ (H : Heap) (locs : List Loc), va_P D vwCl [(tt 0, .inr (9, [.ref (tt 1), .ref (tt 3), .ref (tt 5), .int (nI nm)])), (tt 1, .inr (5, [.ref (tt 2)])), (tt 2, .inl (dA 0, 84, .inl g2_0)), (tt 3, .inr (5, [.ref (tt 4)])), (tt 4, .inl (dA 0, 84, .inl tp)), (tt 5, .inr (5, [.ref (tt 6)])), (tt 6, .inl (dA 0, 84, .inl tx))] H → va_D A [(tt 0, .inr (9, [.ref (tt 1), .ref (tt 3), .ref (tt 5), .int (nI nm)])), (tt 1, .inr (5, [.ref (tt 2)])), (tt 2, .inl (dA 0, 84, .inl g2_0)), (tt 3, .inr (5, [.ref (tt 4)])), (tt 4, .inl (dA 0, 84, .inl tp)), (tt 5, .inr (5, [.ref (tt 6)])), (tt 6, .inl (dA 0, 84, .inl tx))] → va_S A s.heap H locs → ∀ ls : Array Slot, lv_has ls 3 [(1, .int (nI i2)), (0, .ref (tt 0))] → W p l e { frames := 1, cells := 0, slots := 0, locals := 22 } s m args below meth c H locs 0 0 (MQ below (va_Qv (fun (u : Unit) => True) (fun u t => va_P D vwCl [(tt 0, .inr (9, [.ref (tt 1), .ref (tt 3), .ref (tt 5), .int (nI nm)])), (tt 1, .inr (5, [.ref (tt 2)])), (tt 2, .inl (dA 0, 84, .inl (fl (fun j => lowF 108 (tw j)) tw nm))), (tt 3, .inr (5, [.ref (tt 4)])), (tt 4, .inl (dA 0, 84, .inl tp)), (tt 5, .inr (5, [.ref (tt 6)])), (tt 6, .inl (dA 0, 84, .inl tx))] t.heap ∧ va_D A [(tt 0, .inr (9, [.ref (tt 1), .ref (tt 3), .ref (tt 5), .int (nI nm)])), (tt 1, .inr (5, [.ref (tt 2)])), (tt 2, .inl (dA 0, 84, .inl (fl (fun j => lowF 108 (tw j)) tw nm))), (tt 3, .inr (5, [.ref (tt 4)])), (tt 4, .inl (dA 0, 84, .inl tp)), (tt 5, .inr (5, [.ref (tt 6)])), (tt 6, .inl (dA 0, 84, .inl tx))]) A) args s 0 0 A) (F0 m 2 ls []) := by
    intro k2
    induction k2 with
    | zero => intro i2 g2_0 h1 h2 h3; exact absurd h3 (by omega)
    | succ k2 ih2 =>
      intro i2 g2_0 hlo2 hhi2 hms2 hinv2 H locs hP hD hS ls hl
      have eg2_0 := hinv2
      subst eg2_0
      refine lv_iload_n hx hb dX6_lower_2 rfl (lv_at hl 0 rfl) ?_
      refine lv_aload_n hx hb dX6_lower_3 rfl (lv_at hl 1 rfl) ?_
      refine va_get (D := D) (ci := 9) (v := .int (nI nm)) (C := RX6) (T := TX6) (N := 4) hx hb hts inAX6 hown hK hP 0 rfl rfl 3 (by decide) (hts _ q205) (fun _ h9 => h9) rfl dX6_lower_4 ?_
      refine lv_icmp_ge (tgt := 43) hx hb dX6_lower_7 (by decide) (fun c1 => ?_) (fun c1 => ?_)
      · replace c1 := (nI_leI (a := nm) (b := i2) (by omega) (by omega)).mp c1
        obtain rfl : nm = i2 := (by omega)
        have hP : va_P D vwCl [(tt 0, .inr (9, [.ref (tt 1), .ref (tt 3), .ref (tt 5), .int (nI nm)])), (tt 1, .inr (5, [.ref (tt 2)])), (tt 2, .inl (dA 0, 84, .inl (fl (fun j => lowF 108 (tw j)) tw nm))), (tt 3, .inr (5, [.ref (tt 4)])), (tt 4, .inl (dA 0, 84, .inl tp)), (tt 5, .inr (5, [.ref (tt 6)])), (tt 6, .inl (dA 0, 84, .inl tx))] H := hP
        have hD : va_D A [(tt 0, .inr (9, [.ref (tt 1), .ref (tt 3), .ref (tt 5), .int (nI nm)])), (tt 1, .inr (5, [.ref (tt 2)])), (tt 2, .inl (dA 0, 84, .inl (fl (fun j => lowF 108 (tw j)) tw nm))), (tt 3, .inr (5, [.ref (tt 4)])), (tt 4, .inl (dA 0, 84, .inl tp)), (tt 5, .inr (5, [.ref (tt 6)])), (tt 6, .inl (dA 0, 84, .inl tx))] := hD
        refine W.widen (k := 0) (n := 0) (Nat.le_of_ble_eq_true rfl) (Nat.le_of_ble_eq_true rfl) ?_
        have hP9 := hP.sub (ws' := [(tt 0, .inr (9, [.ref (tt 1), .ref (tt 3), .ref (tt 5), .int (nI nm)])), (tt 1, .inr (5, [.ref (tt 2)])), (tt 2, .inl (dA 0, 84, .inl (fl (fun j => lowF 108 (tw j)) tw nm))), (tt 3, .inr (5, [.ref (tt 4)])), (tt 4, .inl (dA 0, 84, .inl tp)), (tt 5, .inr (5, [.ref (tt 6)])), (tt 6, .inl (dA 0, 84, .inl tx))]) [0, 1, 2, 3, 4, 5, 6] rfl
        have hD9 := hD.sub (ws' := [(tt 0, .inr (9, [.ref (tt 1), .ref (tt 3), .ref (tt 5), .int (nI nm)])), (tt 1, .inr (5, [.ref (tt 2)])), (tt 2, .inl (dA 0, 84, .inl (fl (fun j => lowF 108 (tw j)) tw nm))), (tt 3, .inr (5, [.ref (tt 4)])), (tt 4, .inl (dA 0, 84, .inl tp)), (tt 5, .inr (5, [.ref (tt 6)])), (tt 6, .inl (dA 0, 84, .inl tx))]) [0, 1, 2, 3, 4, 5, 6] (by decide) rfl
        exact W.vret hx hb hr (fun t ht hW => ⟨⟨(), rfl, trivial, ⟨by rw [ht]; exact hP9, hD9⟩⟩, hS.F ht⟩) hS.2.2 dX6_lower_43
      · replace c1 := mt (nI_leI (a := nm) (b := i2) (by omega) (by omega)).mpr c1
        refine lv_aload_n hx hb dX6_lower_10 rfl (lv_at hl 1 rfl) ?_
        refine va_get (D := D) (ci := 9) (v := .ref (tt 1)) (C := RX6) (T := TX6) (N := 4) hx hb hts inAX6 hown hK hP 0 rfl rfl 0 (by decide) (hts _ q206) (fun _ h9 => h9) rfl dX6_lower_11 ?_
        refine lv_iload_n hx hb dX6_lower_14 rfl (lv_at hl 0 rfl) ?_
        have hPc := hP.sub (ws' := [(tt 1, .inr (5, [.ref (tt 2)])), (tt 2, .inl (dA 0, 84, .inl (fl (fun j => lowF 108 (tw j)) tw i2)))]) [1, 2] rfl
        have hDc := hD.sub (ws' := [(tt 1, .inr (5, [.ref (tt 2)])), (tt 2, .inl (dA 0, 84, .inl (fl (fun j => lowF 108 (tw j)) tw i2)))]) [1, 2] (by decide) rfl
        have hFc := va_free (wc := [(tt 1, .inr (5, [.ref (tt 2)])), (tt 2, .inl (dA 0, 84, .inl (fl (fun j => lowF 108 (tw j)) tw i2)))]) hD hS hA [1, 2] rfl
        refine va_calli (va_runV (As := [.int (nI i2)]) (rest := []) ⟨hx, hb, hml, hown, hts⟩ (t_getN l D dA E (tt 1) (tt 2) 84 (fl (fun j => lowF 108 (tw j)) tw i2) i2 H.size  (by omega) (by decide)) (cwV 1 hts (ga_V q213 q203 q200 q204 q201) rfl rfl rfl (by decide +kernel) ⟨(Nat.le_of_ble_eq_true rfl), (Nat.le_of_ble_eq_true rfl)⟩) ⟨pb_blind, va_recv hK hPc (ci := 5) (q0 := 0) rfl rfl, pb_pre hK hPc hDc hZ hS hFc _⟩ rfl rfl hl.1 rfl (lv_room (Nat.le_of_ble_eq_true rfl)) dX6_lower_15 ⟨(Nat.le_of_ble_eq_true rfl), (Nat.le_of_ble_eq_true rfl)⟩) hS (fun q _ h => hFc q h) hFc (fun r u t H1 locs ht hvm hw hB hz1 hk1 hS => ?_)
        refine W.widen (k := 0) (n := 0) (Nat.le_of_ble_eq_true rfl) (Nat.le_of_ble_eq_true rfl) ?_
        obtain ⟨r2, rfl⟩ : ∃ z, z = r := ⟨_, rfl⟩
        obtain ⟨u3, rfl⟩ : ∃ z, z = u := ⟨_, rfl⟩
        have hw4 := hw
        clear hw
        obtain ⟨hP1, hD1⟩ := hB
        rw [ht] at hP1
        obtain ⟨hP, hD⟩ := va_join (wr := [(tt 0, .inr (9, [.ref (tt 1), .ref (tt 3), .ref (tt 5), .int (nI nm)])), (tt 3, .inr (5, [.ref (tt 4)])), (tt 4, .inl (dA 0, 84, .inl tp)), (tt 5, .inr (5, [.ref (tt 6)])), (tt 6, .inl (dA 0, 84, .inl tx))]) (w1 := [(tt 1, .inr (5, [.ref (tt 2)])), (tt 2, .inl (dA 0, 84, .inl (fl (fun j => lowF 108 (tw j)) tw i2)))]) hP hD [1, 2] [0, 3, 4, 5, 6] rfl rfl (by decide) (by decide) hk1 hFc hP1 hD1
        generalize H1 = H at hP hS ⊢
        have hP : va_P D vwCl [(tt 0, .inr (9, [.ref (tt 1), .ref (tt 3), .ref (tt 5), .int (nI nm)])), (tt 3, .inr (5, [.ref (tt 4)])), (tt 4, .inl (dA 0, 84, .inl tp)), (tt 5, .inr (5, [.ref (tt 6)])), (tt 6, .inl (dA 0, 84, .inl tx)), (tt 1, .inr (5, [.ref (tt 2)])), (tt 2, .inl (dA 0, 84, .inl (fl (fun j => lowF 108 (tw j)) tw i2)))] H := hP
        have hD : va_D A [(tt 0, .inr (9, [.ref (tt 1), .ref (tt 3), .ref (tt 5), .int (nI nm)])), (tt 3, .inr (5, [.ref (tt 4)])), (tt 4, .inl (dA 0, 84, .inl tp)), (tt 5, .inr (5, [.ref (tt 6)])), (tt 6, .inl (dA 0, 84, .inl tx)), (tt 1, .inr (5, [.ref (tt 2)])), (tt 2, .inl (dA 0, 84, .inl (fl (fun j => lowF 108 (tw j)) tw i2)))] := hD
        obtain rfl : r2 = tw i2 := (show r2 = (fl (fun j => lowF 108 (tw j)) tw i2) i2 from hw4).trans (fl_out (Nat.le_refl _))
        refine lv_istore_n (lv' := [(2, .int (tw i2)), (1, .int (nI i2)), (0, .ref (tt 0))]) hx hb dX6_lower_18 rfl hl (by decide) rfl (fun ls hl => ?_)
        refine lv_iload_n hx hb dX6_lower_19 rfl (lv_at hl 0 rfl) ?_
        refine lv_bipush (v := 30) hx hb dX6_lower_20 (by decide) ?_
        refine lv_icmp_lt (tgt := 37) hx hb dX6_lower_22 (by decide) (fun c5 => ?_) (fun c5 => ?_)
        · refine lv_iinc (v := nI (i2 + 1)) (lv' := [(1, .int (nI (i2 + 1))), (2, .int (tw i2)), (0, .ref (tt 0))]) hx hb dX6_lower_37 hl (k := 1) rfl (nI_add i2 1) (by decide) rfl (fun ls hl => ?_)
          refine lv_goto (tgt := 2) hx hb dX6_lower_40 (by decide) ?_
          have hP := hP.sub (ws' := [(tt 0, .inr (9, [.ref (tt 1), .ref (tt 3), .ref (tt 5), .int (nI nm)])), (tt 1, .inr (5, [.ref (tt 2)])), (tt 2, .inl (dA 0, 84, .inl (fl (fun j => lowF 108 (tw j)) tw i2))), (tt 3, .inr (5, [.ref (tt 4)])), (tt 4, .inl (dA 0, 84, .inl tp)), (tt 5, .inr (5, [.ref (tt 6)])), (tt 6, .inl (dA 0, 84, .inl tx))]) [0, 5, 6, 1, 2, 3, 4] rfl
          have hD := hD.sub (ws' := [(tt 0, .inr (9, [.ref (tt 1), .ref (tt 3), .ref (tt 5), .int (nI nm)])), (tt 1, .inr (5, [.ref (tt 2)])), (tt 2, .inl (dA 0, 84, .inl (fl (fun j => lowF 108 (tw j)) tw i2))), (tt 3, .inr (5, [.ref (tt 4)])), (tt 4, .inl (dA 0, 84, .inl tp)), (tt 5, .inr (5, [.ref (tt 6)])), (tt 6, .inl (dA 0, 84, .inl tx))]) [0, 5, 6, 1, 2, 3, 4] (by decide) rfl
          exact ih2 (i2 + 1) (fl (fun j => lowF 108 (tw j)) tw i2) (by omega) (by omega) (by omega) (fl_keep (by show lowF 108 (tw i2) = tw i2; simp [lowF, c5])) _ _ hP hD hS ls (lv_sub hl [0, 2] rfl)
        · refine lv_aload_n hx hb dX6_lower_25 rfl (lv_at hl 2 rfl) ?_
          refine va_get (D := D) (ci := 9) (v := .ref (tt 1)) (C := RX6) (T := TX6) (N := 4) hx hb hts inAX6 hown hK hP 0 rfl rfl 0 (by decide) (hts _ q206) (fun _ h9 => h9) rfl dX6_lower_26 ?_
          refine lv_iload_n hx hb dX6_lower_29 rfl (lv_at hl 1 rfl) ?_
          refine lv_iload_n hx hb dX6_lower_30 rfl (lv_at hl 0 rfl) ?_
          refine lv_bipush (v := 30) hx hb dX6_lower_31 (by decide) ?_
          refine lv_isub hx hb dX6_lower_33 ?_
          have hPc := hP.sub (ws' := [(tt 1, .inr (5, [.ref (tt 2)])), (tt 2, .inl (dA 0, 84, .inl (fl (fun j => lowF 108 (tw j)) tw i2)))]) [5, 6] rfl
          have hDc := hD.sub (ws' := [(tt 1, .inr (5, [.ref (tt 2)])), (tt 2, .inl (dA 0, 84, .inl (fl (fun j => lowF 108 (tw j)) tw i2)))]) [5, 6] (by decide) rfl
          have hFc := va_free (wc := [(tt 1, .inr (5, [.ref (tt 2)])), (tt 2, .inl (dA 0, 84, .inl (fl (fun j => lowF 108 (tw j)) tw i2)))]) hD hS hA [5, 6] rfl
          refine va_callv (va_runV (As := [.int (nI i2), .int ((tw i2) - 30)]) (rest := []) ⟨hx, hb, hml, hown, hts⟩ (t_putN l D dA E (tt 1) (tt 2) 84 (fl (fun j => lowF 108 (tw j)) tw i2) i2 ((tw i2) - 30) H.size  (by omega) (by decide)) (cwV 2 hts (ga_V q209 q210 q207 q204 q208) rfl rfl rfl (by decide +kernel) ⟨(Nat.le_of_ble_eq_true rfl), (Nat.le_of_ble_eq_true rfl)⟩) ⟨pb_blind, va_recv hK hPc (ci := 5) (q0 := 0) rfl rfl, pb_pre hK hPc hDc hZ hS hFc _⟩ rfl rfl hl.1 rfl (lv_room (Nat.le_of_ble_eq_true rfl)) dX6_lower_34 ⟨(Nat.le_of_ble_eq_true rfl), (Nat.le_of_ble_eq_true rfl)⟩) hS (fun q _ h => hFc q h) hFc (fun u t H1 locs ht hvm hw hB hz1 hk1 hS => ?_)
          refine W.widen (k := 0) (n := 0) (Nat.le_of_ble_eq_true rfl) (Nat.le_of_ble_eq_true rfl) ?_
          obtain ⟨u6, rfl⟩ : ∃ z, z = u := ⟨_, rfl⟩
          have hw7 := hw
          clear hw
          obtain ⟨hP1, hD1⟩ := hB
          rw [ht] at hP1
          obtain ⟨hP, hD⟩ := va_join (wr := [(tt 0, .inr (9, [.ref (tt 1), .ref (tt 3), .ref (tt 5), .int (nI nm)])), (tt 3, .inr (5, [.ref (tt 4)])), (tt 4, .inl (dA 0, 84, .inl tp)), (tt 5, .inr (5, [.ref (tt 6)])), (tt 6, .inl (dA 0, 84, .inl tx))]) (w1 := [(tt 1, .inr (5, [.ref (tt 2)])), (tt 2, .inl (dA 0, 84, .inl (upd (fl (fun j => lowF 108 (tw j)) tw i2) i2 ((tw i2) - 30))))]) hP hD [5, 6] [0, 1, 2, 3, 4] rfl rfl (by decide) (by decide) hk1 hFc hP1 hD1
          generalize H1 = H at hP hS ⊢
          have hP : va_P D vwCl [(tt 0, .inr (9, [.ref (tt 1), .ref (tt 3), .ref (tt 5), .int (nI nm)])), (tt 3, .inr (5, [.ref (tt 4)])), (tt 4, .inl (dA 0, 84, .inl tp)), (tt 5, .inr (5, [.ref (tt 6)])), (tt 6, .inl (dA 0, 84, .inl tx)), (tt 1, .inr (5, [.ref (tt 2)])), (tt 2, .inl (dA 0, 84, .inl (upd (fl (fun j => lowF 108 (tw j)) tw i2) i2 ((tw i2) - 30))))] H := hP
          have hD : va_D A [(tt 0, .inr (9, [.ref (tt 1), .ref (tt 3), .ref (tt 5), .int (nI nm)])), (tt 3, .inr (5, [.ref (tt 4)])), (tt 4, .inl (dA 0, 84, .inl tp)), (tt 5, .inr (5, [.ref (tt 6)])), (tt 6, .inl (dA 0, 84, .inl tx)), (tt 1, .inr (5, [.ref (tt 2)])), (tt 2, .inl (dA 0, 84, .inl (upd (fl (fun j => lowF 108 (tw j)) tw i2) i2 ((tw i2) - 30))))] := hD
          refine lv_iinc (v := nI (i2 + 1)) (lv' := [(1, .int (nI (i2 + 1))), (2, .int (tw i2)), (0, .ref (tt 0))]) hx hb dX6_lower_37 hl (k := 1) rfl (nI_add i2 1) (by decide) rfl (fun ls hl => ?_)
          refine lv_goto (tgt := 2) hx hb dX6_lower_40 (by decide) ?_
          have hP := hP.sub (ws' := [(tt 0, .inr (9, [.ref (tt 1), .ref (tt 3), .ref (tt 5), .int (nI nm)])), (tt 1, .inr (5, [.ref (tt 2)])), (tt 2, .inl (dA 0, 84, .inl (upd (fl (fun j => lowF 108 (tw j)) tw i2) i2 ((tw i2) - 30)))), (tt 3, .inr (5, [.ref (tt 4)])), (tt 4, .inl (dA 0, 84, .inl tp)), (tt 5, .inr (5, [.ref (tt 6)])), (tt 6, .inl (dA 0, 84, .inl tx))]) [0, 5, 6, 1, 2, 3, 4] rfl
          have hD := hD.sub (ws' := [(tt 0, .inr (9, [.ref (tt 1), .ref (tt 3), .ref (tt 5), .int (nI nm)])), (tt 1, .inr (5, [.ref (tt 2)])), (tt 2, .inl (dA 0, 84, .inl (upd (fl (fun j => lowF 108 (tw j)) tw i2) i2 ((tw i2) - 30)))), (tt 3, .inr (5, [.ref (tt 4)])), (tt 4, .inl (dA 0, 84, .inl tp)), (tt 5, .inr (5, [.ref (tt 6)])), (tt 6, .inl (dA 0, 84, .inl tx))]) [0, 5, 6, 1, 2, 3, 4] (by decide) rfl
          exact ih2 (i2 + 1) (upd (fl (fun j => lowF 108 (tw j)) tw i2) i2 ((tw i2) - 30)) (by omega) (by omega) (by omega) (fl_succ (by show _ = lowF 108 (tw i2); simp [lowF, c5])) _ _ hP hD hS ls (lv_sub hl [0, 2] rfl)
  exact K2 (nm + 1) 0 tw (by omega) (by omega) (by omega) fl_0.symm _ _ hP hD hS ls hl

set_option maxHeartbeats 4000000 in
set_option maxRecDepth 100000 in
theorem t_makeEven (l : Launch) (D : va_G) (dA : Nat → ClassId) (E : Nat) (tt : Nat → Nat) (tw tp tx : Nat → Int32) (nm : Nat) (sz : Nat) (hnm : nm ≤ 84)  : Met l yX6_makeEven (wq (.code yX6_makeEven cX6_makeEven 2 none)) { frames := 1, cells := 0, slots := 0, locals := 22 } (va_Pc [.ref (tt 0)] (PcB D dA E [(tt 0, .inr (9, [.ref (tt 1), .ref (tt 3), .ref (tt 5), .int (nI nm)])), (tt 1, .inr (5, [.ref (tt 2)])), (tt 2, .inl (dA 0, 84, .inl tw)), (tt 3, .inr (5, [.ref (tt 4)])), (tt 4, .inl (dA 0, 84, .inl tp)), (tt 5, .inr (5, [.ref (tt 6)])), (tt 6, .inl (dA 0, 84, .inl tx))] sz)) (va_Qv (fun (u : Unit) => True) (fun u t => va_P D vwCl [(tt 0, .inr (9, [.ref (tt 1), .ref (tt 3), .ref (tt 5), .int (nI nm)])), (tt 1, .inr (5, [.ref (tt 2)])), (tt 2, .inl (dA 0, 84, .inl (fl (fun j => evF (tw j)) tw nm))), (tt 3, .inr (5, [.ref (tt 4)])), (tt 4, .inl (dA 0, 84, .inl tp)), (tt 5, .inr (5, [.ref (tt 6)])), (tt 6, .inl (dA 0, 84, .inl tx))] t.heap ∧ va_D (va_A [(tt 0, .inr (9, [.ref (tt 1), .ref (tt 3), .ref (tt 5), .int (nI nm)])), (tt 1, .inr (5, [.ref (tt 2)])), (tt 2, .inl (dA 0, 84, .inl tw)), (tt 3, .inr (5, [.ref (tt 4)])), (tt 4, .inl (dA 0, 84, .inl tp)), (tt 5, .inr (5, [.ref (tt 6)])), (tt 6, .inl (dA 0, 84, .inl tx))] sz) [(tt 0, .inr (9, [.ref (tt 1), .ref (tt 3), .ref (tt 5), .int (nI nm)])), (tt 1, .inr (5, [.ref (tt 2)])), (tt 2, .inl (dA 0, 84, .inl (fl (fun j => evF (tw j)) tw nm))), (tt 3, .inr (5, [.ref (tt 4)])), (tt 4, .inl (dA 0, 84, .inl tp)), (tt 5, .inr (5, [.ref (tt 6)])), (tt 6, .inl (dA 0, 84, .inl tx))]) (va_A [(tt 0, .inr (9, [.ref (tt 1), .ref (tt 3), .ref (tt 5), .int (nI nm)])), (tt 1, .inr (5, [.ref (tt 2)])), (tt 2, .inl (dA 0, 84, .inl tw)), (tt 3, .inr (5, [.ref (tt 4)])), (tt 4, .inl (dA 0, 84, .inl tp)), (tt 5, .inr (5, [.ref (tt 6)])), (tt 6, .inl (dA 0, 84, .inl tx))] sz)) 0 0 (va_A [(tt 0, .inr (9, [.ref (tt 1), .ref (tt 3), .ref (tt 5), .int (nI nm)])), (tt 1, .inr (5, [.ref (tt 2)])), (tt 2, .inl (dA 0, 84, .inl tw)), (tt 3, .inr (5, [.ref (tt 4)])), (tt 4, .inl (dA 0, 84, .inl tp)), (tt 5, .inr (5, [.ref (tt 6)])), (tt 6, .inl (dA 0, 84, .inl tx))] sz) := by
  refine mb_of (Qc := fun A => va_Qv (fun (u : Unit) => True) (fun u t => va_P D vwCl [(tt 0, .inr (9, [.ref (tt 1), .ref (tt 3), .ref (tt 5), .int (nI nm)])), (tt 1, .inr (5, [.ref (tt 2)])), (tt 2, .inl (dA 0, 84, .inl (fl (fun j => evF (tw j)) tw nm))), (tt 3, .inr (5, [.ref (tt 4)])), (tt 4, .inl (dA 0, 84, .inl tp)), (tt 5, .inr (5, [.ref (tt 6)])), (tt 6, .inl (dA 0, 84, .inl tx))] t.heap ∧ va_D A [(tt 0, .inr (9, [.ref (tt 1), .ref (tt 3), .ref (tt 5), .int (nI nm)])), (tt 1, .inr (5, [.ref (tt 2)])), (tt 2, .inl (dA 0, 84, .inl (fl (fun j => evF (tw j)) tw nm))), (tt 3, .inr (5, [.ref (tt 4)])), (tt 4, .inl (dA 0, 84, .inl tp)), (tt 5, .inr (5, [.ref (tt 6)])), (tt 6, .inl (dA 0, 84, .inl tx))]) A) RX6 rfl (by decide) (Nat.le_of_ble_eq_true rfl) ?_
  intro p e s m args below meth c hae hx hb hr hts hown hlocks hml hnm hP hK A hAe hD hZ hS hA ls hl
  have hl : lv_has ls 2 [(0, .ref (tt 0))] := hl
  refine lv_iconst (v := 0) hx hb dX6_makeEven_0 (by decide) ?_
  refine lv_istore_n (lv' := [(1, .int 0), (0, .ref (tt 0))]) hx hb dX6_makeEven_1 rfl hl (by decide) rfl (fun ls hl => ?_)
  have K2 : ∀ (k2 i2 : Nat) (g2_0 : Nat → Int32), 0 ≤ i2 → i2 ≤ nm → nm < i2 + k2 → (g2_0 = fl (fun j => evF (tw j)) tw i2) → ∀ (H : Heap) (locs : List Loc), va_P D vwCl [(tt 0, .inr (9, [.ref (tt 1), .ref (tt 3), .ref (tt 5), .int (nI nm)])), (tt 1, .inr (5, [.ref (tt 2)])), (tt 2, .inl (dA 0, 84, .inl g2_0)), (tt 3, .inr (5, [.ref (tt 4)])), (tt 4, .inl (dA 0, 84, .inl tp)), (tt 5, .inr (5, [.ref (tt 6)])), (tt 6, .inl (dA 0, 84, .inl tx))] H → va_D A [(tt 0, .inr (9, [.ref (tt 1), .ref (tt 3), .ref (tt 5), .int (nI nm)])), (tt 1, .inr (5, [.ref (tt 2)])), (tt 2, .inl (dA 0, 84, .inl g2_0)), (tt 3, .inr (5, [.ref (tt 4)])), (tt 4, .inl (dA 0, 84, .inl tp)), (tt 5, .inr (5, [.ref (tt 6)])), (tt 6, .inl (dA 0, 84, .inl tx))] → va_S A s.heap H locs → ∀ ls : Array Slot, lv_has ls 2 [(1, .int (nI i2)), (0, .ref (tt 0))] → W p l e { frames := 1, cells := 0, slots := 0, locals := 22 } s m args below meth c H locs 0 0 (MQ below (va_Qv (fun (u : Unit) => True) (fun u t => va_P D vwCl [(tt 0, .inr (9, [.ref (tt 1), .ref (tt 3), .ref (tt 5), .int (nI nm)])), (tt 1, .inr (5, [.ref (tt 2)])), (tt 2, .inl (dA 0, 84, .inl (fl (fun j => evF (tw j)) tw nm))), (tt 3, .inr (5, [.ref (tt 4)])), (tt 4, .inl (dA 0, 84, .inl tp)), (tt 5, .inr (5, [.ref (tt 6)])), (tt 6, .inl (dA 0, 84, .inl tx))] t.heap ∧ va_D A [(tt 0, .inr (9, [.ref (tt 1), .ref (tt 3), .ref (tt 5), .int (nI nm)])), (tt 1, .inr (5, [.ref (tt 2)])), (tt 2, .inl (dA 0, 84, .inl (fl (fun j => evF (tw j)) tw nm))), (tt 3, .inr (5, [.ref (tt 4)])), (tt 4, .inl (dA 0, 84, .inl tp)), (tt 5, .inr (5, [.ref (tt 6)])), (tt 6, .inl (dA 0, 84, .inl tx))]) A) args s 0 0 A) (F0 m 2 ls []) := by
    intro k2
    induction k2 with
    | zero => intro i2 g2_0 h1 h2 h3; exact absurd h3 (by omega)
    | succ k2 ih2 =>
      intro i2 g2_0 hlo2 hhi2 hms2 hinv2 H locs hP hD hS ls hl
      have eg2_0 := hinv2
      subst eg2_0
      refine lv_iload_n hx hb dX6_makeEven_2 rfl (lv_at hl 0 rfl) ?_
      refine lv_aload_n hx hb dX6_makeEven_3 rfl (lv_at hl 1 rfl) ?_
      refine va_get (D := D) (ci := 9) (v := .int (nI nm)) (C := RX6) (T := TX6) (N := 4) hx hb hts inAX6 hown hK hP 0 rfl rfl 3 (by decide) (hts _ q205) (fun _ h9 => h9) rfl dX6_makeEven_4 ?_
      refine lv_icmp_ge (tgt := 35) hx hb dX6_makeEven_7 (by decide) (fun c1 => ?_) (fun c1 => ?_)
      · replace c1 := (nI_leI (a := nm) (b := i2) (by omega) (by omega)).mp c1
        obtain rfl : nm = i2 := (by omega)
        have hP : va_P D vwCl [(tt 0, .inr (9, [.ref (tt 1), .ref (tt 3), .ref (tt 5), .int (nI nm)])), (tt 1, .inr (5, [.ref (tt 2)])), (tt 2, .inl (dA 0, 84, .inl (fl (fun j => evF (tw j)) tw nm))), (tt 3, .inr (5, [.ref (tt 4)])), (tt 4, .inl (dA 0, 84, .inl tp)), (tt 5, .inr (5, [.ref (tt 6)])), (tt 6, .inl (dA 0, 84, .inl tx))] H := hP
        have hD : va_D A [(tt 0, .inr (9, [.ref (tt 1), .ref (tt 3), .ref (tt 5), .int (nI nm)])), (tt 1, .inr (5, [.ref (tt 2)])), (tt 2, .inl (dA 0, 84, .inl (fl (fun j => evF (tw j)) tw nm))), (tt 3, .inr (5, [.ref (tt 4)])), (tt 4, .inl (dA 0, 84, .inl tp)), (tt 5, .inr (5, [.ref (tt 6)])), (tt 6, .inl (dA 0, 84, .inl tx))] := hD
        refine W.widen (k := 0) (n := 0) (Nat.le_of_ble_eq_true rfl) (Nat.le_of_ble_eq_true rfl) ?_
        have hP9 := hP.sub (ws' := [(tt 0, .inr (9, [.ref (tt 1), .ref (tt 3), .ref (tt 5), .int (nI nm)])), (tt 1, .inr (5, [.ref (tt 2)])), (tt 2, .inl (dA 0, 84, .inl (fl (fun j => evF (tw j)) tw nm))), (tt 3, .inr (5, [.ref (tt 4)])), (tt 4, .inl (dA 0, 84, .inl tp)), (tt 5, .inr (5, [.ref (tt 6)])), (tt 6, .inl (dA 0, 84, .inl tx))]) [0, 1, 2, 3, 4, 5, 6] rfl
        have hD9 := hD.sub (ws' := [(tt 0, .inr (9, [.ref (tt 1), .ref (tt 3), .ref (tt 5), .int (nI nm)])), (tt 1, .inr (5, [.ref (tt 2)])), (tt 2, .inl (dA 0, 84, .inl (fl (fun j => evF (tw j)) tw nm))), (tt 3, .inr (5, [.ref (tt 4)])), (tt 4, .inl (dA 0, 84, .inl tp)), (tt 5, .inr (5, [.ref (tt 6)])), (tt 6, .inl (dA 0, 84, .inl tx))]) [0, 1, 2, 3, 4, 5, 6] (by decide) rfl
        exact W.vret hx hb hr (fun t ht hW => ⟨⟨(), rfl, trivial, ⟨by rw [ht]; exact hP9, hD9⟩⟩, hS.F ht⟩) hS.2.2 dX6_makeEven_35
      · replace c1 := mt (nI_leI (a := nm) (b := i2) (by omega) (by omega)).mpr c1
        refine lv_aload_n hx hb dX6_makeEven_10 rfl (lv_at hl 1 rfl) ?_
        refine va_get (D := D) (ci := 9) (v := .ref (tt 1)) (C := RX6) (T := TX6) (N := 4) hx hb hts inAX6 hown hK hP 0 rfl rfl 0 (by decide) (hts _ q206) (fun _ h9 => h9) rfl dX6_makeEven_11 ?_
        refine lv_iload_n hx hb dX6_makeEven_14 rfl (lv_at hl 0 rfl) ?_
        refine lv_aload_n hx hb dX6_makeEven_15 rfl (lv_at hl 1 rfl) ?_
        refine va_get (D := D) (ci := 9) (v := .ref (tt 1)) (C := RX6) (T := TX6) (N := 4) hx hb hts inAX6 hown hK hP 0 rfl rfl 0 (by decide) (hts _ q206) (fun _ h9 => h9) rfl dX6_makeEven_16 ?_
        refine lv_iload_n hx hb dX6_makeEven_19 rfl (lv_at hl 0 rfl) ?_
        have hPc := hP.sub (ws' := [(tt 1, .inr (5, [.ref (tt 2)])), (tt 2, .inl (dA 0, 84, .inl (fl (fun j => evF (tw j)) tw i2)))]) [1, 2] rfl
        have hDc := hD.sub (ws' := [(tt 1, .inr (5, [.ref (tt 2)])), (tt 2, .inl (dA 0, 84, .inl (fl (fun j => evF (tw j)) tw i2)))]) [1, 2] (by decide) rfl
        have hFc := va_free (wc := [(tt 1, .inr (5, [.ref (tt 2)])), (tt 2, .inl (dA 0, 84, .inl (fl (fun j => evF (tw j)) tw i2)))]) hD hS hA [1, 2] rfl
        refine va_calli (va_runV (As := [.int (nI i2)]) (rest := [.int (nI i2), .ref (tt 1)]) ⟨hx, hb, hml, hown, hts⟩ (t_getN l D dA E (tt 1) (tt 2) 84 (fl (fun j => evF (tw j)) tw i2) i2 H.size  (by omega) (by decide)) (cwV 1 hts (ga_V q213 q203 q200 q204 q201) rfl rfl rfl (by decide +kernel) ⟨(Nat.le_of_ble_eq_true rfl), (Nat.le_of_ble_eq_true rfl)⟩) ⟨pb_blind, va_recv hK hPc (ci := 5) (q0 := 0) rfl rfl, pb_pre hK hPc hDc hZ hS hFc _⟩ rfl rfl hl.1 rfl (lv_room (Nat.le_of_ble_eq_true rfl)) dX6_makeEven_20 ⟨(Nat.le_of_ble_eq_true rfl), (Nat.le_of_ble_eq_true rfl)⟩) hS (fun q _ h => hFc q h) hFc (fun r u t H1 locs ht hvm hw hB hz1 hk1 hS => ?_)
        refine W.widen (k := 0) (n := 0) (Nat.le_of_ble_eq_true rfl) (Nat.le_of_ble_eq_true rfl) ?_
        obtain ⟨r2, rfl⟩ : ∃ z, z = r := ⟨_, rfl⟩
        obtain ⟨u3, rfl⟩ : ∃ z, z = u := ⟨_, rfl⟩
        have hw4 := hw
        clear hw
        obtain ⟨hP1, hD1⟩ := hB
        rw [ht] at hP1
        obtain ⟨hP, hD⟩ := va_join (wr := [(tt 0, .inr (9, [.ref (tt 1), .ref (tt 3), .ref (tt 5), .int (nI nm)])), (tt 3, .inr (5, [.ref (tt 4)])), (tt 4, .inl (dA 0, 84, .inl tp)), (tt 5, .inr (5, [.ref (tt 6)])), (tt 6, .inl (dA 0, 84, .inl tx))]) (w1 := [(tt 1, .inr (5, [.ref (tt 2)])), (tt 2, .inl (dA 0, 84, .inl (fl (fun j => evF (tw j)) tw i2)))]) hP hD [1, 2] [0, 3, 4, 5, 6] rfl rfl (by decide) (by decide) hk1 hFc hP1 hD1
        generalize H1 = H at hP hS ⊢
        have hP : va_P D vwCl [(tt 0, .inr (9, [.ref (tt 1), .ref (tt 3), .ref (tt 5), .int (nI nm)])), (tt 3, .inr (5, [.ref (tt 4)])), (tt 4, .inl (dA 0, 84, .inl tp)), (tt 5, .inr (5, [.ref (tt 6)])), (tt 6, .inl (dA 0, 84, .inl tx)), (tt 1, .inr (5, [.ref (tt 2)])), (tt 2, .inl (dA 0, 84, .inl (fl (fun j => evF (tw j)) tw i2)))] H := hP
        have hD : va_D A [(tt 0, .inr (9, [.ref (tt 1), .ref (tt 3), .ref (tt 5), .int (nI nm)])), (tt 3, .inr (5, [.ref (tt 4)])), (tt 4, .inl (dA 0, 84, .inl tp)), (tt 5, .inr (5, [.ref (tt 6)])), (tt 6, .inl (dA 0, 84, .inl tx)), (tt 1, .inr (5, [.ref (tt 2)])), (tt 2, .inl (dA 0, 84, .inl (fl (fun j => evF (tw j)) tw i2)))] := hD
        obtain rfl : r2 = tw i2 := (show r2 = (fl (fun j => evF (tw j)) tw i2) i2 from hw4).trans (fl_out (Nat.le_refl _))
        refine lv_bipush (v := (-2)) hx hb dX6_makeEven_23 (by decide) ?_
        refine lv_iand hx hb dX6_makeEven_25 ?_
        have hPc := hP.sub (ws' := [(tt 1, .inr (5, [.ref (tt 2)])), (tt 2, .inl (dA 0, 84, .inl (fl (fun j => evF (tw j)) tw i2)))]) [5, 6] rfl
        have hDc := hD.sub (ws' := [(tt 1, .inr (5, [.ref (tt 2)])), (tt 2, .inl (dA 0, 84, .inl (fl (fun j => evF (tw j)) tw i2)))]) [5, 6] (by decide) rfl
        have hFc := va_free (wc := [(tt 1, .inr (5, [.ref (tt 2)])), (tt 2, .inl (dA 0, 84, .inl (fl (fun j => evF (tw j)) tw i2)))]) hD hS hA [5, 6] rfl
        refine va_callv (va_runV (As := [.int (nI i2), .int ((tw i2) &&& (-2))]) (rest := []) ⟨hx, hb, hml, hown, hts⟩ (t_putN l D dA E (tt 1) (tt 2) 84 (fl (fun j => evF (tw j)) tw i2) i2 ((tw i2) &&& (-2)) H.size  (by omega) (by decide)) (cwV 2 hts (ga_V q209 q210 q207 q204 q208) rfl rfl rfl (by decide +kernel) ⟨(Nat.le_of_ble_eq_true rfl), (Nat.le_of_ble_eq_true rfl)⟩) ⟨pb_blind, va_recv hK hPc (ci := 5) (q0 := 0) rfl rfl, pb_pre hK hPc hDc hZ hS hFc _⟩ rfl rfl hl.1 rfl (lv_room (Nat.le_of_ble_eq_true rfl)) dX6_makeEven_26 ⟨(Nat.le_of_ble_eq_true rfl), (Nat.le_of_ble_eq_true rfl)⟩) hS (fun q _ h => hFc q h) hFc (fun u t H1 locs ht hvm hw hB hz1 hk1 hS => ?_)
        refine W.widen (k := 0) (n := 0) (Nat.le_of_ble_eq_true rfl) (Nat.le_of_ble_eq_true rfl) ?_
        obtain ⟨u5, rfl⟩ : ∃ z, z = u := ⟨_, rfl⟩
        have hw6 := hw
        clear hw
        obtain ⟨hP1, hD1⟩ := hB
        rw [ht] at hP1
        obtain ⟨hP, hD⟩ := va_join (wr := [(tt 0, .inr (9, [.ref (tt 1), .ref (tt 3), .ref (tt 5), .int (nI nm)])), (tt 3, .inr (5, [.ref (tt 4)])), (tt 4, .inl (dA 0, 84, .inl tp)), (tt 5, .inr (5, [.ref (tt 6)])), (tt 6, .inl (dA 0, 84, .inl tx))]) (w1 := [(tt 1, .inr (5, [.ref (tt 2)])), (tt 2, .inl (dA 0, 84, .inl (upd (fl (fun j => evF (tw j)) tw i2) i2 ((tw i2) &&& (-2)))))]) hP hD [5, 6] [0, 1, 2, 3, 4] rfl rfl (by decide) (by decide) hk1 hFc hP1 hD1
        generalize H1 = H at hP hS ⊢
        have hP : va_P D vwCl [(tt 0, .inr (9, [.ref (tt 1), .ref (tt 3), .ref (tt 5), .int (nI nm)])), (tt 3, .inr (5, [.ref (tt 4)])), (tt 4, .inl (dA 0, 84, .inl tp)), (tt 5, .inr (5, [.ref (tt 6)])), (tt 6, .inl (dA 0, 84, .inl tx)), (tt 1, .inr (5, [.ref (tt 2)])), (tt 2, .inl (dA 0, 84, .inl (upd (fl (fun j => evF (tw j)) tw i2) i2 ((tw i2) &&& (-2)))))] H := hP
        have hD : va_D A [(tt 0, .inr (9, [.ref (tt 1), .ref (tt 3), .ref (tt 5), .int (nI nm)])), (tt 3, .inr (5, [.ref (tt 4)])), (tt 4, .inl (dA 0, 84, .inl tp)), (tt 5, .inr (5, [.ref (tt 6)])), (tt 6, .inl (dA 0, 84, .inl tx)), (tt 1, .inr (5, [.ref (tt 2)])), (tt 2, .inl (dA 0, 84, .inl (upd (fl (fun j => evF (tw j)) tw i2) i2 ((tw i2) &&& (-2)))))] := hD
        refine lv_iinc (v := nI (i2 + 1)) (lv' := [(1, .int (nI (i2 + 1))), (0, .ref (tt 0))]) hx hb dX6_makeEven_29 hl (k := 0) rfl (nI_add i2 1) (by decide) rfl (fun ls hl => ?_)
        refine lv_goto (tgt := 2) hx hb dX6_makeEven_32 (by decide) ?_
        have hP := hP.sub (ws' := [(tt 0, .inr (9, [.ref (tt 1), .ref (tt 3), .ref (tt 5), .int (nI nm)])), (tt 1, .inr (5, [.ref (tt 2)])), (tt 2, .inl (dA 0, 84, .inl (upd (fl (fun j => evF (tw j)) tw i2) i2 ((tw i2) &&& (-2))))), (tt 3, .inr (5, [.ref (tt 4)])), (tt 4, .inl (dA 0, 84, .inl tp)), (tt 5, .inr (5, [.ref (tt 6)])), (tt 6, .inl (dA 0, 84, .inl tx))]) [0, 5, 6, 1, 2, 3, 4] rfl
        have hD := hD.sub (ws' := [(tt 0, .inr (9, [.ref (tt 1), .ref (tt 3), .ref (tt 5), .int (nI nm)])), (tt 1, .inr (5, [.ref (tt 2)])), (tt 2, .inl (dA 0, 84, .inl (upd (fl (fun j => evF (tw j)) tw i2) i2 ((tw i2) &&& (-2))))), (tt 3, .inr (5, [.ref (tt 4)])), (tt 4, .inl (dA 0, 84, .inl tp)), (tt 5, .inr (5, [.ref (tt 6)])), (tt 6, .inl (dA 0, 84, .inl tx))]) [0, 5, 6, 1, 2, 3, 4] (by decide) rfl
        exact ih2 (i2 + 1) (upd (fl (fun j => evF (tw j)) tw i2) i2 ((tw i2) &&& (-2))) (by omega) (by omega) (by omega) (fl_succ rfl) _ _ hP hD hS ls (lv_sub hl [0, 1] rfl)
  exact K2 (nm + 1) 0 tw (by omega) (by omega) (by omega) fl_0.symm _ _ hP hD hS ls hl

set_option maxHeartbeats 4000000 in
set_option maxRecDepth 100000 in
theorem t_takeOut (l : Launch) (D : va_G) (dA : Nat → ClassId) (E : Nat) (tt : Nat → Nat) (tw tp tx : Nat → Int32) (nm : Nat) (p0 : Int32) (sz : Nat) (hnm : nm ≤ 84)  : Met l yX6_takeOut (wq (.code yX6_takeOut cX6_takeOut 4 none)) { frames := 1, cells := 0, slots := 0, locals := 22 } (va_Pc [.ref (tt 0), .int p0] (PcB D dA E [(tt 0, .inr (9, [.ref (tt 1), .ref (tt 3), .ref (tt 5), .int (nI nm)])), (tt 1, .inr (5, [.ref (tt 2)])), (tt 2, .inl (dA 0, 84, .inl tw)), (tt 3, .inr (5, [.ref (tt 4)])), (tt 4, .inl (dA 0, 84, .inl tp)), (tt 5, .inr (5, [.ref (tt 6)])), (tt 6, .inl (dA 0, 84, .inl tx))] sz)) (va_Qv (fun (u : Unit) => True) (fun u t => va_P D vwCl [(tt 0, .inr (9, [.ref (tt 1), .ref (tt 3), .ref (tt 5), .int (nI (kpt tw p0 nm))])), (tt 1, .inr (5, [.ref (tt 2)])), (tt 2, .inl (dA 0, 84, .inl (cmp tw p0 tw tw nm))), (tt 3, .inr (5, [.ref (tt 4)])), (tt 4, .inl (dA 0, 84, .inl (cmp tw p0 tp tp nm))), (tt 5, .inr (5, [.ref (tt 6)])), (tt 6, .inl (dA 0, 84, .inl (cmp tw p0 tx tx nm)))] t.heap ∧ va_D (va_A [(tt 0, .inr (9, [.ref (tt 1), .ref (tt 3), .ref (tt 5), .int (nI nm)])), (tt 1, .inr (5, [.ref (tt 2)])), (tt 2, .inl (dA 0, 84, .inl tw)), (tt 3, .inr (5, [.ref (tt 4)])), (tt 4, .inl (dA 0, 84, .inl tp)), (tt 5, .inr (5, [.ref (tt 6)])), (tt 6, .inl (dA 0, 84, .inl tx))] sz) [(tt 0, .inr (9, [.ref (tt 1), .ref (tt 3), .ref (tt 5), .int (nI (kpt tw p0 nm))])), (tt 1, .inr (5, [.ref (tt 2)])), (tt 2, .inl (dA 0, 84, .inl (cmp tw p0 tw tw nm))), (tt 3, .inr (5, [.ref (tt 4)])), (tt 4, .inl (dA 0, 84, .inl (cmp tw p0 tp tp nm))), (tt 5, .inr (5, [.ref (tt 6)])), (tt 6, .inl (dA 0, 84, .inl (cmp tw p0 tx tx nm)))]) (va_A [(tt 0, .inr (9, [.ref (tt 1), .ref (tt 3), .ref (tt 5), .int (nI nm)])), (tt 1, .inr (5, [.ref (tt 2)])), (tt 2, .inl (dA 0, 84, .inl tw)), (tt 3, .inr (5, [.ref (tt 4)])), (tt 4, .inl (dA 0, 84, .inl tp)), (tt 5, .inr (5, [.ref (tt 6)])), (tt 6, .inl (dA 0, 84, .inl tx))] sz)) 0 0 (va_A [(tt 0, .inr (9, [.ref (tt 1), .ref (tt 3), .ref (tt 5), .int (nI nm)])), (tt 1, .inr (5, [.ref (tt 2)])), (tt 2, .inl (dA 0, 84, .inl tw)), (tt 3, .inr (5, [.ref (tt 4)])), (tt 4, .inl (dA 0, 84, .inl tp)), (tt 5, .inr (5, [.ref (tt 6)])), (tt 6, .inl (dA 0, 84, .inl tx))] sz) := by
  refine mb_of (Qc := fun A => va_Qv (fun (u : Unit) => True) (fun u t => va_P D vwCl [(tt 0, .inr (9, [.ref (tt 1), .ref (tt 3), .ref (tt 5), .int (nI (kpt tw p0 nm))])), (tt 1, .inr (5, [.ref (tt 2)])), (tt 2, .inl (dA 0, 84, .inl (cmp tw p0 tw tw nm))), (tt 3, .inr (5, [.ref (tt 4)])), (tt 4, .inl (dA 0, 84, .inl (cmp tw p0 tp tp nm))), (tt 5, .inr (5, [.ref (tt 6)])), (tt 6, .inl (dA 0, 84, .inl (cmp tw p0 tx tx nm)))] t.heap ∧ va_D A [(tt 0, .inr (9, [.ref (tt 1), .ref (tt 3), .ref (tt 5), .int (nI (kpt tw p0 nm))])), (tt 1, .inr (5, [.ref (tt 2)])), (tt 2, .inl (dA 0, 84, .inl (cmp tw p0 tw tw nm))), (tt 3, .inr (5, [.ref (tt 4)])), (tt 4, .inl (dA 0, 84, .inl (cmp tw p0 tp tp nm))), (tt 5, .inr (5, [.ref (tt 6)])), (tt 6, .inl (dA 0, 84, .inl (cmp tw p0 tx tx nm)))]) A) RX6 rfl (by decide) (Nat.le_of_ble_eq_true rfl) ?_
  intro p e s m args below meth c hae hx hb hr hts hown hlocks hml hnm hP hK A hAe hD hZ hS hA ls hl
  have hl : lv_has ls 4 [(0, .ref (tt 0)), (1, .int p0)] := hl
  refine lv_iconst (v := 0) hx hb dX6_takeOut_0 (by decide) ?_
  refine lv_istore_n (lv' := [(2, .int 0), (0, .ref (tt 0)), (1, .int p0)]) hx hb dX6_takeOut_1 rfl hl (by decide) rfl (fun ls hl => ?_)
  refine lv_iconst (v := 0) hx hb dX6_takeOut_2 (by decide) ?_
  refine lv_istore_n (lv' := [(3, .int 0), (2, .int 0), (0, .ref (tt 0)), (1, .int p0)]) hx hb dX6_takeOut_3 rfl hl (by decide) rfl (fun ls hl => ?_)
  have K4 : ∀ (k4 i4 : Nat) (g4_0 : Nat → Int32) (g4_1 : Nat → Int32) (g4_2 : Nat → Int32) (g4_3 : Int32), 0 ≤ i4 → i4 ≤ nm → nm < i4 + k4 → (g4_0 = cmp tw p0 tw tw i4) ∧ (g4_1 = cmp tw p0 tp tp i4) ∧ (g4_2 = cmp tw p0 tx tx i4) ∧ (g4_3 = nI (kpt tw p0 i4)) → ∀ (H : Heap) (locs : List Loc), va_P D vwCl [(tt 0, .inr (9, [.ref (tt 1), .ref (tt 3), .ref (tt 5), .int (nI nm)])), (tt 1, .inr (5, [.ref (tt 2)])), (tt 2, .inl (dA 0, 84, .inl g4_0)), (tt 3, .inr (5, [.ref (tt 4)])), (tt 4, .inl (dA 0, 84, .inl g4_1)), (tt 5, .inr (5, [.ref (tt 6)])), (tt 6, .inl (dA 0, 84, .inl g4_2))] H → va_D A [(tt 0, .inr (9, [.ref (tt 1), .ref (tt 3), .ref (tt 5), .int (nI nm)])), (tt 1, .inr (5, [.ref (tt 2)])), (tt 2, .inl (dA 0, 84, .inl g4_0)), (tt 3, .inr (5, [.ref (tt 4)])), (tt 4, .inl (dA 0, 84, .inl g4_1)), (tt 5, .inr (5, [.ref (tt 6)])), (tt 6, .inl (dA 0, 84, .inl g4_2))] → va_S A s.heap H locs → ∀ ls : Array Slot, lv_has ls 4 [(3, .int (nI i4)), (2, .int g4_3), (0, .ref (tt 0)), (1, .int p0)] → W p l e { frames := 1, cells := 0, slots := 0, locals := 22 } s m args below meth c H locs 0 0 (MQ below (va_Qv (fun (u : Unit) => True) (fun u t => va_P D vwCl [(tt 0, .inr (9, [.ref (tt 1), .ref (tt 3), .ref (tt 5), .int (nI (kpt tw p0 nm))])), (tt 1, .inr (5, [.ref (tt 2)])), (tt 2, .inl (dA 0, 84, .inl (cmp tw p0 tw tw nm))), (tt 3, .inr (5, [.ref (tt 4)])), (tt 4, .inl (dA 0, 84, .inl (cmp tw p0 tp tp nm))), (tt 5, .inr (5, [.ref (tt 6)])), (tt 6, .inl (dA 0, 84, .inl (cmp tw p0 tx tx nm)))] t.heap ∧ va_D A [(tt 0, .inr (9, [.ref (tt 1), .ref (tt 3), .ref (tt 5), .int (nI (kpt tw p0 nm))])), (tt 1, .inr (5, [.ref (tt 2)])), (tt 2, .inl (dA 0, 84, .inl (cmp tw p0 tw tw nm))), (tt 3, .inr (5, [.ref (tt 4)])), (tt 4, .inl (dA 0, 84, .inl (cmp tw p0 tp tp nm))), (tt 5, .inr (5, [.ref (tt 6)])), (tt 6, .inl (dA 0, 84, .inl (cmp tw p0 tx tx nm)))]) A) args s 0 0 A) (F0 m 4 ls []) := by
    intro k4
    induction k4 with
    | zero => intro i4 g4_0 g4_1 g4_2 g4_3 h1 h2 h3; exact absurd h3 (by omega)
    | succ k4 ih4 =>
      intro i4 g4_0 g4_1 g4_2 g4_3 hlo4 hhi4 hms4 hinv4 H locs hP hD hS ls hl
      obtain ⟨eg4_0, eg4_1, eg4_2, eg4_3⟩ := hinv4
      subst eg4_0
      subst eg4_1
      subst eg4_2
      subst eg4_3
      have hkp := kpt_le tw p0 i4
      refine lv_iload_n hx hb dX6_takeOut_4 rfl (lv_at hl 0 rfl) ?_
      refine lv_aload_n hx hb dX6_takeOut_5 rfl (lv_at hl 2 rfl) ?_
      refine va_get (D := D) (ci := 9) (v := .int (nI nm)) (C := RX6) (T := TX6) (N := 4) hx hb hts inAX6 hown hK hP 0 rfl rfl 3 (by decide) (hts _ q205) (fun _ h9 => h9) rfl dX6_takeOut_6 ?_
      refine lv_icmp_ge (tgt := 84) hx hb dX6_takeOut_9 (by decide) (fun c1 => ?_) (fun c1 => ?_)
      · replace c1 := (nI_leI (a := nm) (b := i4) (by omega) (by omega)).mp c1
        obtain rfl : nm = i4 := (by omega)
        have hP : va_P D vwCl [(tt 0, .inr (9, [.ref (tt 1), .ref (tt 3), .ref (tt 5), .int (nI nm)])), (tt 1, .inr (5, [.ref (tt 2)])), (tt 2, .inl (dA 0, 84, .inl (cmp tw p0 tw tw nm))), (tt 3, .inr (5, [.ref (tt 4)])), (tt 4, .inl (dA 0, 84, .inl (cmp tw p0 tp tp nm))), (tt 5, .inr (5, [.ref (tt 6)])), (tt 6, .inl (dA 0, 84, .inl (cmp tw p0 tx tx nm)))] H := hP
        have hD : va_D A [(tt 0, .inr (9, [.ref (tt 1), .ref (tt 3), .ref (tt 5), .int (nI nm)])), (tt 1, .inr (5, [.ref (tt 2)])), (tt 2, .inl (dA 0, 84, .inl (cmp tw p0 tw tw nm))), (tt 3, .inr (5, [.ref (tt 4)])), (tt 4, .inl (dA 0, 84, .inl (cmp tw p0 tp tp nm))), (tt 5, .inr (5, [.ref (tt 6)])), (tt 6, .inl (dA 0, 84, .inl (cmp tw p0 tx tx nm)))] := hD
        refine lv_aload_n hx hb dX6_takeOut_84 rfl (lv_at hl 2 rfl) ?_
        refine lv_iload_n hx hb dX6_takeOut_85 rfl (lv_at hl 1 rfl) ?_
        refine va_put (D := D) (ci := 9) (v := .int (nI (kpt tw p0 nm))) (ty := .int) (C := RX6) (T := TX6) (N := 4) hx hb hts inAX6 tyX6 tyX6_ok nmX6 hown hK hP hD hS 0 rfl rfl 3 (by decide) (hts _ q205) (fun _ h9 => h9) rfl (tyX6_ok 3 (by decide)) rfl rfl (Nat.le_of_ble_eq_true rfl) dX6_takeOut_86 (fun H locs hP hD hS => ?_)
        have hP : va_P D vwCl [(tt 0, .inr (9, [.ref (tt 1), .ref (tt 3), .ref (tt 5), .int (nI (kpt tw p0 nm))])), (tt 1, .inr (5, [.ref (tt 2)])), (tt 2, .inl (dA 0, 84, .inl (cmp tw p0 tw tw nm))), (tt 3, .inr (5, [.ref (tt 4)])), (tt 4, .inl (dA 0, 84, .inl (cmp tw p0 tp tp nm))), (tt 5, .inr (5, [.ref (tt 6)])), (tt 6, .inl (dA 0, 84, .inl (cmp tw p0 tx tx nm)))] H := hP
        have hD : va_D A [(tt 0, .inr (9, [.ref (tt 1), .ref (tt 3), .ref (tt 5), .int (nI (kpt tw p0 nm))])), (tt 1, .inr (5, [.ref (tt 2)])), (tt 2, .inl (dA 0, 84, .inl (cmp tw p0 tw tw nm))), (tt 3, .inr (5, [.ref (tt 4)])), (tt 4, .inl (dA 0, 84, .inl (cmp tw p0 tp tp nm))), (tt 5, .inr (5, [.ref (tt 6)])), (tt 6, .inl (dA 0, 84, .inl (cmp tw p0 tx tx nm)))] := hD
        refine W.widen (k := 0) (n := 0) (Nat.le_of_ble_eq_true rfl) (Nat.le_of_ble_eq_true rfl) ?_
        have hP9 := hP.sub (ws' := [(tt 0, .inr (9, [.ref (tt 1), .ref (tt 3), .ref (tt 5), .int (nI (kpt tw p0 nm))])), (tt 1, .inr (5, [.ref (tt 2)])), (tt 2, .inl (dA 0, 84, .inl (cmp tw p0 tw tw nm))), (tt 3, .inr (5, [.ref (tt 4)])), (tt 4, .inl (dA 0, 84, .inl (cmp tw p0 tp tp nm))), (tt 5, .inr (5, [.ref (tt 6)])), (tt 6, .inl (dA 0, 84, .inl (cmp tw p0 tx tx nm)))]) [0, 1, 2, 3, 4, 5, 6] rfl
        have hD9 := hD.sub (ws' := [(tt 0, .inr (9, [.ref (tt 1), .ref (tt 3), .ref (tt 5), .int (nI (kpt tw p0 nm))])), (tt 1, .inr (5, [.ref (tt 2)])), (tt 2, .inl (dA 0, 84, .inl (cmp tw p0 tw tw nm))), (tt 3, .inr (5, [.ref (tt 4)])), (tt 4, .inl (dA 0, 84, .inl (cmp tw p0 tp tp nm))), (tt 5, .inr (5, [.ref (tt 6)])), (tt 6, .inl (dA 0, 84, .inl (cmp tw p0 tx tx nm)))]) [0, 1, 2, 3, 4, 5, 6] (by decide) rfl
        exact W.vret hx hb hr (fun t ht hW => ⟨⟨(), rfl, trivial, ⟨by rw [ht]; exact hP9, hD9⟩⟩, hS.F ht⟩) hS.2.2 dX6_takeOut_89
      · replace c1 := mt (nI_leI (a := nm) (b := i4) (by omega) (by omega)).mpr c1
        refine lv_aload_n hx hb dX6_takeOut_12 rfl (lv_at hl 2 rfl) ?_
        refine va_get (D := D) (ci := 9) (v := .ref (tt 1)) (C := RX6) (T := TX6) (N := 4) hx hb hts inAX6 hown hK hP 0 rfl rfl 0 (by decide) (hts _ q206) (fun _ h9 => h9) rfl dX6_takeOut_13 ?_
        refine lv_iload_n hx hb dX6_takeOut_16 rfl (lv_at hl 0 rfl) ?_
        have hPc := hP.sub (ws' := [(tt 1, .inr (5, [.ref (tt 2)])), (tt 2, .inl (dA 0, 84, .inl (cmp tw p0 tw tw i4)))]) [1, 2] rfl
        have hDc := hD.sub (ws' := [(tt 1, .inr (5, [.ref (tt 2)])), (tt 2, .inl (dA 0, 84, .inl (cmp tw p0 tw tw i4)))]) [1, 2] (by decide) rfl
        have hFc := va_free (wc := [(tt 1, .inr (5, [.ref (tt 2)])), (tt 2, .inl (dA 0, 84, .inl (cmp tw p0 tw tw i4)))]) hD hS hA [1, 2] rfl
        refine va_calli (va_runV (As := [.int (nI i4)]) (rest := []) ⟨hx, hb, hml, hown, hts⟩ (t_getN l D dA E (tt 1) (tt 2) 84 (cmp tw p0 tw tw i4) i4 H.size  (by omega) (by decide)) (cwV 1 hts (ga_V q213 q203 q200 q204 q201) rfl rfl rfl (by decide +kernel) ⟨(Nat.le_of_ble_eq_true rfl), (Nat.le_of_ble_eq_true rfl)⟩) ⟨pb_blind, va_recv hK hPc (ci := 5) (q0 := 0) rfl rfl, pb_pre hK hPc hDc hZ hS hFc _⟩ rfl rfl hl.1 rfl (lv_room (Nat.le_of_ble_eq_true rfl)) dX6_takeOut_17 ⟨(Nat.le_of_ble_eq_true rfl), (Nat.le_of_ble_eq_true rfl)⟩) hS (fun q _ h => hFc q h) hFc (fun r u t H1 locs ht hvm hw hB hz1 hk1 hS => ?_)
        refine W.widen (k := 0) (n := 0) (Nat.le_of_ble_eq_true rfl) (Nat.le_of_ble_eq_true rfl) ?_
        obtain ⟨r2, rfl⟩ : ∃ z, z = r := ⟨_, rfl⟩
        obtain ⟨u3, rfl⟩ : ∃ z, z = u := ⟨_, rfl⟩
        have hw4 := hw
        clear hw
        obtain ⟨hP1, hD1⟩ := hB
        rw [ht] at hP1
        obtain ⟨hP, hD⟩ := va_join (wr := [(tt 0, .inr (9, [.ref (tt 1), .ref (tt 3), .ref (tt 5), .int (nI nm)])), (tt 3, .inr (5, [.ref (tt 4)])), (tt 4, .inl (dA 0, 84, .inl (cmp tw p0 tp tp i4))), (tt 5, .inr (5, [.ref (tt 6)])), (tt 6, .inl (dA 0, 84, .inl (cmp tw p0 tx tx i4)))]) (w1 := [(tt 1, .inr (5, [.ref (tt 2)])), (tt 2, .inl (dA 0, 84, .inl (cmp tw p0 tw tw i4)))]) hP hD [1, 2] [0, 3, 4, 5, 6] rfl rfl (by decide) (by decide) hk1 hFc hP1 hD1
        generalize H1 = H at hP hS ⊢
        have hP : va_P D vwCl [(tt 0, .inr (9, [.ref (tt 1), .ref (tt 3), .ref (tt 5), .int (nI nm)])), (tt 3, .inr (5, [.ref (tt 4)])), (tt 4, .inl (dA 0, 84, .inl (cmp tw p0 tp tp i4))), (tt 5, .inr (5, [.ref (tt 6)])), (tt 6, .inl (dA 0, 84, .inl (cmp tw p0 tx tx i4))), (tt 1, .inr (5, [.ref (tt 2)])), (tt 2, .inl (dA 0, 84, .inl (cmp tw p0 tw tw i4)))] H := hP
        have hD : va_D A [(tt 0, .inr (9, [.ref (tt 1), .ref (tt 3), .ref (tt 5), .int (nI nm)])), (tt 3, .inr (5, [.ref (tt 4)])), (tt 4, .inl (dA 0, 84, .inl (cmp tw p0 tp tp i4))), (tt 5, .inr (5, [.ref (tt 6)])), (tt 6, .inl (dA 0, 84, .inl (cmp tw p0 tx tx i4))), (tt 1, .inr (5, [.ref (tt 2)])), (tt 2, .inl (dA 0, 84, .inl (cmp tw p0 tw tw i4)))] := hD
        obtain rfl : r2 = tw i4 := (show r2 = (cmp tw p0 tw tw i4) i4 from hw4).trans (cmp_at (Nat.le_refl _))
        refine lv_iload_n hx hb dX6_takeOut_20 rfl (lv_at hl 3 rfl) ?_
        refine lv_icmp_ne (tgt := 27) hx hb dX6_takeOut_21 (by decide) (fun c5 => ?_) (fun c5 => ?_)
        · refine lv_aload_n hx hb dX6_takeOut_27 rfl (lv_at hl 2 rfl) ?_
          refine va_get (D := D) (ci := 9) (v := .ref (tt 1)) (C := RX6) (T := TX6) (N := 4) hx hb hts inAX6 hown hK hP 0 rfl rfl 0 (by decide) (hts _ q206) (fun _ h9 => h9) rfl dX6_takeOut_28 ?_
          refine lv_iload_n hx hb dX6_takeOut_31 rfl (lv_at hl 1 rfl) ?_
          refine lv_aload_n hx hb dX6_takeOut_32 rfl (lv_at hl 2 rfl) ?_
          refine va_get (D := D) (ci := 9) (v := .ref (tt 1)) (C := RX6) (T := TX6) (N := 4) hx hb hts inAX6 hown hK hP 0 rfl rfl 0 (by decide) (hts _ q206) (fun _ h9 => h9) rfl dX6_takeOut_33 ?_
          refine lv_iload_n hx hb dX6_takeOut_36 rfl (lv_at hl 0 rfl) ?_
          have hPc := hP.sub (ws' := [(tt 1, .inr (5, [.ref (tt 2)])), (tt 2, .inl (dA 0, 84, .inl (cmp tw p0 tw tw i4)))]) [5, 6] rfl
          have hDc := hD.sub (ws' := [(tt 1, .inr (5, [.ref (tt 2)])), (tt 2, .inl (dA 0, 84, .inl (cmp tw p0 tw tw i4)))]) [5, 6] (by decide) rfl
          have hFc := va_free (wc := [(tt 1, .inr (5, [.ref (tt 2)])), (tt 2, .inl (dA 0, 84, .inl (cmp tw p0 tw tw i4)))]) hD hS hA [5, 6] rfl
          refine va_calli (va_runV (As := [.int (nI i4)]) (rest := [.int (nI (kpt tw p0 i4)), .ref (tt 1)]) ⟨hx, hb, hml, hown, hts⟩ (t_getN l D dA E (tt 1) (tt 2) 84 (cmp tw p0 tw tw i4) i4 H.size  (by omega) (by decide)) (cwV 1 hts (ga_V q213 q203 q200 q204 q201) rfl rfl rfl (by decide +kernel) ⟨(Nat.le_of_ble_eq_true rfl), (Nat.le_of_ble_eq_true rfl)⟩) ⟨pb_blind, va_recv hK hPc (ci := 5) (q0 := 0) rfl rfl, pb_pre hK hPc hDc hZ hS hFc _⟩ rfl rfl hl.1 rfl (lv_room (Nat.le_of_ble_eq_true rfl)) dX6_takeOut_37 ⟨(Nat.le_of_ble_eq_true rfl), (Nat.le_of_ble_eq_true rfl)⟩) hS (fun q _ h => hFc q h) hFc (fun r u t H1 locs ht hvm hw hB hz1 hk1 hS => ?_)
          refine W.widen (k := 0) (n := 0) (Nat.le_of_ble_eq_true rfl) (Nat.le_of_ble_eq_true rfl) ?_
          obtain ⟨r6, rfl⟩ : ∃ z, z = r := ⟨_, rfl⟩
          obtain ⟨u7, rfl⟩ : ∃ z, z = u := ⟨_, rfl⟩
          have hw8 := hw
          clear hw
          obtain ⟨hP1, hD1⟩ := hB
          rw [ht] at hP1
          obtain ⟨hP, hD⟩ := va_join (wr := [(tt 0, .inr (9, [.ref (tt 1), .ref (tt 3), .ref (tt 5), .int (nI nm)])), (tt 3, .inr (5, [.ref (tt 4)])), (tt 4, .inl (dA 0, 84, .inl (cmp tw p0 tp tp i4))), (tt 5, .inr (5, [.ref (tt 6)])), (tt 6, .inl (dA 0, 84, .inl (cmp tw p0 tx tx i4)))]) (w1 := [(tt 1, .inr (5, [.ref (tt 2)])), (tt 2, .inl (dA 0, 84, .inl (cmp tw p0 tw tw i4)))]) hP hD [5, 6] [0, 1, 2, 3, 4] rfl rfl (by decide) (by decide) hk1 hFc hP1 hD1
          generalize H1 = H at hP hS ⊢
          have hP : va_P D vwCl [(tt 0, .inr (9, [.ref (tt 1), .ref (tt 3), .ref (tt 5), .int (nI nm)])), (tt 3, .inr (5, [.ref (tt 4)])), (tt 4, .inl (dA 0, 84, .inl (cmp tw p0 tp tp i4))), (tt 5, .inr (5, [.ref (tt 6)])), (tt 6, .inl (dA 0, 84, .inl (cmp tw p0 tx tx i4))), (tt 1, .inr (5, [.ref (tt 2)])), (tt 2, .inl (dA 0, 84, .inl (cmp tw p0 tw tw i4)))] H := hP
          have hD : va_D A [(tt 0, .inr (9, [.ref (tt 1), .ref (tt 3), .ref (tt 5), .int (nI nm)])), (tt 3, .inr (5, [.ref (tt 4)])), (tt 4, .inl (dA 0, 84, .inl (cmp tw p0 tp tp i4))), (tt 5, .inr (5, [.ref (tt 6)])), (tt 6, .inl (dA 0, 84, .inl (cmp tw p0 tx tx i4))), (tt 1, .inr (5, [.ref (tt 2)])), (tt 2, .inl (dA 0, 84, .inl (cmp tw p0 tw tw i4)))] := hD
          obtain rfl : r6 = tw i4 := (show r6 = (cmp tw p0 tw tw i4) i4 from hw8).trans (cmp_at (Nat.le_refl _))
          have hPc := hP.sub (ws' := [(tt 1, .inr (5, [.ref (tt 2)])), (tt 2, .inl (dA 0, 84, .inl (cmp tw p0 tw tw i4)))]) [5, 6] rfl
          have hDc := hD.sub (ws' := [(tt 1, .inr (5, [.ref (tt 2)])), (tt 2, .inl (dA 0, 84, .inl (cmp tw p0 tw tw i4)))]) [5, 6] (by decide) rfl
          have hFc := va_free (wc := [(tt 1, .inr (5, [.ref (tt 2)])), (tt 2, .inl (dA 0, 84, .inl (cmp tw p0 tw tw i4)))]) hD hS hA [5, 6] rfl
          refine va_callv (va_runV (As := [.int (nI (kpt tw p0 i4)), .int (tw i4)]) (rest := []) ⟨hx, hb, hml, hown, hts⟩ (t_putN l D dA E (tt 1) (tt 2) 84 (cmp tw p0 tw tw i4) (kpt tw p0 i4) (tw i4) H.size  (by omega) (by decide)) (cwV 2 hts (ga_V q209 q210 q207 q204 q208) rfl rfl rfl (by decide +kernel) ⟨(Nat.le_of_ble_eq_true rfl), (Nat.le_of_ble_eq_true rfl)⟩) ⟨pb_blind, va_recv hK hPc (ci := 5) (q0 := 0) rfl rfl, pb_pre hK hPc hDc hZ hS hFc _⟩ rfl rfl hl.1 rfl (lv_room (Nat.le_of_ble_eq_true rfl)) dX6_takeOut_40 ⟨(Nat.le_of_ble_eq_true rfl), (Nat.le_of_ble_eq_true rfl)⟩) hS (fun q _ h => hFc q h) hFc (fun u t H1 locs ht hvm hw hB hz1 hk1 hS => ?_)
          refine W.widen (k := 0) (n := 0) (Nat.le_of_ble_eq_true rfl) (Nat.le_of_ble_eq_true rfl) ?_
          obtain ⟨u9, rfl⟩ : ∃ z, z = u := ⟨_, rfl⟩
          have hw10 := hw
          clear hw
          obtain ⟨hP1, hD1⟩ := hB
          rw [ht] at hP1
          obtain ⟨hP, hD⟩ := va_join (wr := [(tt 0, .inr (9, [.ref (tt 1), .ref (tt 3), .ref (tt 5), .int (nI nm)])), (tt 3, .inr (5, [.ref (tt 4)])), (tt 4, .inl (dA 0, 84, .inl (cmp tw p0 tp tp i4))), (tt 5, .inr (5, [.ref (tt 6)])), (tt 6, .inl (dA 0, 84, .inl (cmp tw p0 tx tx i4)))]) (w1 := [(tt 1, .inr (5, [.ref (tt 2)])), (tt 2, .inl (dA 0, 84, .inl (upd (cmp tw p0 tw tw i4) (kpt tw p0 i4) (tw i4))))]) hP hD [5, 6] [0, 1, 2, 3, 4] rfl rfl (by decide) (by decide) hk1 hFc hP1 hD1
          generalize H1 = H at hP hS ⊢
          have hP : va_P D vwCl [(tt 0, .inr (9, [.ref (tt 1), .ref (tt 3), .ref (tt 5), .int (nI nm)])), (tt 3, .inr (5, [.ref (tt 4)])), (tt 4, .inl (dA 0, 84, .inl (cmp tw p0 tp tp i4))), (tt 5, .inr (5, [.ref (tt 6)])), (tt 6, .inl (dA 0, 84, .inl (cmp tw p0 tx tx i4))), (tt 1, .inr (5, [.ref (tt 2)])), (tt 2, .inl (dA 0, 84, .inl (upd (cmp tw p0 tw tw i4) (kpt tw p0 i4) (tw i4))))] H := hP
          have hD : va_D A [(tt 0, .inr (9, [.ref (tt 1), .ref (tt 3), .ref (tt 5), .int (nI nm)])), (tt 3, .inr (5, [.ref (tt 4)])), (tt 4, .inl (dA 0, 84, .inl (cmp tw p0 tp tp i4))), (tt 5, .inr (5, [.ref (tt 6)])), (tt 6, .inl (dA 0, 84, .inl (cmp tw p0 tx tx i4))), (tt 1, .inr (5, [.ref (tt 2)])), (tt 2, .inl (dA 0, 84, .inl (upd (cmp tw p0 tw tw i4) (kpt tw p0 i4) (tw i4))))] := hD
          refine lv_aload_n hx hb dX6_takeOut_43 rfl (lv_at hl 2 rfl) ?_
          refine va_get (D := D) (ci := 9) (v := .ref (tt 3)) (C := RX6) (T := TX6) (N := 4) hx hb hts inAX6 hown hK hP 0 rfl rfl 1 (by decide) (hts _ q211) (fun _ h9 => h9) rfl dX6_takeOut_44 ?_
          refine lv_iload_n hx hb dX6_takeOut_47 rfl (lv_at hl 1 rfl) ?_
          refine lv_aload_n hx hb dX6_takeOut_48 rfl (lv_at hl 2 rfl) ?_
          refine va_get (D := D) (ci := 9) (v := .ref (tt 3)) (C := RX6) (T := TX6) (N := 4) hx hb hts inAX6 hown hK hP 0 rfl rfl 1 (by decide) (hts _ q211) (fun _ h9 => h9) rfl dX6_takeOut_49 ?_
          refine lv_iload_n hx hb dX6_takeOut_52 rfl (lv_at hl 0 rfl) ?_
          have hPc := hP.sub (ws' := [(tt 3, .inr (5, [.ref (tt 4)])), (tt 4, .inl (dA 0, 84, .inl (cmp tw p0 tp tp i4)))]) [1, 2] rfl
          have hDc := hD.sub (ws' := [(tt 3, .inr (5, [.ref (tt 4)])), (tt 4, .inl (dA 0, 84, .inl (cmp tw p0 tp tp i4)))]) [1, 2] (by decide) rfl
          have hFc := va_free (wc := [(tt 3, .inr (5, [.ref (tt 4)])), (tt 4, .inl (dA 0, 84, .inl (cmp tw p0 tp tp i4)))]) hD hS hA [1, 2] rfl
          refine va_calli (va_runV (As := [.int (nI i4)]) (rest := [.int (nI (kpt tw p0 i4)), .ref (tt 3)]) ⟨hx, hb, hml, hown, hts⟩ (t_getN l D dA E (tt 3) (tt 4) 84 (cmp tw p0 tp tp i4) i4 H.size  (by omega) (by decide)) (cwV 1 hts (ga_V q213 q203 q200 q204 q201) rfl rfl rfl (by decide +kernel) ⟨(Nat.le_of_ble_eq_true rfl), (Nat.le_of_ble_eq_true rfl)⟩) ⟨pb_blind, va_recv hK hPc (ci := 5) (q0 := 0) rfl rfl, pb_pre hK hPc hDc hZ hS hFc _⟩ rfl rfl hl.1 rfl (lv_room (Nat.le_of_ble_eq_true rfl)) dX6_takeOut_53 ⟨(Nat.le_of_ble_eq_true rfl), (Nat.le_of_ble_eq_true rfl)⟩) hS (fun q _ h => hFc q h) hFc (fun r u t H1 locs ht hvm hw hB hz1 hk1 hS => ?_)
          refine W.widen (k := 0) (n := 0) (Nat.le_of_ble_eq_true rfl) (Nat.le_of_ble_eq_true rfl) ?_
          obtain ⟨r11, rfl⟩ : ∃ z, z = r := ⟨_, rfl⟩
          obtain ⟨u12, rfl⟩ : ∃ z, z = u := ⟨_, rfl⟩
          have hw13 := hw
          clear hw
          obtain ⟨hP1, hD1⟩ := hB
          rw [ht] at hP1
          obtain ⟨hP, hD⟩ := va_join (wr := [(tt 0, .inr (9, [.ref (tt 1), .ref (tt 3), .ref (tt 5), .int (nI nm)])), (tt 5, .inr (5, [.ref (tt 6)])), (tt 6, .inl (dA 0, 84, .inl (cmp tw p0 tx tx i4))), (tt 1, .inr (5, [.ref (tt 2)])), (tt 2, .inl (dA 0, 84, .inl (upd (cmp tw p0 tw tw i4) (kpt tw p0 i4) (tw i4))))]) (w1 := [(tt 3, .inr (5, [.ref (tt 4)])), (tt 4, .inl (dA 0, 84, .inl (cmp tw p0 tp tp i4)))]) hP hD [1, 2] [0, 3, 4, 5, 6] rfl rfl (by decide) (by decide) hk1 hFc hP1 hD1
          generalize H1 = H at hP hS ⊢
          have hP : va_P D vwCl [(tt 0, .inr (9, [.ref (tt 1), .ref (tt 3), .ref (tt 5), .int (nI nm)])), (tt 5, .inr (5, [.ref (tt 6)])), (tt 6, .inl (dA 0, 84, .inl (cmp tw p0 tx tx i4))), (tt 1, .inr (5, [.ref (tt 2)])), (tt 2, .inl (dA 0, 84, .inl (upd (cmp tw p0 tw tw i4) (kpt tw p0 i4) (tw i4)))), (tt 3, .inr (5, [.ref (tt 4)])), (tt 4, .inl (dA 0, 84, .inl (cmp tw p0 tp tp i4)))] H := hP
          have hD : va_D A [(tt 0, .inr (9, [.ref (tt 1), .ref (tt 3), .ref (tt 5), .int (nI nm)])), (tt 5, .inr (5, [.ref (tt 6)])), (tt 6, .inl (dA 0, 84, .inl (cmp tw p0 tx tx i4))), (tt 1, .inr (5, [.ref (tt 2)])), (tt 2, .inl (dA 0, 84, .inl (upd (cmp tw p0 tw tw i4) (kpt tw p0 i4) (tw i4)))), (tt 3, .inr (5, [.ref (tt 4)])), (tt 4, .inl (dA 0, 84, .inl (cmp tw p0 tp tp i4)))] := hD
          obtain rfl : r11 = tp i4 := (show r11 = (cmp tw p0 tp tp i4) i4 from hw13).trans (cmp_at (Nat.le_refl _))
          have hPc := hP.sub (ws' := [(tt 3, .inr (5, [.ref (tt 4)])), (tt 4, .inl (dA 0, 84, .inl (cmp tw p0 tp tp i4)))]) [5, 6] rfl
          have hDc := hD.sub (ws' := [(tt 3, .inr (5, [.ref (tt 4)])), (tt 4, .inl (dA 0, 84, .inl (cmp tw p0 tp tp i4)))]) [5, 6] (by decide) rfl
          have hFc := va_free (wc := [(tt 3, .inr (5, [.ref (tt 4)])), (tt 4, .inl (dA 0, 84, .inl (cmp tw p0 tp tp i4)))]) hD hS hA [5, 6] rfl
          refine va_callv (va_runV (As := [.int (nI (kpt tw p0 i4)), .int (tp i4)]) (rest := []) ⟨hx, hb, hml, hown, hts⟩ (t_putN l D dA E (tt 3) (tt 4) 84 (cmp tw p0 tp tp i4) (kpt tw p0 i4) (tp i4) H.size  (by omega) (by decide)) (cwV 2 hts (ga_V q209 q210 q207 q204 q208) rfl rfl rfl (by decide +kernel) ⟨(Nat.le_of_ble_eq_true rfl), (Nat.le_of_ble_eq_true rfl)⟩) ⟨pb_blind, va_recv hK hPc (ci := 5) (q0 := 0) rfl rfl, pb_pre hK hPc hDc hZ hS hFc _⟩ rfl rfl hl.1 rfl (lv_room (Nat.le_of_ble_eq_true rfl)) dX6_takeOut_56 ⟨(Nat.le_of_ble_eq_true rfl), (Nat.le_of_ble_eq_true rfl)⟩) hS (fun q _ h => hFc q h) hFc (fun u t H1 locs ht hvm hw hB hz1 hk1 hS => ?_)
          refine W.widen (k := 0) (n := 0) (Nat.le_of_ble_eq_true rfl) (Nat.le_of_ble_eq_true rfl) ?_
          obtain ⟨u14, rfl⟩ : ∃ z, z = u := ⟨_, rfl⟩
          have hw15 := hw
          clear hw
          obtain ⟨hP1, hD1⟩ := hB
          rw [ht] at hP1
          obtain ⟨hP, hD⟩ := va_join (wr := [(tt 0, .inr (9, [.ref (tt 1), .ref (tt 3), .ref (tt 5), .int (nI nm)])), (tt 5, .inr (5, [.ref (tt 6)])), (tt 6, .inl (dA 0, 84, .inl (cmp tw p0 tx tx i4))), (tt 1, .inr (5, [.ref (tt 2)])), (tt 2, .inl (dA 0, 84, .inl (upd (cmp tw p0 tw tw i4) (kpt tw p0 i4) (tw i4))))]) (w1 := [(tt 3, .inr (5, [.ref (tt 4)])), (tt 4, .inl (dA 0, 84, .inl (upd (cmp tw p0 tp tp i4) (kpt tw p0 i4) (tp i4))))]) hP hD [5, 6] [0, 1, 2, 3, 4] rfl rfl (by decide) (by decide) hk1 hFc hP1 hD1
          generalize H1 = H at hP hS ⊢
          have hP : va_P D vwCl [(tt 0, .inr (9, [.ref (tt 1), .ref (tt 3), .ref (tt 5), .int (nI nm)])), (tt 5, .inr (5, [.ref (tt 6)])), (tt 6, .inl (dA 0, 84, .inl (cmp tw p0 tx tx i4))), (tt 1, .inr (5, [.ref (tt 2)])), (tt 2, .inl (dA 0, 84, .inl (upd (cmp tw p0 tw tw i4) (kpt tw p0 i4) (tw i4)))), (tt 3, .inr (5, [.ref (tt 4)])), (tt 4, .inl (dA 0, 84, .inl (upd (cmp tw p0 tp tp i4) (kpt tw p0 i4) (tp i4))))] H := hP
          have hD : va_D A [(tt 0, .inr (9, [.ref (tt 1), .ref (tt 3), .ref (tt 5), .int (nI nm)])), (tt 5, .inr (5, [.ref (tt 6)])), (tt 6, .inl (dA 0, 84, .inl (cmp tw p0 tx tx i4))), (tt 1, .inr (5, [.ref (tt 2)])), (tt 2, .inl (dA 0, 84, .inl (upd (cmp tw p0 tw tw i4) (kpt tw p0 i4) (tw i4)))), (tt 3, .inr (5, [.ref (tt 4)])), (tt 4, .inl (dA 0, 84, .inl (upd (cmp tw p0 tp tp i4) (kpt tw p0 i4) (tp i4))))] := hD
          refine lv_aload_n hx hb dX6_takeOut_59 rfl (lv_at hl 2 rfl) ?_
          refine va_get (D := D) (ci := 9) (v := .ref (tt 5)) (C := RX6) (T := TX6) (N := 4) hx hb hts inAX6 hown hK hP 0 rfl rfl 2 (by decide) (hts _ q212) (fun _ h9 => h9) rfl dX6_takeOut_60 ?_
          refine lv_iload_n hx hb dX6_takeOut_63 rfl (lv_at hl 1 rfl) ?_
          refine lv_aload_n hx hb dX6_takeOut_64 rfl (lv_at hl 2 rfl) ?_
          refine va_get (D := D) (ci := 9) (v := .ref (tt 5)) (C := RX6) (T := TX6) (N := 4) hx hb hts inAX6 hown hK hP 0 rfl rfl 2 (by decide) (hts _ q212) (fun _ h9 => h9) rfl dX6_takeOut_65 ?_
          refine lv_iload_n hx hb dX6_takeOut_68 rfl (lv_at hl 0 rfl) ?_
          have hPc := hP.sub (ws' := [(tt 5, .inr (5, [.ref (tt 6)])), (tt 6, .inl (dA 0, 84, .inl (cmp tw p0 tx tx i4)))]) [1, 2] rfl
          have hDc := hD.sub (ws' := [(tt 5, .inr (5, [.ref (tt 6)])), (tt 6, .inl (dA 0, 84, .inl (cmp tw p0 tx tx i4)))]) [1, 2] (by decide) rfl
          have hFc := va_free (wc := [(tt 5, .inr (5, [.ref (tt 6)])), (tt 6, .inl (dA 0, 84, .inl (cmp tw p0 tx tx i4)))]) hD hS hA [1, 2] rfl
          refine va_calli (va_runV (As := [.int (nI i4)]) (rest := [.int (nI (kpt tw p0 i4)), .ref (tt 5)]) ⟨hx, hb, hml, hown, hts⟩ (t_getN l D dA E (tt 5) (tt 6) 84 (cmp tw p0 tx tx i4) i4 H.size  (by omega) (by decide)) (cwV 1 hts (ga_V q213 q203 q200 q204 q201) rfl rfl rfl (by decide +kernel) ⟨(Nat.le_of_ble_eq_true rfl), (Nat.le_of_ble_eq_true rfl)⟩) ⟨pb_blind, va_recv hK hPc (ci := 5) (q0 := 0) rfl rfl, pb_pre hK hPc hDc hZ hS hFc _⟩ rfl rfl hl.1 rfl (lv_room (Nat.le_of_ble_eq_true rfl)) dX6_takeOut_69 ⟨(Nat.le_of_ble_eq_true rfl), (Nat.le_of_ble_eq_true rfl)⟩) hS (fun q _ h => hFc q h) hFc (fun r u t H1 locs ht hvm hw hB hz1 hk1 hS => ?_)
          refine W.widen (k := 0) (n := 0) (Nat.le_of_ble_eq_true rfl) (Nat.le_of_ble_eq_true rfl) ?_
          obtain ⟨r16, rfl⟩ : ∃ z, z = r := ⟨_, rfl⟩
          obtain ⟨u17, rfl⟩ : ∃ z, z = u := ⟨_, rfl⟩
          have hw18 := hw
          clear hw
          obtain ⟨hP1, hD1⟩ := hB
          rw [ht] at hP1
          obtain ⟨hP, hD⟩ := va_join (wr := [(tt 0, .inr (9, [.ref (tt 1), .ref (tt 3), .ref (tt 5), .int (nI nm)])), (tt 1, .inr (5, [.ref (tt 2)])), (tt 2, .inl (dA 0, 84, .inl (upd (cmp tw p0 tw tw i4) (kpt tw p0 i4) (tw i4)))), (tt 3, .inr (5, [.ref (tt 4)])), (tt 4, .inl (dA 0, 84, .inl (upd (cmp tw p0 tp tp i4) (kpt tw p0 i4) (tp i4))))]) (w1 := [(tt 5, .inr (5, [.ref (tt 6)])), (tt 6, .inl (dA 0, 84, .inl (cmp tw p0 tx tx i4)))]) hP hD [1, 2] [0, 3, 4, 5, 6] rfl rfl (by decide) (by decide) hk1 hFc hP1 hD1
          generalize H1 = H at hP hS ⊢
          have hP : va_P D vwCl [(tt 0, .inr (9, [.ref (tt 1), .ref (tt 3), .ref (tt 5), .int (nI nm)])), (tt 1, .inr (5, [.ref (tt 2)])), (tt 2, .inl (dA 0, 84, .inl (upd (cmp tw p0 tw tw i4) (kpt tw p0 i4) (tw i4)))), (tt 3, .inr (5, [.ref (tt 4)])), (tt 4, .inl (dA 0, 84, .inl (upd (cmp tw p0 tp tp i4) (kpt tw p0 i4) (tp i4)))), (tt 5, .inr (5, [.ref (tt 6)])), (tt 6, .inl (dA 0, 84, .inl (cmp tw p0 tx tx i4)))] H := hP
          have hD : va_D A [(tt 0, .inr (9, [.ref (tt 1), .ref (tt 3), .ref (tt 5), .int (nI nm)])), (tt 1, .inr (5, [.ref (tt 2)])), (tt 2, .inl (dA 0, 84, .inl (upd (cmp tw p0 tw tw i4) (kpt tw p0 i4) (tw i4)))), (tt 3, .inr (5, [.ref (tt 4)])), (tt 4, .inl (dA 0, 84, .inl (upd (cmp tw p0 tp tp i4) (kpt tw p0 i4) (tp i4)))), (tt 5, .inr (5, [.ref (tt 6)])), (tt 6, .inl (dA 0, 84, .inl (cmp tw p0 tx tx i4)))] := hD
          obtain rfl : r16 = tx i4 := (show r16 = (cmp tw p0 tx tx i4) i4 from hw18).trans (cmp_at (Nat.le_refl _))
          have hPc := hP.sub (ws' := [(tt 5, .inr (5, [.ref (tt 6)])), (tt 6, .inl (dA 0, 84, .inl (cmp tw p0 tx tx i4)))]) [5, 6] rfl
          have hDc := hD.sub (ws' := [(tt 5, .inr (5, [.ref (tt 6)])), (tt 6, .inl (dA 0, 84, .inl (cmp tw p0 tx tx i4)))]) [5, 6] (by decide) rfl
          have hFc := va_free (wc := [(tt 5, .inr (5, [.ref (tt 6)])), (tt 6, .inl (dA 0, 84, .inl (cmp tw p0 tx tx i4)))]) hD hS hA [5, 6] rfl
          refine va_callv (va_runV (As := [.int (nI (kpt tw p0 i4)), .int (tx i4)]) (rest := []) ⟨hx, hb, hml, hown, hts⟩ (t_putN l D dA E (tt 5) (tt 6) 84 (cmp tw p0 tx tx i4) (kpt tw p0 i4) (tx i4) H.size  (by omega) (by decide)) (cwV 2 hts (ga_V q209 q210 q207 q204 q208) rfl rfl rfl (by decide +kernel) ⟨(Nat.le_of_ble_eq_true rfl), (Nat.le_of_ble_eq_true rfl)⟩) ⟨pb_blind, va_recv hK hPc (ci := 5) (q0 := 0) rfl rfl, pb_pre hK hPc hDc hZ hS hFc _⟩ rfl rfl hl.1 rfl (lv_room (Nat.le_of_ble_eq_true rfl)) dX6_takeOut_72 ⟨(Nat.le_of_ble_eq_true rfl), (Nat.le_of_ble_eq_true rfl)⟩) hS (fun q _ h => hFc q h) hFc (fun u t H1 locs ht hvm hw hB hz1 hk1 hS => ?_)
          refine W.widen (k := 0) (n := 0) (Nat.le_of_ble_eq_true rfl) (Nat.le_of_ble_eq_true rfl) ?_
          obtain ⟨u19, rfl⟩ : ∃ z, z = u := ⟨_, rfl⟩
          have hw20 := hw
          clear hw
          obtain ⟨hP1, hD1⟩ := hB
          rw [ht] at hP1
          obtain ⟨hP, hD⟩ := va_join (wr := [(tt 0, .inr (9, [.ref (tt 1), .ref (tt 3), .ref (tt 5), .int (nI nm)])), (tt 1, .inr (5, [.ref (tt 2)])), (tt 2, .inl (dA 0, 84, .inl (upd (cmp tw p0 tw tw i4) (kpt tw p0 i4) (tw i4)))), (tt 3, .inr (5, [.ref (tt 4)])), (tt 4, .inl (dA 0, 84, .inl (upd (cmp tw p0 tp tp i4) (kpt tw p0 i4) (tp i4))))]) (w1 := [(tt 5, .inr (5, [.ref (tt 6)])), (tt 6, .inl (dA 0, 84, .inl (upd (cmp tw p0 tx tx i4) (kpt tw p0 i4) (tx i4))))]) hP hD [5, 6] [0, 1, 2, 3, 4] rfl rfl (by decide) (by decide) hk1 hFc hP1 hD1
          generalize H1 = H at hP hS ⊢
          have hP : va_P D vwCl [(tt 0, .inr (9, [.ref (tt 1), .ref (tt 3), .ref (tt 5), .int (nI nm)])), (tt 1, .inr (5, [.ref (tt 2)])), (tt 2, .inl (dA 0, 84, .inl (upd (cmp tw p0 tw tw i4) (kpt tw p0 i4) (tw i4)))), (tt 3, .inr (5, [.ref (tt 4)])), (tt 4, .inl (dA 0, 84, .inl (upd (cmp tw p0 tp tp i4) (kpt tw p0 i4) (tp i4)))), (tt 5, .inr (5, [.ref (tt 6)])), (tt 6, .inl (dA 0, 84, .inl (upd (cmp tw p0 tx tx i4) (kpt tw p0 i4) (tx i4))))] H := hP
          have hD : va_D A [(tt 0, .inr (9, [.ref (tt 1), .ref (tt 3), .ref (tt 5), .int (nI nm)])), (tt 1, .inr (5, [.ref (tt 2)])), (tt 2, .inl (dA 0, 84, .inl (upd (cmp tw p0 tw tw i4) (kpt tw p0 i4) (tw i4)))), (tt 3, .inr (5, [.ref (tt 4)])), (tt 4, .inl (dA 0, 84, .inl (upd (cmp tw p0 tp tp i4) (kpt tw p0 i4) (tp i4)))), (tt 5, .inr (5, [.ref (tt 6)])), (tt 6, .inl (dA 0, 84, .inl (upd (cmp tw p0 tx tx i4) (kpt tw p0 i4) (tx i4))))] := hD
          refine lv_iinc (v := nI ((kpt tw p0 i4) + 1)) (lv' := [(2, .int (nI ((kpt tw p0 i4) + 1))), (3, .int (nI i4)), (0, .ref (tt 0)), (1, .int p0)]) hx hb dX6_takeOut_75 hl (k := 1) rfl (nI_add (kpt tw p0 i4) 1) (by decide) rfl (fun ls hl => ?_)
          refine lv_iinc (v := nI (i4 + 1)) (lv' := [(3, .int (nI (i4 + 1))), (2, .int (nI ((kpt tw p0 i4) + 1))), (0, .ref (tt 0)), (1, .int p0)]) hx hb dX6_takeOut_78 hl (k := 1) rfl (nI_add i4 1) (by decide) rfl (fun ls hl => ?_)
          refine lv_goto (tgt := 4) hx hb dX6_takeOut_81 (by decide) ?_
          exact ih4 (i4 + 1) (upd (cmp tw p0 tw tw i4) (kpt tw p0 i4) (tw i4)) (upd (cmp tw p0 tp tp i4) (kpt tw p0 i4) (tp i4)) (upd (cmp tw p0 tx tx i4) (kpt tw p0 i4) (tx i4)) (nI ((kpt tw p0 i4) + 1)) (by omega) (by omega) (by omega) ⟨(cmp_y c5), (cmp_y c5), (cmp_y c5), (kpt_y c5)⟩ _ _ hP hD hS ls (lv_sub hl [0, 1, 2, 3] rfl)
        · refine lv_goto (tgt := 78) hx hb dX6_takeOut_24 (by decide) ?_
          refine lv_iinc (v := nI (i4 + 1)) (lv' := [(3, .int (nI (i4 + 1))), (2, .int (nI (kpt tw p0 i4))), (0, .ref (tt 0)), (1, .int p0)]) hx hb dX6_takeOut_78 hl (k := 0) rfl (nI_add i4 1) (by decide) rfl (fun ls hl => ?_)
          refine lv_goto (tgt := 4) hx hb dX6_takeOut_81 (by decide) ?_
          have hP := hP.sub (ws' := [(tt 0, .inr (9, [.ref (tt 1), .ref (tt 3), .ref (tt 5), .int (nI nm)])), (tt 1, .inr (5, [.ref (tt 2)])), (tt 2, .inl (dA 0, 84, .inl (cmp tw p0 tw tw i4))), (tt 3, .inr (5, [.ref (tt 4)])), (tt 4, .inl (dA 0, 84, .inl (cmp tw p0 tp tp i4))), (tt 5, .inr (5, [.ref (tt 6)])), (tt 6, .inl (dA 0, 84, .inl (cmp tw p0 tx tx i4)))]) [0, 5, 6, 1, 2, 3, 4] rfl
          have hD := hD.sub (ws' := [(tt 0, .inr (9, [.ref (tt 1), .ref (tt 3), .ref (tt 5), .int (nI nm)])), (tt 1, .inr (5, [.ref (tt 2)])), (tt 2, .inl (dA 0, 84, .inl (cmp tw p0 tw tw i4))), (tt 3, .inr (5, [.ref (tt 4)])), (tt 4, .inl (dA 0, 84, .inl (cmp tw p0 tp tp i4))), (tt 5, .inr (5, [.ref (tt 6)])), (tt 6, .inl (dA 0, 84, .inl (cmp tw p0 tx tx i4)))]) [0, 5, 6, 1, 2, 3, 4] (by decide) rfl
          exact ih4 (i4 + 1) (cmp tw p0 tw tw i4) (cmp tw p0 tp tp i4) (cmp tw p0 tx tx i4) (nI (kpt tw p0 i4)) (by omega) (by omega) (by omega) ⟨(cmp_n c5), (cmp_n c5), (cmp_n c5), (kpt_n c5)⟩ _ _ hP hD hS ls (lv_sub hl [0, 1, 2, 3] rfl)
  exact K4 (nm + 1) 0 tw tp tx 0 (by omega) (by omega) (by omega) ⟨rfl, rfl, rfl, rfl⟩ _ _ hP hD hS ls hl

set_option maxHeartbeats 4000000 in
set_option maxRecDepth 100000 in
theorem t_timesAhead (l : Launch) (D : va_G) (dA : Nat → ClassId) (E : Nat) (tt : Nat → Nat) (tw tp tx : Nat → Int32) (nm : Nat) (p0 p1 : Int32) (sz : Nat) (hnm : nm ≤ 84)  : Met l yX6_timesAhead (wq (.code yX6_timesAhead cX6_timesAhead 5 (some .int))) { frames := 1, cells := 0, slots := 0, locals := 21 } (va_Pc [.ref (tt 0), .int p0, .int p1] (PcB D dA E [(tt 0, .inr (9, [.ref (tt 1), .ref (tt 3), .ref (tt 5), .int (nI nm)])), (tt 1, .inr (5, [.ref (tt 2)])), (tt 2, .inl (dA 0, 84, .inl tw)), (tt 3, .inr (5, [.ref (tt 4)])), (tt 4, .inl (dA 0, 84, .inl tp)), (tt 5, .inr (5, [.ref (tt 6)])), (tt 6, .inl (dA 0, 84, .inl tx))] sz)) (va_Qi (fun (r : Int32) (u : Unit) => r = nI (cntA tw tp p1 p0 nm)) (fun u t => va_P D vwCl [(tt 0, .inr (9, [.ref (tt 1), .ref (tt 3), .ref (tt 5), .int (nI nm)])), (tt 1, .inr (5, [.ref (tt 2)])), (tt 2, .inl (dA 0, 84, .inl tw)), (tt 3, .inr (5, [.ref (tt 4)])), (tt 4, .inl (dA 0, 84, .inl tp)), (tt 5, .inr (5, [.ref (tt 6)])), (tt 6, .inl (dA 0, 84, .inl tx))] t.heap ∧ va_D (va_A [(tt 0, .inr (9, [.ref (tt 1), .ref (tt 3), .ref (tt 5), .int (nI nm)])), (tt 1, .inr (5, [.ref (tt 2)])), (tt 2, .inl (dA 0, 84, .inl tw)), (tt 3, .inr (5, [.ref (tt 4)])), (tt 4, .inl (dA 0, 84, .inl tp)), (tt 5, .inr (5, [.ref (tt 6)])), (tt 6, .inl (dA 0, 84, .inl tx))] sz) [(tt 0, .inr (9, [.ref (tt 1), .ref (tt 3), .ref (tt 5), .int (nI nm)])), (tt 1, .inr (5, [.ref (tt 2)])), (tt 2, .inl (dA 0, 84, .inl tw)), (tt 3, .inr (5, [.ref (tt 4)])), (tt 4, .inl (dA 0, 84, .inl tp)), (tt 5, .inr (5, [.ref (tt 6)])), (tt 6, .inl (dA 0, 84, .inl tx))]) (va_A [(tt 0, .inr (9, [.ref (tt 1), .ref (tt 3), .ref (tt 5), .int (nI nm)])), (tt 1, .inr (5, [.ref (tt 2)])), (tt 2, .inl (dA 0, 84, .inl tw)), (tt 3, .inr (5, [.ref (tt 4)])), (tt 4, .inl (dA 0, 84, .inl tp)), (tt 5, .inr (5, [.ref (tt 6)])), (tt 6, .inl (dA 0, 84, .inl tx))] sz)) 0 0 (va_A [(tt 0, .inr (9, [.ref (tt 1), .ref (tt 3), .ref (tt 5), .int (nI nm)])), (tt 1, .inr (5, [.ref (tt 2)])), (tt 2, .inl (dA 0, 84, .inl tw)), (tt 3, .inr (5, [.ref (tt 4)])), (tt 4, .inl (dA 0, 84, .inl tp)), (tt 5, .inr (5, [.ref (tt 6)])), (tt 6, .inl (dA 0, 84, .inl tx))] sz) := by
  refine mb_of (Qc := fun A => va_Qi (fun (r : Int32) (u : Unit) => r = nI (cntA tw tp p1 p0 nm)) (fun u t => va_P D vwCl [(tt 0, .inr (9, [.ref (tt 1), .ref (tt 3), .ref (tt 5), .int (nI nm)])), (tt 1, .inr (5, [.ref (tt 2)])), (tt 2, .inl (dA 0, 84, .inl tw)), (tt 3, .inr (5, [.ref (tt 4)])), (tt 4, .inl (dA 0, 84, .inl tp)), (tt 5, .inr (5, [.ref (tt 6)])), (tt 6, .inl (dA 0, 84, .inl tx))] t.heap ∧ va_D A [(tt 0, .inr (9, [.ref (tt 1), .ref (tt 3), .ref (tt 5), .int (nI nm)])), (tt 1, .inr (5, [.ref (tt 2)])), (tt 2, .inl (dA 0, 84, .inl tw)), (tt 3, .inr (5, [.ref (tt 4)])), (tt 4, .inl (dA 0, 84, .inl tp)), (tt 5, .inr (5, [.ref (tt 6)])), (tt 6, .inl (dA 0, 84, .inl tx))]) A) RX6 rfl (by decide) (Nat.le_of_ble_eq_true rfl) ?_
  intro p e s m args below meth c hae hx hb hr hts hown hlocks hml hnm hP hK A hAe hD hZ hS hA ls hl
  have hl : lv_has ls 5 [(0, .ref (tt 0)), (1, .int p0), (2, .int p1)] := hl
  refine lv_iconst (v := 0) hx hb dX6_timesAhead_0 (by decide) ?_
  refine lv_istore_n (lv' := [(3, .int 0), (0, .ref (tt 0)), (1, .int p0), (2, .int p1)]) hx hb dX6_timesAhead_1 rfl hl (by decide) rfl (fun ls hl => ?_)
  refine lv_iconst (v := 0) hx hb dX6_timesAhead_2 (by decide) ?_
  refine lv_istore (lv' := [(4, .int 0), (3, .int 0), (0, .ref (tt 0)), (1, .int p0), (2, .int p1)]) hx hb dX6_timesAhead_3 hl (by decide) rfl (fun ls hl => ?_)
  have K5 : ∀ (k5 i5 : Nat) (g5_0 : Int32), 0 ≤ i5 → i5 ≤ nm → nm < i5 + k5 → (g5_0 = nI (cntA tw tp p1 p0 i5)) → ∀ (H : Heap) (locs : List Loc), va_P D vwCl [(tt 0, .inr (9, [.ref (tt 1), .ref (tt 3), .ref (tt 5), .int (nI nm)])), (tt 1, .inr (5, [.ref (tt 2)])), (tt 2, .inl (dA 0, 84, .inl tw)), (tt 3, .inr (5, [.ref (tt 4)])), (tt 4, .inl (dA 0, 84, .inl tp)), (tt 5, .inr (5, [.ref (tt 6)])), (tt 6, .inl (dA 0, 84, .inl tx))] H → va_D A [(tt 0, .inr (9, [.ref (tt 1), .ref (tt 3), .ref (tt 5), .int (nI nm)])), (tt 1, .inr (5, [.ref (tt 2)])), (tt 2, .inl (dA 0, 84, .inl tw)), (tt 3, .inr (5, [.ref (tt 4)])), (tt 4, .inl (dA 0, 84, .inl tp)), (tt 5, .inr (5, [.ref (tt 6)])), (tt 6, .inl (dA 0, 84, .inl tx))] → va_S A s.heap H locs → ∀ ls : Array Slot, lv_has ls 5 [(4, .int (nI i5)), (3, .int g5_0), (0, .ref (tt 0)), (1, .int p0), (2, .int p1)] → W p l e { frames := 1, cells := 0, slots := 0, locals := 21 } s m args below meth c H locs 0 0 (MQ below (va_Qi (fun (r : Int32) (u : Unit) => r = nI (cntA tw tp p1 p0 nm)) (fun u t => va_P D vwCl [(tt 0, .inr (9, [.ref (tt 1), .ref (tt 3), .ref (tt 5), .int (nI nm)])), (tt 1, .inr (5, [.ref (tt 2)])), (tt 2, .inl (dA 0, 84, .inl tw)), (tt 3, .inr (5, [.ref (tt 4)])), (tt 4, .inl (dA 0, 84, .inl tp)), (tt 5, .inr (5, [.ref (tt 6)])), (tt 6, .inl (dA 0, 84, .inl tx))] t.heap ∧ va_D A [(tt 0, .inr (9, [.ref (tt 1), .ref (tt 3), .ref (tt 5), .int (nI nm)])), (tt 1, .inr (5, [.ref (tt 2)])), (tt 2, .inl (dA 0, 84, .inl tw)), (tt 3, .inr (5, [.ref (tt 4)])), (tt 4, .inl (dA 0, 84, .inl tp)), (tt 5, .inr (5, [.ref (tt 6)])), (tt 6, .inl (dA 0, 84, .inl tx))]) A) args s 0 0 A) (F0 m 5 ls []) := by
    intro k5
    induction k5 with
    | zero => intro i5 g5_0 h1 h2 h3; exact absurd h3 (by omega)
    | succ k5 ih5 =>
      intro i5 g5_0 hlo5 hhi5 hms5 hinv5 H locs hP hD hS ls hl
      have eg5_0 := hinv5
      subst eg5_0
      have hcn := cntA_le tw tp p1 p0 i5
      refine lv_iload hx hb dX6_timesAhead_5 (lv_at hl 0 rfl) ?_
      refine lv_aload_n hx hb dX6_timesAhead_7 rfl (lv_at hl 2 rfl) ?_
      refine va_get (D := D) (ci := 9) (v := .int (nI nm)) (C := RX6) (T := TX6) (N := 4) hx hb hts inAX6 hown hK hP 0 rfl rfl 3 (by decide) (hts _ q205) (fun _ h9 => h9) rfl dX6_timesAhead_8 ?_
      refine lv_icmp_ge (tgt := 49) hx hb dX6_timesAhead_11 (by decide) (fun c1 => ?_) (fun c1 => ?_)
      · replace c1 := (nI_leI (a := nm) (b := i5) (by omega) (by omega)).mp c1
        obtain rfl : nm = i5 := (by omega)
        have hP : va_P D vwCl [(tt 0, .inr (9, [.ref (tt 1), .ref (tt 3), .ref (tt 5), .int (nI nm)])), (tt 1, .inr (5, [.ref (tt 2)])), (tt 2, .inl (dA 0, 84, .inl tw)), (tt 3, .inr (5, [.ref (tt 4)])), (tt 4, .inl (dA 0, 84, .inl tp)), (tt 5, .inr (5, [.ref (tt 6)])), (tt 6, .inl (dA 0, 84, .inl tx))] H := hP
        have hD : va_D A [(tt 0, .inr (9, [.ref (tt 1), .ref (tt 3), .ref (tt 5), .int (nI nm)])), (tt 1, .inr (5, [.ref (tt 2)])), (tt 2, .inl (dA 0, 84, .inl tw)), (tt 3, .inr (5, [.ref (tt 4)])), (tt 4, .inl (dA 0, 84, .inl tp)), (tt 5, .inr (5, [.ref (tt 6)])), (tt 6, .inl (dA 0, 84, .inl tx))] := hD
        refine lv_iload_n hx hb dX6_timesAhead_49 rfl (lv_at hl 1 rfl) ?_
        refine W.widen (k := 0) (n := 0) (Nat.le_of_ble_eq_true rfl) (Nat.le_of_ble_eq_true rfl) ?_
        have hP9 := hP.sub (ws' := [(tt 0, .inr (9, [.ref (tt 1), .ref (tt 3), .ref (tt 5), .int (nI nm)])), (tt 1, .inr (5, [.ref (tt 2)])), (tt 2, .inl (dA 0, 84, .inl tw)), (tt 3, .inr (5, [.ref (tt 4)])), (tt 4, .inl (dA 0, 84, .inl tp)), (tt 5, .inr (5, [.ref (tt 6)])), (tt 6, .inl (dA 0, 84, .inl tx))]) [0, 1, 2, 3, 4, 5, 6] rfl
        have hD9 := hD.sub (ws' := [(tt 0, .inr (9, [.ref (tt 1), .ref (tt 3), .ref (tt 5), .int (nI nm)])), (tt 1, .inr (5, [.ref (tt 2)])), (tt 2, .inl (dA 0, 84, .inl tw)), (tt 3, .inr (5, [.ref (tt 4)])), (tt 4, .inl (dA 0, 84, .inl tp)), (tt 5, .inr (5, [.ref (tt 6)])), (tt 6, .inl (dA 0, 84, .inl tx))]) [0, 1, 2, 3, 4, 5, 6] (by decide) rfl
        exact W.iret (v := (nI (cntA tw tp p1 p0 nm))) hx hb hr (fun t ht hW => ⟨⟨(nI (cntA tw tp p1 p0 nm)), (), rfl, rfl, ⟨by rw [ht]; exact hP9, hD9⟩⟩, hS.F ht⟩) hS.2.2 dX6_timesAhead_50
      · replace c1 := mt (nI_leI (a := nm) (b := i5) (by omega) (by omega)).mpr c1
        refine lv_aload_n hx hb dX6_timesAhead_14 rfl (lv_at hl 2 rfl) ?_
        refine va_get (D := D) (ci := 9) (v := .ref (tt 1)) (C := RX6) (T := TX6) (N := 4) hx hb hts inAX6 hown hK hP 0 rfl rfl 0 (by decide) (hts _ q206) (fun _ h9 => h9) rfl dX6_timesAhead_15 ?_
        refine lv_iload hx hb dX6_timesAhead_18 (lv_at hl 0 rfl) ?_
        have hPc := hP.sub (ws' := [(tt 1, .inr (5, [.ref (tt 2)])), (tt 2, .inl (dA 0, 84, .inl tw))]) [1, 2] rfl
        have hDc := hD.sub (ws' := [(tt 1, .inr (5, [.ref (tt 2)])), (tt 2, .inl (dA 0, 84, .inl tw))]) [1, 2] (by decide) rfl
        have hFc := va_free (wc := [(tt 1, .inr (5, [.ref (tt 2)])), (tt 2, .inl (dA 0, 84, .inl tw))]) hD hS hA [1, 2] rfl
        refine va_calli (va_runV (As := [.int (nI i5)]) (rest := []) ⟨hx, hb, hml, hown, hts⟩ (t_getN l D dA E (tt 1) (tt 2) 84 tw i5 H.size  (by omega) (by decide)) (cwV 1 hts (ga_V q213 q203 q200 q204 q201) rfl rfl rfl (by decide +kernel) ⟨(Nat.le_of_ble_eq_true rfl), (Nat.le_of_ble_eq_true rfl)⟩) ⟨pb_blind, va_recv hK hPc (ci := 5) (q0 := 0) rfl rfl, pb_pre hK hPc hDc hZ hS hFc _⟩ rfl rfl hl.1 rfl (lv_room (Nat.le_of_ble_eq_true rfl)) dX6_timesAhead_20 ⟨(Nat.le_of_ble_eq_true rfl), (Nat.le_of_ble_eq_true rfl)⟩) hS (fun q _ h => hFc q h) hFc (fun r u t H1 locs ht hvm hw hB hz1 hk1 hS => ?_)
        refine W.widen (k := 0) (n := 0) (Nat.le_of_ble_eq_true rfl) (Nat.le_of_ble_eq_true rfl) ?_
        obtain ⟨r2, rfl⟩ : ∃ z, z = r := ⟨_, rfl⟩
        obtain ⟨u3, rfl⟩ : ∃ z, z = u := ⟨_, rfl⟩
        have hw4 := hw
        clear hw
        obtain ⟨hP1, hD1⟩ := hB
        rw [ht] at hP1
        obtain ⟨hP, hD⟩ := va_join (wr := [(tt 0, .inr (9, [.ref (tt 1), .ref (tt 3), .ref (tt 5), .int (nI nm)])), (tt 3, .inr (5, [.ref (tt 4)])), (tt 4, .inl (dA 0, 84, .inl tp)), (tt 5, .inr (5, [.ref (tt 6)])), (tt 6, .inl (dA 0, 84, .inl tx))]) (w1 := [(tt 1, .inr (5, [.ref (tt 2)])), (tt 2, .inl (dA 0, 84, .inl tw))]) hP hD [1, 2] [0, 3, 4, 5, 6] rfl rfl (by decide) (by decide) hk1 hFc hP1 hD1
        generalize H1 = H at hP hS ⊢
        have hP : va_P D vwCl [(tt 0, .inr (9, [.ref (tt 1), .ref (tt 3), .ref (tt 5), .int (nI nm)])), (tt 3, .inr (5, [.ref (tt 4)])), (tt 4, .inl (dA 0, 84, .inl tp)), (tt 5, .inr (5, [.ref (tt 6)])), (tt 6, .inl (dA 0, 84, .inl tx)), (tt 1, .inr (5, [.ref (tt 2)])), (tt 2, .inl (dA 0, 84, .inl tw))] H := hP
        have hD : va_D A [(tt 0, .inr (9, [.ref (tt 1), .ref (tt 3), .ref (tt 5), .int (nI nm)])), (tt 3, .inr (5, [.ref (tt 4)])), (tt 4, .inl (dA 0, 84, .inl tp)), (tt 5, .inr (5, [.ref (tt 6)])), (tt 6, .inl (dA 0, 84, .inl tx)), (tt 1, .inr (5, [.ref (tt 2)])), (tt 2, .inl (dA 0, 84, .inl tw))] := hD
        obtain rfl : r2 = tw i5 := hw4
        refine lv_iload_n hx hb dX6_timesAhead_23 rfl (lv_at hl 4 rfl) ?_
        refine lv_icmp_ne (tgt := 43) hx hb dX6_timesAhead_24 (by decide) (fun c5 => ?_) (fun c5 => ?_)
        · refine lv_iinc (v := nI (i5 + 1)) (lv' := [(4, .int (nI (i5 + 1))), (3, .int (nI (cntA tw tp p1 p0 i5))), (0, .ref (tt 0)), (1, .int p0), (2, .int p1)]) hx hb dX6_timesAhead_43 hl (k := 0) rfl (nI_add i5 1) (by decide) rfl (fun ls hl => ?_)
          refine lv_goto (tgt := 5) hx hb dX6_timesAhead_46 (by decide) ?_
          have hP := hP.sub (ws' := [(tt 0, .inr (9, [.ref (tt 1), .ref (tt 3), .ref (tt 5), .int (nI nm)])), (tt 1, .inr (5, [.ref (tt 2)])), (tt 2, .inl (dA 0, 84, .inl tw)), (tt 3, .inr (5, [.ref (tt 4)])), (tt 4, .inl (dA 0, 84, .inl tp)), (tt 5, .inr (5, [.ref (tt 6)])), (tt 6, .inl (dA 0, 84, .inl tx))]) [0, 5, 6, 1, 2, 3, 4] rfl
          have hD := hD.sub (ws' := [(tt 0, .inr (9, [.ref (tt 1), .ref (tt 3), .ref (tt 5), .int (nI nm)])), (tt 1, .inr (5, [.ref (tt 2)])), (tt 2, .inl (dA 0, 84, .inl tw)), (tt 3, .inr (5, [.ref (tt 4)])), (tt 4, .inl (dA 0, 84, .inl tp)), (tt 5, .inr (5, [.ref (tt 6)])), (tt 6, .inl (dA 0, 84, .inl tx))]) [0, 5, 6, 1, 2, 3, 4] (by decide) rfl
          exact ih5 (i5 + 1) (nI (cntA tw tp p1 p0 i5)) (by omega) (by omega) (by omega) (cntA_n0 c5) _ _ hP hD hS ls (lv_sub hl [0, 1, 2, 3, 4] rfl)
        · refine lv_aload_n hx hb dX6_timesAhead_27 rfl (lv_at hl 2 rfl) ?_
          refine va_get (D := D) (ci := 9) (v := .ref (tt 3)) (C := RX6) (T := TX6) (N := 4) hx hb hts inAX6 hown hK hP 0 rfl rfl 1 (by decide) (hts _ q211) (fun _ h9 => h9) rfl dX6_timesAhead_28 ?_
          refine lv_iload hx hb dX6_timesAhead_31 (lv_at hl 0 rfl) ?_
          have hPc := hP.sub (ws' := [(tt 3, .inr (5, [.ref (tt 4)])), (tt 4, .inl (dA 0, 84, .inl tp))]) [1, 2] rfl
          have hDc := hD.sub (ws' := [(tt 3, .inr (5, [.ref (tt 4)])), (tt 4, .inl (dA 0, 84, .inl tp))]) [1, 2] (by decide) rfl
          have hFc := va_free (wc := [(tt 3, .inr (5, [.ref (tt 4)])), (tt 4, .inl (dA 0, 84, .inl tp))]) hD hS hA [1, 2] rfl
          refine va_calli (va_runV (As := [.int (nI i5)]) (rest := []) ⟨hx, hb, hml, hown, hts⟩ (t_getN l D dA E (tt 3) (tt 4) 84 tp i5 H.size  (by omega) (by decide)) (cwV 1 hts (ga_V q213 q203 q200 q204 q201) rfl rfl rfl (by decide +kernel) ⟨(Nat.le_of_ble_eq_true rfl), (Nat.le_of_ble_eq_true rfl)⟩) ⟨pb_blind, va_recv hK hPc (ci := 5) (q0 := 0) rfl rfl, pb_pre hK hPc hDc hZ hS hFc _⟩ rfl rfl hl.1 rfl (lv_room (Nat.le_of_ble_eq_true rfl)) dX6_timesAhead_33 ⟨(Nat.le_of_ble_eq_true rfl), (Nat.le_of_ble_eq_true rfl)⟩) hS (fun q _ h => hFc q h) hFc (fun r u t H1 locs ht hvm hw hB hz1 hk1 hS => ?_)
          refine W.widen (k := 0) (n := 0) (Nat.le_of_ble_eq_true rfl) (Nat.le_of_ble_eq_true rfl) ?_
          obtain ⟨r6, rfl⟩ : ∃ z, z = r := ⟨_, rfl⟩
          obtain ⟨u7, rfl⟩ : ∃ z, z = u := ⟨_, rfl⟩
          have hw8 := hw
          clear hw
          obtain ⟨hP1, hD1⟩ := hB
          rw [ht] at hP1
          obtain ⟨hP, hD⟩ := va_join (wr := [(tt 0, .inr (9, [.ref (tt 1), .ref (tt 3), .ref (tt 5), .int (nI nm)])), (tt 5, .inr (5, [.ref (tt 6)])), (tt 6, .inl (dA 0, 84, .inl tx)), (tt 1, .inr (5, [.ref (tt 2)])), (tt 2, .inl (dA 0, 84, .inl tw))]) (w1 := [(tt 3, .inr (5, [.ref (tt 4)])), (tt 4, .inl (dA 0, 84, .inl tp))]) hP hD [1, 2] [0, 3, 4, 5, 6] rfl rfl (by decide) (by decide) hk1 hFc hP1 hD1
          generalize H1 = H at hP hS ⊢
          have hP : va_P D vwCl [(tt 0, .inr (9, [.ref (tt 1), .ref (tt 3), .ref (tt 5), .int (nI nm)])), (tt 5, .inr (5, [.ref (tt 6)])), (tt 6, .inl (dA 0, 84, .inl tx)), (tt 1, .inr (5, [.ref (tt 2)])), (tt 2, .inl (dA 0, 84, .inl tw)), (tt 3, .inr (5, [.ref (tt 4)])), (tt 4, .inl (dA 0, 84, .inl tp))] H := hP
          have hD : va_D A [(tt 0, .inr (9, [.ref (tt 1), .ref (tt 3), .ref (tt 5), .int (nI nm)])), (tt 5, .inr (5, [.ref (tt 6)])), (tt 6, .inl (dA 0, 84, .inl tx)), (tt 1, .inr (5, [.ref (tt 2)])), (tt 2, .inl (dA 0, 84, .inl tw)), (tt 3, .inr (5, [.ref (tt 4)])), (tt 4, .inl (dA 0, 84, .inl tp))] := hD
          obtain rfl : r6 = tp i5 := hw8
          refine lv_iload_n hx hb dX6_timesAhead_36 rfl (lv_at hl 3 rfl) ?_
          refine lv_icmp_ge (tgt := 43) hx hb dX6_timesAhead_37 (by decide) (fun c9 => ?_) (fun c9 => ?_)
          · refine lv_iinc (v := nI (i5 + 1)) (lv' := [(4, .int (nI (i5 + 1))), (3, .int (nI (cntA tw tp p1 p0 i5))), (0, .ref (tt 0)), (1, .int p0), (2, .int p1)]) hx hb dX6_timesAhead_43 hl (k := 0) rfl (nI_add i5 1) (by decide) rfl (fun ls hl => ?_)
            refine lv_goto (tgt := 5) hx hb dX6_timesAhead_46 (by decide) ?_
            have hP := hP.sub (ws' := [(tt 0, .inr (9, [.ref (tt 1), .ref (tt 3), .ref (tt 5), .int (nI nm)])), (tt 1, .inr (5, [.ref (tt 2)])), (tt 2, .inl (dA 0, 84, .inl tw)), (tt 3, .inr (5, [.ref (tt 4)])), (tt 4, .inl (dA 0, 84, .inl tp)), (tt 5, .inr (5, [.ref (tt 6)])), (tt 6, .inl (dA 0, 84, .inl tx))]) [0, 3, 4, 5, 6, 1, 2] rfl
            have hD := hD.sub (ws' := [(tt 0, .inr (9, [.ref (tt 1), .ref (tt 3), .ref (tt 5), .int (nI nm)])), (tt 1, .inr (5, [.ref (tt 2)])), (tt 2, .inl (dA 0, 84, .inl tw)), (tt 3, .inr (5, [.ref (tt 4)])), (tt 4, .inl (dA 0, 84, .inl tp)), (tt 5, .inr (5, [.ref (tt 6)])), (tt 6, .inl (dA 0, 84, .inl tx))]) [0, 3, 4, 5, 6, 1, 2] (by decide) rfl
            exact ih5 (i5 + 1) (nI (cntA tw tp p1 p0 i5)) (by omega) (by omega) (by omega) (cntA_n1 c9) _ _ hP hD hS ls (lv_sub hl [0, 1, 2, 3, 4] rfl)
          · refine lv_iinc (v := nI ((cntA tw tp p1 p0 i5) + 1)) (lv' := [(3, .int (nI ((cntA tw tp p1 p0 i5) + 1))), (4, .int (nI i5)), (0, .ref (tt 0)), (1, .int p0), (2, .int p1)]) hx hb dX6_timesAhead_40 hl (k := 1) rfl (nI_add (cntA tw tp p1 p0 i5) 1) (by decide) rfl (fun ls hl => ?_)
            refine lv_iinc (v := nI (i5 + 1)) (lv' := [(4, .int (nI (i5 + 1))), (3, .int (nI ((cntA tw tp p1 p0 i5) + 1))), (0, .ref (tt 0)), (1, .int p0), (2, .int p1)]) hx hb dX6_timesAhead_43 hl (k := 1) rfl (nI_add i5 1) (by decide) rfl (fun ls hl => ?_)
            refine lv_goto (tgt := 5) hx hb dX6_timesAhead_46 (by decide) ?_
            have hP := hP.sub (ws' := [(tt 0, .inr (9, [.ref (tt 1), .ref (tt 3), .ref (tt 5), .int (nI nm)])), (tt 1, .inr (5, [.ref (tt 2)])), (tt 2, .inl (dA 0, 84, .inl tw)), (tt 3, .inr (5, [.ref (tt 4)])), (tt 4, .inl (dA 0, 84, .inl tp)), (tt 5, .inr (5, [.ref (tt 6)])), (tt 6, .inl (dA 0, 84, .inl tx))]) [0, 3, 4, 5, 6, 1, 2] rfl
            have hD := hD.sub (ws' := [(tt 0, .inr (9, [.ref (tt 1), .ref (tt 3), .ref (tt 5), .int (nI nm)])), (tt 1, .inr (5, [.ref (tt 2)])), (tt 2, .inl (dA 0, 84, .inl tw)), (tt 3, .inr (5, [.ref (tt 4)])), (tt 4, .inl (dA 0, 84, .inl tp)), (tt 5, .inr (5, [.ref (tt 6)])), (tt 6, .inl (dA 0, 84, .inl tx))]) [0, 3, 4, 5, 6, 1, 2] (by decide) rfl
            exact ih5 (i5 + 1) (nI ((cntA tw tp p1 p0 i5) + 1)) (by omega) (by omega) (by omega) (cntA_y c5 (Int32.not_le.mp c9)) _ _ hP hD hS ls (lv_sub hl [0, 1, 2, 3, 4] rfl)
  exact K5 (nm + 1) 0 0 (by omega) (by omega) (by omega) rfl _ _ hP hD hS ls hl

set_option maxHeartbeats 4000000 in
set_option maxRecDepth 100000 in
theorem t_closeUp (l : Launch) (D : va_G) (dA : Nat → ClassId) (E : Nat) (tt : Nat → Nat) (tw tp tx : Nat → Int32) (nm : Nat) (p0 : Int32) (sz : Nat) (hnm : nm ≤ 84)  : Met l yX6_closeUp (wq (.code yX6_closeUp cX6_closeUp 4 none)) { frames := 2, cells := 0, slots := 0, locals := 45 } (va_Pc [.ref (tt 0), .int p0] (PcB D dA E [(tt 0, .inr (9, [.ref (tt 1), .ref (tt 3), .ref (tt 5), .int (nI nm)])), (tt 1, .inr (5, [.ref (tt 2)])), (tt 2, .inl (dA 0, 84, .inl tw)), (tt 3, .inr (5, [.ref (tt 4)])), (tt 4, .inl (dA 0, 84, .inl tp)), (tt 5, .inr (5, [.ref (tt 6)])), (tt 6, .inl (dA 0, 84, .inl tx))] sz)) (va_Qv (fun (u : Unit) => True) (fun u t => va_P D vwCl [(tt 0, .inr (9, [.ref (tt 1), .ref (tt 3), .ref (tt 5), .int (nI (kpt tw p0 nm))])), (tt 1, .inr (5, [.ref (tt 2)])), (tt 2, .inl (dA 0, 84, .inl (cmp tw p0 tw tw nm))), (tt 3, .inr (5, [.ref (tt 4)])), (tt 4, .inl (dA 0, 84, .inl (cmp tw p0 (fl (clF tw tp p0 nm) tp nm) (fl (clF tw tp p0 nm) tp nm) nm))), (tt 5, .inr (5, [.ref (tt 6)])), (tt 6, .inl (dA 0, 84, .inl (cmp tw p0 tx tx nm)))] t.heap ∧ va_D (va_A [(tt 0, .inr (9, [.ref (tt 1), .ref (tt 3), .ref (tt 5), .int (nI nm)])), (tt 1, .inr (5, [.ref (tt 2)])), (tt 2, .inl (dA 0, 84, .inl tw)), (tt 3, .inr (5, [.ref (tt 4)])), (tt 4, .inl (dA 0, 84, .inl tp)), (tt 5, .inr (5, [.ref (tt 6)])), (tt 6, .inl (dA 0, 84, .inl tx))] sz) [(tt 0, .inr (9, [.ref (tt 1), .ref (tt 3), .ref (tt 5), .int (nI (kpt tw p0 nm))])), (tt 1, .inr (5, [.ref (tt 2)])), (tt 2, .inl (dA 0, 84, .inl (cmp tw p0 tw tw nm))), (tt 3, .inr (5, [.ref (tt 4)])), (tt 4, .inl (dA 0, 84, .inl (cmp tw p0 (fl (clF tw tp p0 nm) tp nm) (fl (clF tw tp p0 nm) tp nm) nm))), (tt 5, .inr (5, [.ref (tt 6)])), (tt 6, .inl (dA 0, 84, .inl (cmp tw p0 tx tx nm)))]) (va_A [(tt 0, .inr (9, [.ref (tt 1), .ref (tt 3), .ref (tt 5), .int (nI nm)])), (tt 1, .inr (5, [.ref (tt 2)])), (tt 2, .inl (dA 0, 84, .inl tw)), (tt 3, .inr (5, [.ref (tt 4)])), (tt 4, .inl (dA 0, 84, .inl tp)), (tt 5, .inr (5, [.ref (tt 6)])), (tt 6, .inl (dA 0, 84, .inl tx))] sz)) 0 0 (va_A [(tt 0, .inr (9, [.ref (tt 1), .ref (tt 3), .ref (tt 5), .int (nI nm)])), (tt 1, .inr (5, [.ref (tt 2)])), (tt 2, .inl (dA 0, 84, .inl tw)), (tt 3, .inr (5, [.ref (tt 4)])), (tt 4, .inl (dA 0, 84, .inl tp)), (tt 5, .inr (5, [.ref (tt 6)])), (tt 6, .inl (dA 0, 84, .inl tx))] sz) := by
  refine mb_of (Qc := fun A => va_Qv (fun (u : Unit) => True) (fun u t => va_P D vwCl [(tt 0, .inr (9, [.ref (tt 1), .ref (tt 3), .ref (tt 5), .int (nI (kpt tw p0 nm))])), (tt 1, .inr (5, [.ref (tt 2)])), (tt 2, .inl (dA 0, 84, .inl (cmp tw p0 tw tw nm))), (tt 3, .inr (5, [.ref (tt 4)])), (tt 4, .inl (dA 0, 84, .inl (cmp tw p0 (fl (clF tw tp p0 nm) tp nm) (fl (clF tw tp p0 nm) tp nm) nm))), (tt 5, .inr (5, [.ref (tt 6)])), (tt 6, .inl (dA 0, 84, .inl (cmp tw p0 tx tx nm)))] t.heap ∧ va_D A [(tt 0, .inr (9, [.ref (tt 1), .ref (tt 3), .ref (tt 5), .int (nI (kpt tw p0 nm))])), (tt 1, .inr (5, [.ref (tt 2)])), (tt 2, .inl (dA 0, 84, .inl (cmp tw p0 tw tw nm))), (tt 3, .inr (5, [.ref (tt 4)])), (tt 4, .inl (dA 0, 84, .inl (cmp tw p0 (fl (clF tw tp p0 nm) tp nm) (fl (clF tw tp p0 nm) tp nm) nm))), (tt 5, .inr (5, [.ref (tt 6)])), (tt 6, .inl (dA 0, 84, .inl (cmp tw p0 tx tx nm)))]) A) RX6 rfl (by decide) (Nat.le_of_ble_eq_true rfl) ?_
  intro p e s m args below meth c hae hx hb hr hts hown hlocks hml hnm hP hK A hAe hD hZ hS hA ls hl
  have hl : lv_has ls 4 [(0, .ref (tt 0)), (1, .int p0)] := hl
  refine lv_iconst (v := 0) hx hb dX6_closeUp_0 (by decide) ?_
  refine lv_istore_n (lv' := [(2, .int 0), (0, .ref (tt 0)), (1, .int p0)]) hx hb dX6_closeUp_1 rfl hl (by decide) rfl (fun ls hl => ?_)
  have K2 : ∀ (k2 i2 : Nat) (g2_0 : Nat → Int32), 0 ≤ i2 → i2 ≤ nm → nm < i2 + k2 → (g2_0 = fl (clF tw tp p0 nm) tp i2) → ∀ (H : Heap) (locs : List Loc), va_P D vwCl [(tt 0, .inr (9, [.ref (tt 1), .ref (tt 3), .ref (tt 5), .int (nI nm)])), (tt 1, .inr (5, [.ref (tt 2)])), (tt 2, .inl (dA 0, 84, .inl tw)), (tt 3, .inr (5, [.ref (tt 4)])), (tt 4, .inl (dA 0, 84, .inl g2_0)), (tt 5, .inr (5, [.ref (tt 6)])), (tt 6, .inl (dA 0, 84, .inl tx))] H → va_D A [(tt 0, .inr (9, [.ref (tt 1), .ref (tt 3), .ref (tt 5), .int (nI nm)])), (tt 1, .inr (5, [.ref (tt 2)])), (tt 2, .inl (dA 0, 84, .inl tw)), (tt 3, .inr (5, [.ref (tt 4)])), (tt 4, .inl (dA 0, 84, .inl g2_0)), (tt 5, .inr (5, [.ref (tt 6)])), (tt 6, .inl (dA 0, 84, .inl tx))] → va_S A s.heap H locs → ∀ ls : Array Slot, lv_has ls 4 [(2, .int (nI i2)), (0, .ref (tt 0)), (1, .int p0)] → W p l e { frames := 2, cells := 0, slots := 0, locals := 45 } s m args below meth c H locs 0 0 (MQ below (va_Qv (fun (u : Unit) => True) (fun u t => va_P D vwCl [(tt 0, .inr (9, [.ref (tt 1), .ref (tt 3), .ref (tt 5), .int (nI (kpt tw p0 nm))])), (tt 1, .inr (5, [.ref (tt 2)])), (tt 2, .inl (dA 0, 84, .inl (cmp tw p0 tw tw nm))), (tt 3, .inr (5, [.ref (tt 4)])), (tt 4, .inl (dA 0, 84, .inl (cmp tw p0 (fl (clF tw tp p0 nm) tp nm) (fl (clF tw tp p0 nm) tp nm) nm))), (tt 5, .inr (5, [.ref (tt 6)])), (tt 6, .inl (dA 0, 84, .inl (cmp tw p0 tx tx nm)))] t.heap ∧ va_D A [(tt 0, .inr (9, [.ref (tt 1), .ref (tt 3), .ref (tt 5), .int (nI (kpt tw p0 nm))])), (tt 1, .inr (5, [.ref (tt 2)])), (tt 2, .inl (dA 0, 84, .inl (cmp tw p0 tw tw nm))), (tt 3, .inr (5, [.ref (tt 4)])), (tt 4, .inl (dA 0, 84, .inl (cmp tw p0 (fl (clF tw tp p0 nm) tp nm) (fl (clF tw tp p0 nm) tp nm) nm))), (tt 5, .inr (5, [.ref (tt 6)])), (tt 6, .inl (dA 0, 84, .inl (cmp tw p0 tx tx nm)))]) A) args s 0 0 A) (F0 m 2 ls []) := by
    intro k2
    induction k2 with
    | zero => intro i2 g2_0 h1 h2 h3; exact absurd h3 (by omega)
    | succ k2 ih2 =>
      intro i2 g2_0 hlo2 hhi2 hms2 hinv2 H locs hP hD hS ls hl
      have eg2_0 := hinv2
      subst eg2_0
      refine lv_iload_n hx hb dX6_closeUp_2 rfl (lv_at hl 0 rfl) ?_
      refine lv_aload_n hx hb dX6_closeUp_3 rfl (lv_at hl 1 rfl) ?_
      refine va_get (D := D) (ci := 9) (v := .int (nI nm)) (C := RX6) (T := TX6) (N := 4) hx hb hts inAX6 hown hK hP 0 rfl rfl 3 (by decide) (hts _ q205) (fun _ h9 => h9) rfl dX6_closeUp_4 ?_
      refine lv_icmp_ge (tgt := 53) hx hb dX6_closeUp_7 (by decide) (fun c1 => ?_) (fun c1 => ?_)
      · replace c1 := (nI_leI (a := nm) (b := i2) (by omega) (by omega)).mp c1
        obtain rfl : nm = i2 := (by omega)
        have hP : va_P D vwCl [(tt 0, .inr (9, [.ref (tt 1), .ref (tt 3), .ref (tt 5), .int (nI nm)])), (tt 1, .inr (5, [.ref (tt 2)])), (tt 2, .inl (dA 0, 84, .inl tw)), (tt 3, .inr (5, [.ref (tt 4)])), (tt 4, .inl (dA 0, 84, .inl (fl (clF tw tp p0 nm) tp nm))), (tt 5, .inr (5, [.ref (tt 6)])), (tt 6, .inl (dA 0, 84, .inl tx))] H := hP
        have hD : va_D A [(tt 0, .inr (9, [.ref (tt 1), .ref (tt 3), .ref (tt 5), .int (nI nm)])), (tt 1, .inr (5, [.ref (tt 2)])), (tt 2, .inl (dA 0, 84, .inl tw)), (tt 3, .inr (5, [.ref (tt 4)])), (tt 4, .inl (dA 0, 84, .inl (fl (clF tw tp p0 nm) tp nm))), (tt 5, .inr (5, [.ref (tt 6)])), (tt 6, .inl (dA 0, 84, .inl tx))] := hD
        refine lv_aload_n hx hb dX6_closeUp_53 rfl (lv_at hl 1 rfl) ?_
        refine lv_iload_n hx hb dX6_closeUp_54 rfl (lv_at hl 2 rfl) ?_
        have hPc := hP.sub (ws' := [(tt 0, .inr (9, [.ref (tt 1), .ref (tt 3), .ref (tt 5), .int (nI nm)])), (tt 1, .inr (5, [.ref (tt 2)])), (tt 2, .inl (dA 0, 84, .inl tw)), (tt 3, .inr (5, [.ref (tt 4)])), (tt 4, .inl (dA 0, 84, .inl (fl (clF tw tp p0 nm) tp nm))), (tt 5, .inr (5, [.ref (tt 6)])), (tt 6, .inl (dA 0, 84, .inl tx))]) [0, 1, 2, 3, 4, 5, 6] rfl
        have hDc := hD.sub (ws' := [(tt 0, .inr (9, [.ref (tt 1), .ref (tt 3), .ref (tt 5), .int (nI nm)])), (tt 1, .inr (5, [.ref (tt 2)])), (tt 2, .inl (dA 0, 84, .inl tw)), (tt 3, .inr (5, [.ref (tt 4)])), (tt 4, .inl (dA 0, 84, .inl (fl (clF tw tp p0 nm) tp nm))), (tt 5, .inr (5, [.ref (tt 6)])), (tt 6, .inl (dA 0, 84, .inl tx))]) [0, 1, 2, 3, 4, 5, 6] (by decide) rfl
        have hFc := va_free (wc := [(tt 0, .inr (9, [.ref (tt 1), .ref (tt 3), .ref (tt 5), .int (nI nm)])), (tt 1, .inr (5, [.ref (tt 2)])), (tt 2, .inl (dA 0, 84, .inl tw)), (tt 3, .inr (5, [.ref (tt 4)])), (tt 4, .inl (dA 0, 84, .inl (fl (clF tw tp p0 nm) tp nm))), (tt 5, .inr (5, [.ref (tt 6)])), (tt 6, .inl (dA 0, 84, .inl tx))]) hD hS hA [0, 1, 2, 3, 4, 5, 6] rfl
        refine va_callv (va_runV (As := [.int p0]) (rest := []) ⟨hx, hb, hml, hown, hts⟩ (t_takeOut l D dA E tt tw (fl (clF tw tp p0 nm) tp nm) tx nm p0 H.size  (by omega)) (cwV 1 hts (ga_V q216 q217 q214 q218 q215) rfl rfl rfl (by decide +kernel) ⟨(Nat.le_of_ble_eq_true rfl), (Nat.le_of_ble_eq_true rfl)⟩) ⟨pb_blind, va_recv hK hPc (ci := 9) (q0 := 0) rfl rfl, pb_pre hK hPc hDc hZ hS hFc _⟩ rfl rfl hl.1 rfl (lv_room (Nat.le_of_ble_eq_true rfl)) dX6_closeUp_55 ⟨(Nat.le_of_ble_eq_true rfl), (Nat.le_of_ble_eq_true rfl)⟩) hS (fun q _ h => hFc q h) hFc (fun u t H1 locs ht hvm hw hB hz1 hk1 hS => ?_)
        refine W.widen (k := 0) (n := 0) (Nat.le_of_ble_eq_true rfl) (Nat.le_of_ble_eq_true rfl) ?_
        obtain ⟨u2, rfl⟩ : ∃ z, z = u := ⟨_, rfl⟩
        have hw3 := hw
        clear hw
        obtain ⟨hP1, hD1⟩ := hB
        rw [ht] at hP1
        obtain ⟨hP, hD⟩ := va_join (wr := []) (w1 := [(tt 0, .inr (9, [.ref (tt 1), .ref (tt 3), .ref (tt 5), .int (nI (kpt tw p0 nm))])), (tt 1, .inr (5, [.ref (tt 2)])), (tt 2, .inl (dA 0, 84, .inl (cmp tw p0 tw tw nm))), (tt 3, .inr (5, [.ref (tt 4)])), (tt 4, .inl (dA 0, 84, .inl (cmp tw p0 (fl (clF tw tp p0 nm) tp nm) (fl (clF tw tp p0 nm) tp nm) nm))), (tt 5, .inr (5, [.ref (tt 6)])), (tt 6, .inl (dA 0, 84, .inl (cmp tw p0 tx tx nm)))]) hP hD [0, 1, 2, 3, 4, 5, 6] [] rfl rfl (by decide) (by decide) hk1 hFc hP1 hD1
        generalize H1 = H at hP hS ⊢
        have hP : va_P D vwCl [(tt 0, .inr (9, [.ref (tt 1), .ref (tt 3), .ref (tt 5), .int (nI (kpt tw p0 nm))])), (tt 1, .inr (5, [.ref (tt 2)])), (tt 2, .inl (dA 0, 84, .inl (cmp tw p0 tw tw nm))), (tt 3, .inr (5, [.ref (tt 4)])), (tt 4, .inl (dA 0, 84, .inl (cmp tw p0 (fl (clF tw tp p0 nm) tp nm) (fl (clF tw tp p0 nm) tp nm) nm))), (tt 5, .inr (5, [.ref (tt 6)])), (tt 6, .inl (dA 0, 84, .inl (cmp tw p0 tx tx nm)))] H := hP
        have hD : va_D A [(tt 0, .inr (9, [.ref (tt 1), .ref (tt 3), .ref (tt 5), .int (nI (kpt tw p0 nm))])), (tt 1, .inr (5, [.ref (tt 2)])), (tt 2, .inl (dA 0, 84, .inl (cmp tw p0 tw tw nm))), (tt 3, .inr (5, [.ref (tt 4)])), (tt 4, .inl (dA 0, 84, .inl (cmp tw p0 (fl (clF tw tp p0 nm) tp nm) (fl (clF tw tp p0 nm) tp nm) nm))), (tt 5, .inr (5, [.ref (tt 6)])), (tt 6, .inl (dA 0, 84, .inl (cmp tw p0 tx tx nm)))] := hD
        refine W.widen (k := 0) (n := 0) (Nat.le_of_ble_eq_true rfl) (Nat.le_of_ble_eq_true rfl) ?_
        have hP9 := hP.sub (ws' := [(tt 0, .inr (9, [.ref (tt 1), .ref (tt 3), .ref (tt 5), .int (nI (kpt tw p0 nm))])), (tt 1, .inr (5, [.ref (tt 2)])), (tt 2, .inl (dA 0, 84, .inl (cmp tw p0 tw tw nm))), (tt 3, .inr (5, [.ref (tt 4)])), (tt 4, .inl (dA 0, 84, .inl (cmp tw p0 (fl (clF tw tp p0 nm) tp nm) (fl (clF tw tp p0 nm) tp nm) nm))), (tt 5, .inr (5, [.ref (tt 6)])), (tt 6, .inl (dA 0, 84, .inl (cmp tw p0 tx tx nm)))]) [0, 1, 2, 3, 4, 5, 6] rfl
        have hD9 := hD.sub (ws' := [(tt 0, .inr (9, [.ref (tt 1), .ref (tt 3), .ref (tt 5), .int (nI (kpt tw p0 nm))])), (tt 1, .inr (5, [.ref (tt 2)])), (tt 2, .inl (dA 0, 84, .inl (cmp tw p0 tw tw nm))), (tt 3, .inr (5, [.ref (tt 4)])), (tt 4, .inl (dA 0, 84, .inl (cmp tw p0 (fl (clF tw tp p0 nm) tp nm) (fl (clF tw tp p0 nm) tp nm) nm))), (tt 5, .inr (5, [.ref (tt 6)])), (tt 6, .inl (dA 0, 84, .inl (cmp tw p0 tx tx nm)))]) [0, 1, 2, 3, 4, 5, 6] (by decide) rfl
        exact W.vret hx hb hr (fun t ht hW => ⟨⟨(), rfl, trivial, ⟨by rw [ht]; exact hP9, hD9⟩⟩, hS.F ht⟩) hS.2.2 dX6_closeUp_58
      · replace c1 := mt (nI_leI (a := nm) (b := i2) (by omega) (by omega)).mpr c1
        refine lv_aload_n hx hb dX6_closeUp_10 rfl (lv_at hl 1 rfl) ?_
        refine va_get (D := D) (ci := 9) (v := .ref (tt 3)) (C := RX6) (T := TX6) (N := 4) hx hb hts inAX6 hown hK hP 0 rfl rfl 1 (by decide) (hts _ q211) (fun _ h9 => h9) rfl dX6_closeUp_11 ?_
        refine lv_iload_n hx hb dX6_closeUp_14 rfl (lv_at hl 0 rfl) ?_
        have hPc := hP.sub (ws' := [(tt 3, .inr (5, [.ref (tt 4)])), (tt 4, .inl (dA 0, 84, .inl (fl (clF tw tp p0 nm) tp i2)))]) [3, 4] rfl
        have hDc := hD.sub (ws' := [(tt 3, .inr (5, [.ref (tt 4)])), (tt 4, .inl (dA 0, 84, .inl (fl (clF tw tp p0 nm) tp i2)))]) [3, 4] (by decide) rfl
        have hFc := va_free (wc := [(tt 3, .inr (5, [.ref (tt 4)])), (tt 4, .inl (dA 0, 84, .inl (fl (clF tw tp p0 nm) tp i2)))]) hD hS hA [3, 4] rfl
        refine va_calli (va_runV (As := [.int (nI i2)]) (rest := []) ⟨hx, hb, hml, hown, hts⟩ (t_getN l D dA E (tt 3) (tt 4) 84 (fl (clF tw tp p0 nm) tp i2) i2 H.size  (by omega) (by decide)) (cwV 1 hts (ga_V q213 q203 q200 q204 q201) rfl rfl rfl (by decide +kernel) ⟨(Nat.le_of_ble_eq_true rfl), (Nat.le_of_ble_eq_true rfl)⟩) ⟨pb_blind, va_recv hK hPc (ci := 5) (q0 := 0) rfl rfl, pb_pre hK hPc hDc hZ hS hFc _⟩ rfl rfl hl.1 rfl (lv_room (Nat.le_of_ble_eq_true rfl)) dX6_closeUp_15 ⟨(Nat.le_of_ble_eq_true rfl), (Nat.le_of_ble_eq_true rfl)⟩) hS (fun q _ h => hFc q h) hFc (fun r u t H1 locs ht hvm hw hB hz1 hk1 hS => ?_)
        refine W.widen (k := 0) (n := 0) (Nat.le_of_ble_eq_true rfl) (Nat.le_of_ble_eq_true rfl) ?_
        obtain ⟨r4, rfl⟩ : ∃ z, z = r := ⟨_, rfl⟩
        obtain ⟨u5, rfl⟩ : ∃ z, z = u := ⟨_, rfl⟩
        have hw6 := hw
        clear hw
        obtain ⟨hP1, hD1⟩ := hB
        rw [ht] at hP1
        obtain ⟨hP, hD⟩ := va_join (wr := [(tt 0, .inr (9, [.ref (tt 1), .ref (tt 3), .ref (tt 5), .int (nI nm)])), (tt 1, .inr (5, [.ref (tt 2)])), (tt 2, .inl (dA 0, 84, .inl tw)), (tt 5, .inr (5, [.ref (tt 6)])), (tt 6, .inl (dA 0, 84, .inl tx))]) (w1 := [(tt 3, .inr (5, [.ref (tt 4)])), (tt 4, .inl (dA 0, 84, .inl (fl (clF tw tp p0 nm) tp i2)))]) hP hD [3, 4] [0, 1, 2, 5, 6] rfl rfl (by decide) (by decide) hk1 hFc hP1 hD1
        generalize H1 = H at hP hS ⊢
        have hP : va_P D vwCl [(tt 0, .inr (9, [.ref (tt 1), .ref (tt 3), .ref (tt 5), .int (nI nm)])), (tt 1, .inr (5, [.ref (tt 2)])), (tt 2, .inl (dA 0, 84, .inl tw)), (tt 5, .inr (5, [.ref (tt 6)])), (tt 6, .inl (dA 0, 84, .inl tx)), (tt 3, .inr (5, [.ref (tt 4)])), (tt 4, .inl (dA 0, 84, .inl (fl (clF tw tp p0 nm) tp i2)))] H := hP
        have hD : va_D A [(tt 0, .inr (9, [.ref (tt 1), .ref (tt 3), .ref (tt 5), .int (nI nm)])), (tt 1, .inr (5, [.ref (tt 2)])), (tt 2, .inl (dA 0, 84, .inl tw)), (tt 5, .inr (5, [.ref (tt 6)])), (tt 6, .inl (dA 0, 84, .inl tx)), (tt 3, .inr (5, [.ref (tt 4)])), (tt 4, .inl (dA 0, 84, .inl (fl (clF tw tp p0 nm) tp i2)))] := hD
        obtain rfl : r4 = tp i2 := (show r4 = (fl (clF tw tp p0 nm) tp i2) i2 from hw6).trans (fl_out (Nat.le_refl _))
        refine lv_istore_n (lv' := [(3, .int (tp i2)), (2, .int (nI i2)), (0, .ref (tt 0)), (1, .int p0)]) hx hb dX6_closeUp_18 rfl hl (by decide) rfl (fun ls hl => ?_)
        refine lv_aload_n hx hb dX6_closeUp_19 rfl (lv_at hl 2 rfl) ?_
        refine va_get (D := D) (ci := 9) (v := .ref (tt 1)) (C := RX6) (T := TX6) (N := 4) hx hb hts inAX6 hown hK hP 0 rfl rfl 0 (by decide) (hts _ q206) (fun _ h9 => h9) rfl dX6_closeUp_20 ?_
        refine lv_iload_n hx hb dX6_closeUp_23 rfl (lv_at hl 1 rfl) ?_
        have hPc := hP.sub (ws' := [(tt 1, .inr (5, [.ref (tt 2)])), (tt 2, .inl (dA 0, 84, .inl tw))]) [1, 2] rfl
        have hDc := hD.sub (ws' := [(tt 1, .inr (5, [.ref (tt 2)])), (tt 2, .inl (dA 0, 84, .inl tw))]) [1, 2] (by decide) rfl
        have hFc := va_free (wc := [(tt 1, .inr (5, [.ref (tt 2)])), (tt 2, .inl (dA 0, 84, .inl tw))]) hD hS hA [1, 2] rfl
        refine va_calli (va_runV (As := [.int (nI i2)]) (rest := []) ⟨hx, hb, hml, hown, hts⟩ (t_getN l D dA E (tt 1) (tt 2) 84 tw i2 H.size  (by omega) (by decide)) (cwV 1 hts (ga_V q213 q203 q200 q204 q201) rfl rfl rfl (by decide +kernel) ⟨(Nat.le_of_ble_eq_true rfl), (Nat.le_of_ble_eq_true rfl)⟩) ⟨pb_blind, va_recv hK hPc (ci := 5) (q0 := 0) rfl rfl, pb_pre hK hPc hDc hZ hS hFc _⟩ rfl rfl hl.1 rfl (lv_room (Nat.le_of_ble_eq_true rfl)) dX6_closeUp_24 ⟨(Nat.le_of_ble_eq_true rfl), (Nat.le_of_ble_eq_true rfl)⟩) hS (fun q _ h => hFc q h) hFc (fun r u t H1 locs ht hvm hw hB hz1 hk1 hS => ?_)
        refine W.widen (k := 0) (n := 0) (Nat.le_of_ble_eq_true rfl) (Nat.le_of_ble_eq_true rfl) ?_
        obtain ⟨r7, rfl⟩ : ∃ z, z = r := ⟨_, rfl⟩
        obtain ⟨u8, rfl⟩ : ∃ z, z = u := ⟨_, rfl⟩
        have hw9 := hw
        clear hw
        obtain ⟨hP1, hD1⟩ := hB
        rw [ht] at hP1
        obtain ⟨hP, hD⟩ := va_join (wr := [(tt 0, .inr (9, [.ref (tt 1), .ref (tt 3), .ref (tt 5), .int (nI nm)])), (tt 5, .inr (5, [.ref (tt 6)])), (tt 6, .inl (dA 0, 84, .inl tx)), (tt 3, .inr (5, [.ref (tt 4)])), (tt 4, .inl (dA 0, 84, .inl (fl (clF tw tp p0 nm) tp i2)))]) (w1 := [(tt 1, .inr (5, [.ref (tt 2)])), (tt 2, .inl (dA 0, 84, .inl tw))]) hP hD [1, 2] [0, 3, 4, 5, 6] rfl rfl (by decide) (by decide) hk1 hFc hP1 hD1
        generalize H1 = H at hP hS ⊢
        have hP : va_P D vwCl [(tt 0, .inr (9, [.ref (tt 1), .ref (tt 3), .ref (tt 5), .int (nI nm)])), (tt 5, .inr (5, [.ref (tt 6)])), (tt 6, .inl (dA 0, 84, .inl tx)), (tt 3, .inr (5, [.ref (tt 4)])), (tt 4, .inl (dA 0, 84, .inl (fl (clF tw tp p0 nm) tp i2))), (tt 1, .inr (5, [.ref (tt 2)])), (tt 2, .inl (dA 0, 84, .inl tw))] H := hP
        have hD : va_D A [(tt 0, .inr (9, [.ref (tt 1), .ref (tt 3), .ref (tt 5), .int (nI nm)])), (tt 5, .inr (5, [.ref (tt 6)])), (tt 6, .inl (dA 0, 84, .inl tx)), (tt 3, .inr (5, [.ref (tt 4)])), (tt 4, .inl (dA 0, 84, .inl (fl (clF tw tp p0 nm) tp i2))), (tt 1, .inr (5, [.ref (tt 2)])), (tt 2, .inl (dA 0, 84, .inl tw))] := hD
        obtain rfl : r7 = tw i2 := hw9
        refine lv_iload_n hx hb dX6_closeUp_27 rfl (lv_at hl 3 rfl) ?_
        refine lv_icmp_eq (tgt := 47) hx hb dX6_closeUp_28 (by decide) (fun c10 => ?_) (fun c10 => ?_)
        · refine lv_iinc (v := nI (i2 + 1)) (lv' := [(2, .int (nI (i2 + 1))), (3, .int (tp i2)), (0, .ref (tt 0)), (1, .int p0)]) hx hb dX6_closeUp_47 hl (k := 1) rfl (nI_add i2 1) (by decide) rfl (fun ls hl => ?_)
          refine lv_goto (tgt := 2) hx hb dX6_closeUp_50 (by decide) ?_
          have hP := hP.sub (ws' := [(tt 0, .inr (9, [.ref (tt 1), .ref (tt 3), .ref (tt 5), .int (nI nm)])), (tt 1, .inr (5, [.ref (tt 2)])), (tt 2, .inl (dA 0, 84, .inl tw)), (tt 3, .inr (5, [.ref (tt 4)])), (tt 4, .inl (dA 0, 84, .inl (fl (clF tw tp p0 nm) tp i2))), (tt 5, .inr (5, [.ref (tt 6)])), (tt 6, .inl (dA 0, 84, .inl tx))]) [0, 5, 6, 3, 4, 1, 2] rfl
          have hD := hD.sub (ws' := [(tt 0, .inr (9, [.ref (tt 1), .ref (tt 3), .ref (tt 5), .int (nI nm)])), (tt 1, .inr (5, [.ref (tt 2)])), (tt 2, .inl (dA 0, 84, .inl tw)), (tt 3, .inr (5, [.ref (tt 4)])), (tt 4, .inl (dA 0, 84, .inl (fl (clF tw tp p0 nm) tp i2))), (tt 5, .inr (5, [.ref (tt 6)])), (tt 6, .inl (dA 0, 84, .inl tx))]) [0, 5, 6, 3, 4, 1, 2] (by decide) rfl
          exact ih2 (i2 + 1) (fl (clF tw tp p0 nm) tp i2) (by omega) (by omega) (by omega) (fl_keep (cl_n c10)) _ _ hP hD hS ls (lv_sub hl [0, 2, 3] rfl)
        · refine lv_aload_n hx hb dX6_closeUp_31 rfl (lv_at hl 2 rfl) ?_
          refine va_get (D := D) (ci := 9) (v := .ref (tt 3)) (C := RX6) (T := TX6) (N := 4) hx hb hts inAX6 hown hK hP 0 rfl rfl 1 (by decide) (hts _ q211) (fun _ h9 => h9) rfl dX6_closeUp_32 ?_
          refine lv_iload_n hx hb dX6_closeUp_35 rfl (lv_at hl 1 rfl) ?_
          refine lv_iload_n hx hb dX6_closeUp_36 rfl (lv_at hl 0 rfl) ?_
          refine lv_aload_n hx hb dX6_closeUp_37 rfl (lv_at hl 2 rfl) ?_
          refine lv_iload_n hx hb dX6_closeUp_38 rfl (lv_at hl 0 rfl) ?_
          refine lv_iload_n hx hb dX6_closeUp_39 rfl (lv_at hl 3 rfl) ?_
          have hPc := hP.sub (ws' := [(tt 0, .inr (9, [.ref (tt 1), .ref (tt 3), .ref (tt 5), .int (nI nm)])), (tt 1, .inr (5, [.ref (tt 2)])), (tt 2, .inl (dA 0, 84, .inl tw)), (tt 3, .inr (5, [.ref (tt 4)])), (tt 4, .inl (dA 0, 84, .inl (fl (clF tw tp p0 nm) tp i2))), (tt 5, .inr (5, [.ref (tt 6)])), (tt 6, .inl (dA 0, 84, .inl tx))]) [0, 5, 6, 3, 4, 1, 2] rfl
          have hDc := hD.sub (ws' := [(tt 0, .inr (9, [.ref (tt 1), .ref (tt 3), .ref (tt 5), .int (nI nm)])), (tt 1, .inr (5, [.ref (tt 2)])), (tt 2, .inl (dA 0, 84, .inl tw)), (tt 3, .inr (5, [.ref (tt 4)])), (tt 4, .inl (dA 0, 84, .inl (fl (clF tw tp p0 nm) tp i2))), (tt 5, .inr (5, [.ref (tt 6)])), (tt 6, .inl (dA 0, 84, .inl tx))]) [0, 5, 6, 3, 4, 1, 2] (by decide) rfl
          have hFc := va_free (wc := [(tt 0, .inr (9, [.ref (tt 1), .ref (tt 3), .ref (tt 5), .int (nI nm)])), (tt 1, .inr (5, [.ref (tt 2)])), (tt 2, .inl (dA 0, 84, .inl tw)), (tt 3, .inr (5, [.ref (tt 4)])), (tt 4, .inl (dA 0, 84, .inl (fl (clF tw tp p0 nm) tp i2))), (tt 5, .inr (5, [.ref (tt 6)])), (tt 6, .inl (dA 0, 84, .inl tx))]) hD hS hA [0, 5, 6, 3, 4, 1, 2] rfl
          refine va_calli (va_runV (As := [.int (tp i2), .int p0]) (rest := [.int (tp i2), .int (nI i2), .ref (tt 3)]) ⟨hx, hb, hml, hown, hts⟩ (t_timesAhead l D dA E tt tw (fl (clF tw tp p0 nm) tp i2) tx nm (tp i2) p0 H.size  (by omega)) (cwV 2 hts (ga_V q221 q222 q219 q218 q220) rfl rfl rfl (by decide +kernel) ⟨(Nat.le_of_ble_eq_true rfl), (Nat.le_of_ble_eq_true rfl)⟩) ⟨pb_blind, va_recv hK hPc (ci := 9) (q0 := 0) rfl rfl, pb_pre hK hPc hDc hZ hS hFc _⟩ rfl rfl hl.1 rfl (lv_room (Nat.le_of_ble_eq_true rfl)) dX6_closeUp_40 ⟨(Nat.le_of_ble_eq_true rfl), (Nat.le_of_ble_eq_true rfl)⟩) hS (fun q _ h => hFc q h) hFc (fun r u t H1 locs ht hvm hw hB hz1 hk1 hS => ?_)
          refine W.widen (k := 0) (n := 0) (Nat.le_of_ble_eq_true rfl) (Nat.le_of_ble_eq_true rfl) ?_
          obtain ⟨r11, rfl⟩ : ∃ z, z = r := ⟨_, rfl⟩
          obtain ⟨u12, rfl⟩ : ∃ z, z = u := ⟨_, rfl⟩
          have hw13 := hw
          clear hw
          obtain ⟨hP1, hD1⟩ := hB
          rw [ht] at hP1
          obtain ⟨hP, hD⟩ := va_join (wr := []) (w1 := [(tt 0, .inr (9, [.ref (tt 1), .ref (tt 3), .ref (tt 5), .int (nI nm)])), (tt 1, .inr (5, [.ref (tt 2)])), (tt 2, .inl (dA 0, 84, .inl tw)), (tt 3, .inr (5, [.ref (tt 4)])), (tt 4, .inl (dA 0, 84, .inl (fl (clF tw tp p0 nm) tp i2))), (tt 5, .inr (5, [.ref (tt 6)])), (tt 6, .inl (dA 0, 84, .inl tx))]) hP hD [0, 5, 6, 3, 4, 1, 2] [] rfl rfl (by decide) (by decide) hk1 hFc hP1 hD1
          generalize H1 = H at hP hS ⊢
          have hP : va_P D vwCl [(tt 0, .inr (9, [.ref (tt 1), .ref (tt 3), .ref (tt 5), .int (nI nm)])), (tt 1, .inr (5, [.ref (tt 2)])), (tt 2, .inl (dA 0, 84, .inl tw)), (tt 3, .inr (5, [.ref (tt 4)])), (tt 4, .inl (dA 0, 84, .inl (fl (clF tw tp p0 nm) tp i2))), (tt 5, .inr (5, [.ref (tt 6)])), (tt 6, .inl (dA 0, 84, .inl tx))] H := hP
          have hD : va_D A [(tt 0, .inr (9, [.ref (tt 1), .ref (tt 3), .ref (tt 5), .int (nI nm)])), (tt 1, .inr (5, [.ref (tt 2)])), (tt 2, .inl (dA 0, 84, .inl tw)), (tt 3, .inr (5, [.ref (tt 4)])), (tt 4, .inl (dA 0, 84, .inl (fl (clF tw tp p0 nm) tp i2))), (tt 5, .inr (5, [.ref (tt 6)])), (tt 6, .inl (dA 0, 84, .inl tx))] := hD
          obtain rfl : r11 = nI (cntA tw (fl (clF tw tp p0 nm) tp i2) p0 (tp i2) nm) := hw13
          refine lv_isub hx hb dX6_closeUp_43 ?_
          have hPc := hP.sub (ws' := [(tt 3, .inr (5, [.ref (tt 4)])), (tt 4, .inl (dA 0, 84, .inl (fl (clF tw tp p0 nm) tp i2)))]) [3, 4] rfl
          have hDc := hD.sub (ws' := [(tt 3, .inr (5, [.ref (tt 4)])), (tt 4, .inl (dA 0, 84, .inl (fl (clF tw tp p0 nm) tp i2)))]) [3, 4] (by decide) rfl
          have hFc := va_free (wc := [(tt 3, .inr (5, [.ref (tt 4)])), (tt 4, .inl (dA 0, 84, .inl (fl (clF tw tp p0 nm) tp i2)))]) hD hS hA [3, 4] rfl
          refine va_callv (va_runV (As := [.int (nI i2), .int ((tp i2) - (nI (cntA tw (fl (clF tw tp p0 nm) tp i2) p0 (tp i2) nm)))]) (rest := []) ⟨hx, hb, hml, hown, hts⟩ (t_putN l D dA E (tt 3) (tt 4) 84 (fl (clF tw tp p0 nm) tp i2) i2 ((tp i2) - (nI (cntA tw (fl (clF tw tp p0 nm) tp i2) p0 (tp i2) nm))) H.size  (by omega) (by decide)) (cwV 2 hts (ga_V q209 q210 q207 q204 q208) rfl rfl rfl (by decide +kernel) ⟨(Nat.le_of_ble_eq_true rfl), (Nat.le_of_ble_eq_true rfl)⟩) ⟨pb_blind, va_recv hK hPc (ci := 5) (q0 := 0) rfl rfl, pb_pre hK hPc hDc hZ hS hFc _⟩ rfl rfl hl.1 rfl (lv_room (Nat.le_of_ble_eq_true rfl)) dX6_closeUp_44 ⟨(Nat.le_of_ble_eq_true rfl), (Nat.le_of_ble_eq_true rfl)⟩) hS (fun q _ h => hFc q h) hFc (fun u t H1 locs ht hvm hw hB hz1 hk1 hS => ?_)
          refine W.widen (k := 0) (n := 0) (Nat.le_of_ble_eq_true rfl) (Nat.le_of_ble_eq_true rfl) ?_
          obtain ⟨u14, rfl⟩ : ∃ z, z = u := ⟨_, rfl⟩
          have hw15 := hw
          clear hw
          obtain ⟨hP1, hD1⟩ := hB
          rw [ht] at hP1
          obtain ⟨hP, hD⟩ := va_join (wr := [(tt 0, .inr (9, [.ref (tt 1), .ref (tt 3), .ref (tt 5), .int (nI nm)])), (tt 1, .inr (5, [.ref (tt 2)])), (tt 2, .inl (dA 0, 84, .inl tw)), (tt 5, .inr (5, [.ref (tt 6)])), (tt 6, .inl (dA 0, 84, .inl tx))]) (w1 := [(tt 3, .inr (5, [.ref (tt 4)])), (tt 4, .inl (dA 0, 84, .inl (upd (fl (clF tw tp p0 nm) tp i2) i2 ((tp i2) - (nI (cntA tw (fl (clF tw tp p0 nm) tp i2) p0 (tp i2) nm))))))]) hP hD [3, 4] [0, 1, 2, 5, 6] rfl rfl (by decide) (by decide) hk1 hFc hP1 hD1
          generalize H1 = H at hP hS ⊢
          have hP : va_P D vwCl [(tt 0, .inr (9, [.ref (tt 1), .ref (tt 3), .ref (tt 5), .int (nI nm)])), (tt 1, .inr (5, [.ref (tt 2)])), (tt 2, .inl (dA 0, 84, .inl tw)), (tt 5, .inr (5, [.ref (tt 6)])), (tt 6, .inl (dA 0, 84, .inl tx)), (tt 3, .inr (5, [.ref (tt 4)])), (tt 4, .inl (dA 0, 84, .inl (upd (fl (clF tw tp p0 nm) tp i2) i2 ((tp i2) - (nI (cntA tw (fl (clF tw tp p0 nm) tp i2) p0 (tp i2) nm))))))] H := hP
          have hD : va_D A [(tt 0, .inr (9, [.ref (tt 1), .ref (tt 3), .ref (tt 5), .int (nI nm)])), (tt 1, .inr (5, [.ref (tt 2)])), (tt 2, .inl (dA 0, 84, .inl tw)), (tt 5, .inr (5, [.ref (tt 6)])), (tt 6, .inl (dA 0, 84, .inl tx)), (tt 3, .inr (5, [.ref (tt 4)])), (tt 4, .inl (dA 0, 84, .inl (upd (fl (clF tw tp p0 nm) tp i2) i2 ((tp i2) - (nI (cntA tw (fl (clF tw tp p0 nm) tp i2) p0 (tp i2) nm))))))] := hD
          refine lv_iinc (v := nI (i2 + 1)) (lv' := [(2, .int (nI (i2 + 1))), (3, .int (tp i2)), (0, .ref (tt 0)), (1, .int p0)]) hx hb dX6_closeUp_47 hl (k := 1) rfl (nI_add i2 1) (by decide) rfl (fun ls hl => ?_)
          refine lv_goto (tgt := 2) hx hb dX6_closeUp_50 (by decide) ?_
          have hP := hP.sub (ws' := [(tt 0, .inr (9, [.ref (tt 1), .ref (tt 3), .ref (tt 5), .int (nI nm)])), (tt 1, .inr (5, [.ref (tt 2)])), (tt 2, .inl (dA 0, 84, .inl tw)), (tt 3, .inr (5, [.ref (tt 4)])), (tt 4, .inl (dA 0, 84, .inl (upd (fl (clF tw tp p0 nm) tp i2) i2 ((tp i2) - (nI (cntA tw (fl (clF tw tp p0 nm) tp i2) p0 (tp i2) nm)))))), (tt 5, .inr (5, [.ref (tt 6)])), (tt 6, .inl (dA 0, 84, .inl tx))]) [0, 1, 2, 5, 6, 3, 4] rfl
          have hD := hD.sub (ws' := [(tt 0, .inr (9, [.ref (tt 1), .ref (tt 3), .ref (tt 5), .int (nI nm)])), (tt 1, .inr (5, [.ref (tt 2)])), (tt 2, .inl (dA 0, 84, .inl tw)), (tt 3, .inr (5, [.ref (tt 4)])), (tt 4, .inl (dA 0, 84, .inl (upd (fl (clF tw tp p0 nm) tp i2) i2 ((tp i2) - (nI (cntA tw (fl (clF tw tp p0 nm) tp i2) p0 (tp i2) nm)))))), (tt 5, .inr (5, [.ref (tt 6)])), (tt 6, .inl (dA 0, 84, .inl tx))]) [0, 1, 2, 5, 6, 3, 4] (by decide) rfl
          exact ih2 (i2 + 1) (upd (fl (clF tw tp p0 nm) tp i2) i2 ((tp i2) - (nI (cntA tw (fl (clF tw tp p0 nm) tp i2) p0 (tp i2) nm)))) (by omega) (by omega) (by omega) (fl_succ (cl_y c10)) _ _ hP hD hS ls (lv_sub hl [0, 2, 3] rfl)
  exact K2 (nm + 1) 0 tp (by omega) (by omega) (by omega) fl_0.symm _ _ hP hD hS ls hl

set_option maxHeartbeats 4000000 in
set_option maxRecDepth 100000 in
theorem t_times (l : Launch) (D : va_G) (dA : Nat → ClassId) (E : Nat) (tt : Nat → Nat) (tw tp tx : Nat → Int32) (nm : Nat) (p0 : Int32) (sz : Nat) (hnm : nm ≤ 84)  : Met l yX6_times (wq (.code yX6_times cX6_times 4 (some .int))) { frames := 1, cells := 0, slots := 0, locals := 21 } (va_Pc [.ref (tt 0), .int p0] (PcB D dA E [(tt 0, .inr (9, [.ref (tt 1), .ref (tt 3), .ref (tt 5), .int (nI nm)])), (tt 1, .inr (5, [.ref (tt 2)])), (tt 2, .inl (dA 0, 84, .inl tw)), (tt 3, .inr (5, [.ref (tt 4)])), (tt 4, .inl (dA 0, 84, .inl tp)), (tt 5, .inr (5, [.ref (tt 6)])), (tt 6, .inl (dA 0, 84, .inl tx))] sz)) (va_Qi (fun (r : Int32) (u : Unit) => r = nI (cn (fun i => decide (tw i = p0)) nm)) (fun u t => va_P D vwCl [(tt 0, .inr (9, [.ref (tt 1), .ref (tt 3), .ref (tt 5), .int (nI nm)])), (tt 1, .inr (5, [.ref (tt 2)])), (tt 2, .inl (dA 0, 84, .inl tw)), (tt 3, .inr (5, [.ref (tt 4)])), (tt 4, .inl (dA 0, 84, .inl tp)), (tt 5, .inr (5, [.ref (tt 6)])), (tt 6, .inl (dA 0, 84, .inl tx))] t.heap ∧ va_D (va_A [(tt 0, .inr (9, [.ref (tt 1), .ref (tt 3), .ref (tt 5), .int (nI nm)])), (tt 1, .inr (5, [.ref (tt 2)])), (tt 2, .inl (dA 0, 84, .inl tw)), (tt 3, .inr (5, [.ref (tt 4)])), (tt 4, .inl (dA 0, 84, .inl tp)), (tt 5, .inr (5, [.ref (tt 6)])), (tt 6, .inl (dA 0, 84, .inl tx))] sz) [(tt 0, .inr (9, [.ref (tt 1), .ref (tt 3), .ref (tt 5), .int (nI nm)])), (tt 1, .inr (5, [.ref (tt 2)])), (tt 2, .inl (dA 0, 84, .inl tw)), (tt 3, .inr (5, [.ref (tt 4)])), (tt 4, .inl (dA 0, 84, .inl tp)), (tt 5, .inr (5, [.ref (tt 6)])), (tt 6, .inl (dA 0, 84, .inl tx))]) (va_A [(tt 0, .inr (9, [.ref (tt 1), .ref (tt 3), .ref (tt 5), .int (nI nm)])), (tt 1, .inr (5, [.ref (tt 2)])), (tt 2, .inl (dA 0, 84, .inl tw)), (tt 3, .inr (5, [.ref (tt 4)])), (tt 4, .inl (dA 0, 84, .inl tp)), (tt 5, .inr (5, [.ref (tt 6)])), (tt 6, .inl (dA 0, 84, .inl tx))] sz)) 0 0 (va_A [(tt 0, .inr (9, [.ref (tt 1), .ref (tt 3), .ref (tt 5), .int (nI nm)])), (tt 1, .inr (5, [.ref (tt 2)])), (tt 2, .inl (dA 0, 84, .inl tw)), (tt 3, .inr (5, [.ref (tt 4)])), (tt 4, .inl (dA 0, 84, .inl tp)), (tt 5, .inr (5, [.ref (tt 6)])), (tt 6, .inl (dA 0, 84, .inl tx))] sz) := by
  refine mb_of (Qc := fun A => va_Qi (fun (r : Int32) (u : Unit) => r = nI (cn (fun i => decide (tw i = p0)) nm)) (fun u t => va_P D vwCl [(tt 0, .inr (9, [.ref (tt 1), .ref (tt 3), .ref (tt 5), .int (nI nm)])), (tt 1, .inr (5, [.ref (tt 2)])), (tt 2, .inl (dA 0, 84, .inl tw)), (tt 3, .inr (5, [.ref (tt 4)])), (tt 4, .inl (dA 0, 84, .inl tp)), (tt 5, .inr (5, [.ref (tt 6)])), (tt 6, .inl (dA 0, 84, .inl tx))] t.heap ∧ va_D A [(tt 0, .inr (9, [.ref (tt 1), .ref (tt 3), .ref (tt 5), .int (nI nm)])), (tt 1, .inr (5, [.ref (tt 2)])), (tt 2, .inl (dA 0, 84, .inl tw)), (tt 3, .inr (5, [.ref (tt 4)])), (tt 4, .inl (dA 0, 84, .inl tp)), (tt 5, .inr (5, [.ref (tt 6)])), (tt 6, .inl (dA 0, 84, .inl tx))]) A) RX6 rfl (by decide) (Nat.le_of_ble_eq_true rfl) ?_
  intro p e s m args below meth c hae hx hb hr hts hown hlocks hml hnm hP hK A hAe hD hZ hS hA ls hl
  have hl : lv_has ls 4 [(0, .ref (tt 0)), (1, .int p0)] := hl
  refine lv_iconst (v := 0) hx hb dX6_times_0 (by decide) ?_
  refine lv_istore_n (lv' := [(2, .int 0), (0, .ref (tt 0)), (1, .int p0)]) hx hb dX6_times_1 rfl hl (by decide) rfl (fun ls hl => ?_)
  refine lv_iconst (v := 0) hx hb dX6_times_2 (by decide) ?_
  refine lv_istore_n (lv' := [(3, .int 0), (2, .int 0), (0, .ref (tt 0)), (1, .int p0)]) hx hb dX6_times_3 rfl hl (by decide) rfl (fun ls hl => ?_)
  have K4 : ∀ (k4 i4 : Nat) (g4_0 : Int32), 0 ≤ i4 → i4 ≤ nm → nm < i4 + k4 → (g4_0 = nI (cn (fun i => decide (tw i = p0)) i4)) → ∀ (H : Heap) (locs : List Loc), va_P D vwCl [(tt 0, .inr (9, [.ref (tt 1), .ref (tt 3), .ref (tt 5), .int (nI nm)])), (tt 1, .inr (5, [.ref (tt 2)])), (tt 2, .inl (dA 0, 84, .inl tw)), (tt 3, .inr (5, [.ref (tt 4)])), (tt 4, .inl (dA 0, 84, .inl tp)), (tt 5, .inr (5, [.ref (tt 6)])), (tt 6, .inl (dA 0, 84, .inl tx))] H → va_D A [(tt 0, .inr (9, [.ref (tt 1), .ref (tt 3), .ref (tt 5), .int (nI nm)])), (tt 1, .inr (5, [.ref (tt 2)])), (tt 2, .inl (dA 0, 84, .inl tw)), (tt 3, .inr (5, [.ref (tt 4)])), (tt 4, .inl (dA 0, 84, .inl tp)), (tt 5, .inr (5, [.ref (tt 6)])), (tt 6, .inl (dA 0, 84, .inl tx))] → va_S A s.heap H locs → ∀ ls : Array Slot, lv_has ls 4 [(3, .int (nI i4)), (2, .int g4_0), (0, .ref (tt 0)), (1, .int p0)] → W p l e { frames := 1, cells := 0, slots := 0, locals := 21 } s m args below meth c H locs 0 0 (MQ below (va_Qi (fun (r : Int32) (u : Unit) => r = nI (cn (fun i => decide (tw i = p0)) nm)) (fun u t => va_P D vwCl [(tt 0, .inr (9, [.ref (tt 1), .ref (tt 3), .ref (tt 5), .int (nI nm)])), (tt 1, .inr (5, [.ref (tt 2)])), (tt 2, .inl (dA 0, 84, .inl tw)), (tt 3, .inr (5, [.ref (tt 4)])), (tt 4, .inl (dA 0, 84, .inl tp)), (tt 5, .inr (5, [.ref (tt 6)])), (tt 6, .inl (dA 0, 84, .inl tx))] t.heap ∧ va_D A [(tt 0, .inr (9, [.ref (tt 1), .ref (tt 3), .ref (tt 5), .int (nI nm)])), (tt 1, .inr (5, [.ref (tt 2)])), (tt 2, .inl (dA 0, 84, .inl tw)), (tt 3, .inr (5, [.ref (tt 4)])), (tt 4, .inl (dA 0, 84, .inl tp)), (tt 5, .inr (5, [.ref (tt 6)])), (tt 6, .inl (dA 0, 84, .inl tx))]) A) args s 0 0 A) (F0 m 4 ls []) := by
    intro k4
    induction k4 with
    | zero => intro i4 g4_0 h1 h2 h3; exact absurd h3 (by omega)
    | succ k4 ih4 =>
      intro i4 g4_0 hlo4 hhi4 hms4 hinv4 H locs hP hD hS ls hl
      have eg4_0 := hinv4
      subst eg4_0
      have hcn := cn_le (fun i => decide (tw i = p0)) i4
      refine lv_iload_n hx hb dX6_times_4 rfl (lv_at hl 0 rfl) ?_
      refine lv_aload_n hx hb dX6_times_5 rfl (lv_at hl 2 rfl) ?_
      refine va_get (D := D) (ci := 9) (v := .int (nI nm)) (C := RX6) (T := TX6) (N := 4) hx hb hts inAX6 hown hK hP 0 rfl rfl 3 (by decide) (hts _ q205) (fun _ h9 => h9) rfl dX6_times_6 ?_
      refine lv_icmp_ge (tgt := 33) hx hb dX6_times_9 (by decide) (fun c1 => ?_) (fun c1 => ?_)
      · replace c1 := (nI_leI (a := nm) (b := i4) (by omega) (by omega)).mp c1
        obtain rfl : nm = i4 := (by omega)
        have hP : va_P D vwCl [(tt 0, .inr (9, [.ref (tt 1), .ref (tt 3), .ref (tt 5), .int (nI nm)])), (tt 1, .inr (5, [.ref (tt 2)])), (tt 2, .inl (dA 0, 84, .inl tw)), (tt 3, .inr (5, [.ref (tt 4)])), (tt 4, .inl (dA 0, 84, .inl tp)), (tt 5, .inr (5, [.ref (tt 6)])), (tt 6, .inl (dA 0, 84, .inl tx))] H := hP
        have hD : va_D A [(tt 0, .inr (9, [.ref (tt 1), .ref (tt 3), .ref (tt 5), .int (nI nm)])), (tt 1, .inr (5, [.ref (tt 2)])), (tt 2, .inl (dA 0, 84, .inl tw)), (tt 3, .inr (5, [.ref (tt 4)])), (tt 4, .inl (dA 0, 84, .inl tp)), (tt 5, .inr (5, [.ref (tt 6)])), (tt 6, .inl (dA 0, 84, .inl tx))] := hD
        refine lv_iload_n hx hb dX6_times_33 rfl (lv_at hl 1 rfl) ?_
        refine W.widen (k := 0) (n := 0) (Nat.le_of_ble_eq_true rfl) (Nat.le_of_ble_eq_true rfl) ?_
        have hP9 := hP.sub (ws' := [(tt 0, .inr (9, [.ref (tt 1), .ref (tt 3), .ref (tt 5), .int (nI nm)])), (tt 1, .inr (5, [.ref (tt 2)])), (tt 2, .inl (dA 0, 84, .inl tw)), (tt 3, .inr (5, [.ref (tt 4)])), (tt 4, .inl (dA 0, 84, .inl tp)), (tt 5, .inr (5, [.ref (tt 6)])), (tt 6, .inl (dA 0, 84, .inl tx))]) [0, 1, 2, 3, 4, 5, 6] rfl
        have hD9 := hD.sub (ws' := [(tt 0, .inr (9, [.ref (tt 1), .ref (tt 3), .ref (tt 5), .int (nI nm)])), (tt 1, .inr (5, [.ref (tt 2)])), (tt 2, .inl (dA 0, 84, .inl tw)), (tt 3, .inr (5, [.ref (tt 4)])), (tt 4, .inl (dA 0, 84, .inl tp)), (tt 5, .inr (5, [.ref (tt 6)])), (tt 6, .inl (dA 0, 84, .inl tx))]) [0, 1, 2, 3, 4, 5, 6] (by decide) rfl
        exact W.iret (v := (nI (cn (fun i => decide (tw i = p0)) nm))) hx hb hr (fun t ht hW => ⟨⟨(nI (cn (fun i => decide (tw i = p0)) nm)), (), rfl, rfl, ⟨by rw [ht]; exact hP9, hD9⟩⟩, hS.F ht⟩) hS.2.2 dX6_times_34
      · replace c1 := mt (nI_leI (a := nm) (b := i4) (by omega) (by omega)).mpr c1
        refine lv_aload_n hx hb dX6_times_12 rfl (lv_at hl 2 rfl) ?_
        refine va_get (D := D) (ci := 9) (v := .ref (tt 1)) (C := RX6) (T := TX6) (N := 4) hx hb hts inAX6 hown hK hP 0 rfl rfl 0 (by decide) (hts _ q206) (fun _ h9 => h9) rfl dX6_times_13 ?_
        refine lv_iload_n hx hb dX6_times_16 rfl (lv_at hl 0 rfl) ?_
        have hPc := hP.sub (ws' := [(tt 1, .inr (5, [.ref (tt 2)])), (tt 2, .inl (dA 0, 84, .inl tw))]) [1, 2] rfl
        have hDc := hD.sub (ws' := [(tt 1, .inr (5, [.ref (tt 2)])), (tt 2, .inl (dA 0, 84, .inl tw))]) [1, 2] (by decide) rfl
        have hFc := va_free (wc := [(tt 1, .inr (5, [.ref (tt 2)])), (tt 2, .inl (dA 0, 84, .inl tw))]) hD hS hA [1, 2] rfl
        refine va_calli (va_runV (As := [.int (nI i4)]) (rest := []) ⟨hx, hb, hml, hown, hts⟩ (t_getN l D dA E (tt 1) (tt 2) 84 tw i4 H.size  (by omega) (by decide)) (cwV 1 hts (ga_V q213 q203 q200 q204 q201) rfl rfl rfl (by decide +kernel) ⟨(Nat.le_of_ble_eq_true rfl), (Nat.le_of_ble_eq_true rfl)⟩) ⟨pb_blind, va_recv hK hPc (ci := 5) (q0 := 0) rfl rfl, pb_pre hK hPc hDc hZ hS hFc _⟩ rfl rfl hl.1 rfl (lv_room (Nat.le_of_ble_eq_true rfl)) dX6_times_17 ⟨(Nat.le_of_ble_eq_true rfl), (Nat.le_of_ble_eq_true rfl)⟩) hS (fun q _ h => hFc q h) hFc (fun r u t H1 locs ht hvm hw hB hz1 hk1 hS => ?_)
        refine W.widen (k := 0) (n := 0) (Nat.le_of_ble_eq_true rfl) (Nat.le_of_ble_eq_true rfl) ?_
        obtain ⟨r2, rfl⟩ : ∃ z, z = r := ⟨_, rfl⟩
        obtain ⟨u3, rfl⟩ : ∃ z, z = u := ⟨_, rfl⟩
        have hw4 := hw
        clear hw
        obtain ⟨hP1, hD1⟩ := hB
        rw [ht] at hP1
        obtain ⟨hP, hD⟩ := va_join (wr := [(tt 0, .inr (9, [.ref (tt 1), .ref (tt 3), .ref (tt 5), .int (nI nm)])), (tt 3, .inr (5, [.ref (tt 4)])), (tt 4, .inl (dA 0, 84, .inl tp)), (tt 5, .inr (5, [.ref (tt 6)])), (tt 6, .inl (dA 0, 84, .inl tx))]) (w1 := [(tt 1, .inr (5, [.ref (tt 2)])), (tt 2, .inl (dA 0, 84, .inl tw))]) hP hD [1, 2] [0, 3, 4, 5, 6] rfl rfl (by decide) (by decide) hk1 hFc hP1 hD1
        generalize H1 = H at hP hS ⊢
        have hP : va_P D vwCl [(tt 0, .inr (9, [.ref (tt 1), .ref (tt 3), .ref (tt 5), .int (nI nm)])), (tt 3, .inr (5, [.ref (tt 4)])), (tt 4, .inl (dA 0, 84, .inl tp)), (tt 5, .inr (5, [.ref (tt 6)])), (tt 6, .inl (dA 0, 84, .inl tx)), (tt 1, .inr (5, [.ref (tt 2)])), (tt 2, .inl (dA 0, 84, .inl tw))] H := hP
        have hD : va_D A [(tt 0, .inr (9, [.ref (tt 1), .ref (tt 3), .ref (tt 5), .int (nI nm)])), (tt 3, .inr (5, [.ref (tt 4)])), (tt 4, .inl (dA 0, 84, .inl tp)), (tt 5, .inr (5, [.ref (tt 6)])), (tt 6, .inl (dA 0, 84, .inl tx)), (tt 1, .inr (5, [.ref (tt 2)])), (tt 2, .inl (dA 0, 84, .inl tw))] := hD
        obtain rfl : r2 = tw i4 := hw4
        refine lv_iload_n hx hb dX6_times_20 rfl (lv_at hl 3 rfl) ?_
        refine lv_icmp_ne (tgt := 27) hx hb dX6_times_21 (by decide) (fun c5 => ?_) (fun c5 => ?_)
        · refine lv_iinc (v := nI (i4 + 1)) (lv' := [(3, .int (nI (i4 + 1))), (2, .int (nI (cn (fun i => decide (tw i = p0)) i4))), (0, .ref (tt 0)), (1, .int p0)]) hx hb dX6_times_27 hl (k := 0) rfl (nI_add i4 1) (by decide) rfl (fun ls hl => ?_)
          refine lv_goto (tgt := 4) hx hb dX6_times_30 (by decide) ?_
          have hP := hP.sub (ws' := [(tt 0, .inr (9, [.ref (tt 1), .ref (tt 3), .ref (tt 5), .int (nI nm)])), (tt 1, .inr (5, [.ref (tt 2)])), (tt 2, .inl (dA 0, 84, .inl tw)), (tt 3, .inr (5, [.ref (tt 4)])), (tt 4, .inl (dA 0, 84, .inl tp)), (tt 5, .inr (5, [.ref (tt 6)])), (tt 6, .inl (dA 0, 84, .inl tx))]) [0, 5, 6, 1, 2, 3, 4] rfl
          have hD := hD.sub (ws' := [(tt 0, .inr (9, [.ref (tt 1), .ref (tt 3), .ref (tt 5), .int (nI nm)])), (tt 1, .inr (5, [.ref (tt 2)])), (tt 2, .inl (dA 0, 84, .inl tw)), (tt 3, .inr (5, [.ref (tt 4)])), (tt 4, .inl (dA 0, 84, .inl tp)), (tt 5, .inr (5, [.ref (tt 6)])), (tt 6, .inl (dA 0, 84, .inl tx))]) [0, 5, 6, 1, 2, 3, 4] (by decide) rfl
          exact ih4 (i4 + 1) (nI (cn (fun i => decide (tw i = p0)) i4)) (by omega) (by omega) (by omega) (cn_n' (f := fun i => decide (tw i = p0)) (decide_eq_false c5)) _ _ hP hD hS ls (lv_sub hl [0, 1, 2, 3] rfl)
        · refine lv_iinc (v := nI ((cn (fun i => decide (tw i = p0)) i4) + 1)) (lv' := [(2, .int (nI ((cn (fun i => decide (tw i = p0)) i4) + 1))), (3, .int (nI i4)), (0, .ref (tt 0)), (1, .int p0)]) hx hb dX6_times_24 hl (k := 1) rfl (nI_add (cn (fun i => decide (tw i = p0)) i4) 1) (by decide) rfl (fun ls hl => ?_)
          refine lv_iinc (v := nI (i4 + 1)) (lv' := [(3, .int (nI (i4 + 1))), (2, .int (nI ((cn (fun i => decide (tw i = p0)) i4) + 1))), (0, .ref (tt 0)), (1, .int p0)]) hx hb dX6_times_27 hl (k := 1) rfl (nI_add i4 1) (by decide) rfl (fun ls hl => ?_)
          refine lv_goto (tgt := 4) hx hb dX6_times_30 (by decide) ?_
          have hP := hP.sub (ws' := [(tt 0, .inr (9, [.ref (tt 1), .ref (tt 3), .ref (tt 5), .int (nI nm)])), (tt 1, .inr (5, [.ref (tt 2)])), (tt 2, .inl (dA 0, 84, .inl tw)), (tt 3, .inr (5, [.ref (tt 4)])), (tt 4, .inl (dA 0, 84, .inl tp)), (tt 5, .inr (5, [.ref (tt 6)])), (tt 6, .inl (dA 0, 84, .inl tx))]) [0, 5, 6, 1, 2, 3, 4] rfl
          have hD := hD.sub (ws' := [(tt 0, .inr (9, [.ref (tt 1), .ref (tt 3), .ref (tt 5), .int (nI nm)])), (tt 1, .inr (5, [.ref (tt 2)])), (tt 2, .inl (dA 0, 84, .inl tw)), (tt 3, .inr (5, [.ref (tt 4)])), (tt 4, .inl (dA 0, 84, .inl tp)), (tt 5, .inr (5, [.ref (tt 6)])), (tt 6, .inl (dA 0, 84, .inl tx))]) [0, 5, 6, 1, 2, 3, 4] (by decide) rfl
          exact ih4 (i4 + 1) (nI ((cn (fun i => decide (tw i = p0)) i4) + 1)) (by omega) (by omega) (by omega) (wc_y c5) _ _ hP hD hS ls (lv_sub hl [0, 1, 2, 3] rfl)
  exact K4 (nm + 1) 0 0 (by omega) (by omega) (by omega) rfl _ _ hP hD hS ls hl

set_option maxHeartbeats 4000000 in
set_option maxRecDepth 100000 in
theorem t_timesAt (l : Launch) (D : va_G) (dA : Nat → ClassId) (E : Nat) (tt : Nat → Nat) (tw tp tx : Nat → Int32) (nm : Nat) (p0 p1 : Int32) (sz : Nat) (hnm : nm ≤ 84)  : Met l yX6_timesAt (wq (.code yX6_timesAt cX6_timesAt 5 (some .int))) { frames := 1, cells := 0, slots := 0, locals := 21 } (va_Pc [.ref (tt 0), .int p0, .int p1] (PcB D dA E [(tt 0, .inr (9, [.ref (tt 1), .ref (tt 3), .ref (tt 5), .int (nI nm)])), (tt 1, .inr (5, [.ref (tt 2)])), (tt 2, .inl (dA 0, 84, .inl tw)), (tt 3, .inr (5, [.ref (tt 4)])), (tt 4, .inl (dA 0, 84, .inl tp)), (tt 5, .inr (5, [.ref (tt 6)])), (tt 6, .inl (dA 0, 84, .inl tx))] sz)) (va_Qi (fun (r : Int32) (u : Unit) => r = nI (sat tw tp p1 p0 nm)) (fun u t => va_P D vwCl [(tt 0, .inr (9, [.ref (tt 1), .ref (tt 3), .ref (tt 5), .int (nI nm)])), (tt 1, .inr (5, [.ref (tt 2)])), (tt 2, .inl (dA 0, 84, .inl tw)), (tt 3, .inr (5, [.ref (tt 4)])), (tt 4, .inl (dA 0, 84, .inl tp)), (tt 5, .inr (5, [.ref (tt 6)])), (tt 6, .inl (dA 0, 84, .inl tx))] t.heap ∧ va_D (va_A [(tt 0, .inr (9, [.ref (tt 1), .ref (tt 3), .ref (tt 5), .int (nI nm)])), (tt 1, .inr (5, [.ref (tt 2)])), (tt 2, .inl (dA 0, 84, .inl tw)), (tt 3, .inr (5, [.ref (tt 4)])), (tt 4, .inl (dA 0, 84, .inl tp)), (tt 5, .inr (5, [.ref (tt 6)])), (tt 6, .inl (dA 0, 84, .inl tx))] sz) [(tt 0, .inr (9, [.ref (tt 1), .ref (tt 3), .ref (tt 5), .int (nI nm)])), (tt 1, .inr (5, [.ref (tt 2)])), (tt 2, .inl (dA 0, 84, .inl tw)), (tt 3, .inr (5, [.ref (tt 4)])), (tt 4, .inl (dA 0, 84, .inl tp)), (tt 5, .inr (5, [.ref (tt 6)])), (tt 6, .inl (dA 0, 84, .inl tx))]) (va_A [(tt 0, .inr (9, [.ref (tt 1), .ref (tt 3), .ref (tt 5), .int (nI nm)])), (tt 1, .inr (5, [.ref (tt 2)])), (tt 2, .inl (dA 0, 84, .inl tw)), (tt 3, .inr (5, [.ref (tt 4)])), (tt 4, .inl (dA 0, 84, .inl tp)), (tt 5, .inr (5, [.ref (tt 6)])), (tt 6, .inl (dA 0, 84, .inl tx))] sz)) 0 0 (va_A [(tt 0, .inr (9, [.ref (tt 1), .ref (tt 3), .ref (tt 5), .int (nI nm)])), (tt 1, .inr (5, [.ref (tt 2)])), (tt 2, .inl (dA 0, 84, .inl tw)), (tt 3, .inr (5, [.ref (tt 4)])), (tt 4, .inl (dA 0, 84, .inl tp)), (tt 5, .inr (5, [.ref (tt 6)])), (tt 6, .inl (dA 0, 84, .inl tx))] sz) := by
  refine mb_of (Qc := fun A => va_Qi (fun (r : Int32) (u : Unit) => r = nI (sat tw tp p1 p0 nm)) (fun u t => va_P D vwCl [(tt 0, .inr (9, [.ref (tt 1), .ref (tt 3), .ref (tt 5), .int (nI nm)])), (tt 1, .inr (5, [.ref (tt 2)])), (tt 2, .inl (dA 0, 84, .inl tw)), (tt 3, .inr (5, [.ref (tt 4)])), (tt 4, .inl (dA 0, 84, .inl tp)), (tt 5, .inr (5, [.ref (tt 6)])), (tt 6, .inl (dA 0, 84, .inl tx))] t.heap ∧ va_D A [(tt 0, .inr (9, [.ref (tt 1), .ref (tt 3), .ref (tt 5), .int (nI nm)])), (tt 1, .inr (5, [.ref (tt 2)])), (tt 2, .inl (dA 0, 84, .inl tw)), (tt 3, .inr (5, [.ref (tt 4)])), (tt 4, .inl (dA 0, 84, .inl tp)), (tt 5, .inr (5, [.ref (tt 6)])), (tt 6, .inl (dA 0, 84, .inl tx))]) A) RX6 rfl (by decide) (Nat.le_of_ble_eq_true rfl) ?_
  intro p e s m args below meth c hae hx hb hr hts hown hlocks hml hnm hP hK A hAe hD hZ hS hA ls hl
  have hl : lv_has ls 5 [(0, .ref (tt 0)), (1, .int p0), (2, .int p1)] := hl
  refine lv_iconst (v := 0) hx hb dX6_timesAt_0 (by decide) ?_
  refine lv_istore_n (lv' := [(3, .int 0), (0, .ref (tt 0)), (1, .int p0), (2, .int p1)]) hx hb dX6_timesAt_1 rfl hl (by decide) rfl (fun ls hl => ?_)
  refine lv_iconst (v := 0) hx hb dX6_timesAt_2 (by decide) ?_
  refine lv_istore (lv' := [(4, .int 0), (3, .int 0), (0, .ref (tt 0)), (1, .int p0), (2, .int p1)]) hx hb dX6_timesAt_3 hl (by decide) rfl (fun ls hl => ?_)
  have K5 : ∀ (k5 i5 : Nat) (g5_0 : Int32), 0 ≤ i5 → i5 ≤ nm → nm < i5 + k5 → (g5_0 = nI (sat tw tp p1 p0 i5)) → ∀ (H : Heap) (locs : List Loc), va_P D vwCl [(tt 0, .inr (9, [.ref (tt 1), .ref (tt 3), .ref (tt 5), .int (nI nm)])), (tt 1, .inr (5, [.ref (tt 2)])), (tt 2, .inl (dA 0, 84, .inl tw)), (tt 3, .inr (5, [.ref (tt 4)])), (tt 4, .inl (dA 0, 84, .inl tp)), (tt 5, .inr (5, [.ref (tt 6)])), (tt 6, .inl (dA 0, 84, .inl tx))] H → va_D A [(tt 0, .inr (9, [.ref (tt 1), .ref (tt 3), .ref (tt 5), .int (nI nm)])), (tt 1, .inr (5, [.ref (tt 2)])), (tt 2, .inl (dA 0, 84, .inl tw)), (tt 3, .inr (5, [.ref (tt 4)])), (tt 4, .inl (dA 0, 84, .inl tp)), (tt 5, .inr (5, [.ref (tt 6)])), (tt 6, .inl (dA 0, 84, .inl tx))] → va_S A s.heap H locs → ∀ ls : Array Slot, lv_has ls 5 [(4, .int (nI i5)), (3, .int g5_0), (0, .ref (tt 0)), (1, .int p0), (2, .int p1)] → W p l e { frames := 1, cells := 0, slots := 0, locals := 21 } s m args below meth c H locs 0 0 (MQ below (va_Qi (fun (r : Int32) (u : Unit) => r = nI (sat tw tp p1 p0 nm)) (fun u t => va_P D vwCl [(tt 0, .inr (9, [.ref (tt 1), .ref (tt 3), .ref (tt 5), .int (nI nm)])), (tt 1, .inr (5, [.ref (tt 2)])), (tt 2, .inl (dA 0, 84, .inl tw)), (tt 3, .inr (5, [.ref (tt 4)])), (tt 4, .inl (dA 0, 84, .inl tp)), (tt 5, .inr (5, [.ref (tt 6)])), (tt 6, .inl (dA 0, 84, .inl tx))] t.heap ∧ va_D A [(tt 0, .inr (9, [.ref (tt 1), .ref (tt 3), .ref (tt 5), .int (nI nm)])), (tt 1, .inr (5, [.ref (tt 2)])), (tt 2, .inl (dA 0, 84, .inl tw)), (tt 3, .inr (5, [.ref (tt 4)])), (tt 4, .inl (dA 0, 84, .inl tp)), (tt 5, .inr (5, [.ref (tt 6)])), (tt 6, .inl (dA 0, 84, .inl tx))]) A) args s 0 0 A) (F0 m 5 ls []) := by
    intro k5
    induction k5 with
    | zero => intro i5 g5_0 h1 h2 h3; exact absurd h3 (by omega)
    | succ k5 ih5 =>
      intro i5 g5_0 hlo5 hhi5 hms5 hinv5 H locs hP hD hS ls hl
      have eg5_0 := hinv5
      subst eg5_0
      have hcn := sat_le tw tp p1 p0 i5
      refine lv_iload hx hb dX6_timesAt_5 (lv_at hl 0 rfl) ?_
      refine lv_aload_n hx hb dX6_timesAt_7 rfl (lv_at hl 2 rfl) ?_
      refine va_get (D := D) (ci := 9) (v := .int (nI nm)) (C := RX6) (T := TX6) (N := 4) hx hb hts inAX6 hown hK hP 0 rfl rfl 3 (by decide) (hts _ q205) (fun _ h9 => h9) rfl dX6_timesAt_8 ?_
      refine lv_icmp_ge (tgt := 49) hx hb dX6_timesAt_11 (by decide) (fun c1 => ?_) (fun c1 => ?_)
      · replace c1 := (nI_leI (a := nm) (b := i5) (by omega) (by omega)).mp c1
        obtain rfl : nm = i5 := (by omega)
        have hP : va_P D vwCl [(tt 0, .inr (9, [.ref (tt 1), .ref (tt 3), .ref (tt 5), .int (nI nm)])), (tt 1, .inr (5, [.ref (tt 2)])), (tt 2, .inl (dA 0, 84, .inl tw)), (tt 3, .inr (5, [.ref (tt 4)])), (tt 4, .inl (dA 0, 84, .inl tp)), (tt 5, .inr (5, [.ref (tt 6)])), (tt 6, .inl (dA 0, 84, .inl tx))] H := hP
        have hD : va_D A [(tt 0, .inr (9, [.ref (tt 1), .ref (tt 3), .ref (tt 5), .int (nI nm)])), (tt 1, .inr (5, [.ref (tt 2)])), (tt 2, .inl (dA 0, 84, .inl tw)), (tt 3, .inr (5, [.ref (tt 4)])), (tt 4, .inl (dA 0, 84, .inl tp)), (tt 5, .inr (5, [.ref (tt 6)])), (tt 6, .inl (dA 0, 84, .inl tx))] := hD
        refine lv_iload_n hx hb dX6_timesAt_49 rfl (lv_at hl 1 rfl) ?_
        refine W.widen (k := 0) (n := 0) (Nat.le_of_ble_eq_true rfl) (Nat.le_of_ble_eq_true rfl) ?_
        have hP9 := hP.sub (ws' := [(tt 0, .inr (9, [.ref (tt 1), .ref (tt 3), .ref (tt 5), .int (nI nm)])), (tt 1, .inr (5, [.ref (tt 2)])), (tt 2, .inl (dA 0, 84, .inl tw)), (tt 3, .inr (5, [.ref (tt 4)])), (tt 4, .inl (dA 0, 84, .inl tp)), (tt 5, .inr (5, [.ref (tt 6)])), (tt 6, .inl (dA 0, 84, .inl tx))]) [0, 1, 2, 3, 4, 5, 6] rfl
        have hD9 := hD.sub (ws' := [(tt 0, .inr (9, [.ref (tt 1), .ref (tt 3), .ref (tt 5), .int (nI nm)])), (tt 1, .inr (5, [.ref (tt 2)])), (tt 2, .inl (dA 0, 84, .inl tw)), (tt 3, .inr (5, [.ref (tt 4)])), (tt 4, .inl (dA 0, 84, .inl tp)), (tt 5, .inr (5, [.ref (tt 6)])), (tt 6, .inl (dA 0, 84, .inl tx))]) [0, 1, 2, 3, 4, 5, 6] (by decide) rfl
        exact W.iret (v := (nI (sat tw tp p1 p0 nm))) hx hb hr (fun t ht hW => ⟨⟨(nI (sat tw tp p1 p0 nm)), (), rfl, rfl, ⟨by rw [ht]; exact hP9, hD9⟩⟩, hS.F ht⟩) hS.2.2 dX6_timesAt_50
      · replace c1 := mt (nI_leI (a := nm) (b := i5) (by omega) (by omega)).mpr c1
        refine lv_aload_n hx hb dX6_timesAt_14 rfl (lv_at hl 2 rfl) ?_
        refine va_get (D := D) (ci := 9) (v := .ref (tt 1)) (C := RX6) (T := TX6) (N := 4) hx hb hts inAX6 hown hK hP 0 rfl rfl 0 (by decide) (hts _ q206) (fun _ h9 => h9) rfl dX6_timesAt_15 ?_
        refine lv_iload hx hb dX6_timesAt_18 (lv_at hl 0 rfl) ?_
        have hPc := hP.sub (ws' := [(tt 1, .inr (5, [.ref (tt 2)])), (tt 2, .inl (dA 0, 84, .inl tw))]) [1, 2] rfl
        have hDc := hD.sub (ws' := [(tt 1, .inr (5, [.ref (tt 2)])), (tt 2, .inl (dA 0, 84, .inl tw))]) [1, 2] (by decide) rfl
        have hFc := va_free (wc := [(tt 1, .inr (5, [.ref (tt 2)])), (tt 2, .inl (dA 0, 84, .inl tw))]) hD hS hA [1, 2] rfl
        refine va_calli (va_runV (As := [.int (nI i5)]) (rest := []) ⟨hx, hb, hml, hown, hts⟩ (t_getN l D dA E (tt 1) (tt 2) 84 tw i5 H.size  (by omega) (by decide)) (cwV 1 hts (ga_V q213 q203 q200 q204 q201) rfl rfl rfl (by decide +kernel) ⟨(Nat.le_of_ble_eq_true rfl), (Nat.le_of_ble_eq_true rfl)⟩) ⟨pb_blind, va_recv hK hPc (ci := 5) (q0 := 0) rfl rfl, pb_pre hK hPc hDc hZ hS hFc _⟩ rfl rfl hl.1 rfl (lv_room (Nat.le_of_ble_eq_true rfl)) dX6_timesAt_20 ⟨(Nat.le_of_ble_eq_true rfl), (Nat.le_of_ble_eq_true rfl)⟩) hS (fun q _ h => hFc q h) hFc (fun r u t H1 locs ht hvm hw hB hz1 hk1 hS => ?_)
        refine W.widen (k := 0) (n := 0) (Nat.le_of_ble_eq_true rfl) (Nat.le_of_ble_eq_true rfl) ?_
        obtain ⟨r2, rfl⟩ : ∃ z, z = r := ⟨_, rfl⟩
        obtain ⟨u3, rfl⟩ : ∃ z, z = u := ⟨_, rfl⟩
        have hw4 := hw
        clear hw
        obtain ⟨hP1, hD1⟩ := hB
        rw [ht] at hP1
        obtain ⟨hP, hD⟩ := va_join (wr := [(tt 0, .inr (9, [.ref (tt 1), .ref (tt 3), .ref (tt 5), .int (nI nm)])), (tt 3, .inr (5, [.ref (tt 4)])), (tt 4, .inl (dA 0, 84, .inl tp)), (tt 5, .inr (5, [.ref (tt 6)])), (tt 6, .inl (dA 0, 84, .inl tx))]) (w1 := [(tt 1, .inr (5, [.ref (tt 2)])), (tt 2, .inl (dA 0, 84, .inl tw))]) hP hD [1, 2] [0, 3, 4, 5, 6] rfl rfl (by decide) (by decide) hk1 hFc hP1 hD1
        generalize H1 = H at hP hS ⊢
        have hP : va_P D vwCl [(tt 0, .inr (9, [.ref (tt 1), .ref (tt 3), .ref (tt 5), .int (nI nm)])), (tt 3, .inr (5, [.ref (tt 4)])), (tt 4, .inl (dA 0, 84, .inl tp)), (tt 5, .inr (5, [.ref (tt 6)])), (tt 6, .inl (dA 0, 84, .inl tx)), (tt 1, .inr (5, [.ref (tt 2)])), (tt 2, .inl (dA 0, 84, .inl tw))] H := hP
        have hD : va_D A [(tt 0, .inr (9, [.ref (tt 1), .ref (tt 3), .ref (tt 5), .int (nI nm)])), (tt 3, .inr (5, [.ref (tt 4)])), (tt 4, .inl (dA 0, 84, .inl tp)), (tt 5, .inr (5, [.ref (tt 6)])), (tt 6, .inl (dA 0, 84, .inl tx)), (tt 1, .inr (5, [.ref (tt 2)])), (tt 2, .inl (dA 0, 84, .inl tw))] := hD
        obtain rfl : r2 = tw i5 := hw4
        refine lv_iload_n hx hb dX6_timesAt_23 rfl (lv_at hl 4 rfl) ?_
        refine lv_icmp_ne (tgt := 43) hx hb dX6_timesAt_24 (by decide) (fun c5 => ?_) (fun c5 => ?_)
        · refine lv_iinc (v := nI (i5 + 1)) (lv' := [(4, .int (nI (i5 + 1))), (3, .int (nI (sat tw tp p1 p0 i5))), (0, .ref (tt 0)), (1, .int p0), (2, .int p1)]) hx hb dX6_timesAt_43 hl (k := 0) rfl (nI_add i5 1) (by decide) rfl (fun ls hl => ?_)
          refine lv_goto (tgt := 5) hx hb dX6_timesAt_46 (by decide) ?_
          have hP := hP.sub (ws' := [(tt 0, .inr (9, [.ref (tt 1), .ref (tt 3), .ref (tt 5), .int (nI nm)])), (tt 1, .inr (5, [.ref (tt 2)])), (tt 2, .inl (dA 0, 84, .inl tw)), (tt 3, .inr (5, [.ref (tt 4)])), (tt 4, .inl (dA 0, 84, .inl tp)), (tt 5, .inr (5, [.ref (tt 6)])), (tt 6, .inl (dA 0, 84, .inl tx))]) [0, 5, 6, 1, 2, 3, 4] rfl
          have hD := hD.sub (ws' := [(tt 0, .inr (9, [.ref (tt 1), .ref (tt 3), .ref (tt 5), .int (nI nm)])), (tt 1, .inr (5, [.ref (tt 2)])), (tt 2, .inl (dA 0, 84, .inl tw)), (tt 3, .inr (5, [.ref (tt 4)])), (tt 4, .inl (dA 0, 84, .inl tp)), (tt 5, .inr (5, [.ref (tt 6)])), (tt 6, .inl (dA 0, 84, .inl tx))]) [0, 5, 6, 1, 2, 3, 4] (by decide) rfl
          exact ih5 (i5 + 1) (nI (sat tw tp p1 p0 i5)) (by omega) (by omega) (by omega) (sat_n0 c5) _ _ hP hD hS ls (lv_sub hl [0, 1, 2, 3, 4] rfl)
        · refine lv_aload_n hx hb dX6_timesAt_27 rfl (lv_at hl 2 rfl) ?_
          refine va_get (D := D) (ci := 9) (v := .ref (tt 3)) (C := RX6) (T := TX6) (N := 4) hx hb hts inAX6 hown hK hP 0 rfl rfl 1 (by decide) (hts _ q211) (fun _ h9 => h9) rfl dX6_timesAt_28 ?_
          refine lv_iload hx hb dX6_timesAt_31 (lv_at hl 0 rfl) ?_
          have hPc := hP.sub (ws' := [(tt 3, .inr (5, [.ref (tt 4)])), (tt 4, .inl (dA 0, 84, .inl tp))]) [1, 2] rfl
          have hDc := hD.sub (ws' := [(tt 3, .inr (5, [.ref (tt 4)])), (tt 4, .inl (dA 0, 84, .inl tp))]) [1, 2] (by decide) rfl
          have hFc := va_free (wc := [(tt 3, .inr (5, [.ref (tt 4)])), (tt 4, .inl (dA 0, 84, .inl tp))]) hD hS hA [1, 2] rfl
          refine va_calli (va_runV (As := [.int (nI i5)]) (rest := []) ⟨hx, hb, hml, hown, hts⟩ (t_getN l D dA E (tt 3) (tt 4) 84 tp i5 H.size  (by omega) (by decide)) (cwV 1 hts (ga_V q213 q203 q200 q204 q201) rfl rfl rfl (by decide +kernel) ⟨(Nat.le_of_ble_eq_true rfl), (Nat.le_of_ble_eq_true rfl)⟩) ⟨pb_blind, va_recv hK hPc (ci := 5) (q0 := 0) rfl rfl, pb_pre hK hPc hDc hZ hS hFc _⟩ rfl rfl hl.1 rfl (lv_room (Nat.le_of_ble_eq_true rfl)) dX6_timesAt_33 ⟨(Nat.le_of_ble_eq_true rfl), (Nat.le_of_ble_eq_true rfl)⟩) hS (fun q _ h => hFc q h) hFc (fun r u t H1 locs ht hvm hw hB hz1 hk1 hS => ?_)
          refine W.widen (k := 0) (n := 0) (Nat.le_of_ble_eq_true rfl) (Nat.le_of_ble_eq_true rfl) ?_
          obtain ⟨r6, rfl⟩ : ∃ z, z = r := ⟨_, rfl⟩
          obtain ⟨u7, rfl⟩ : ∃ z, z = u := ⟨_, rfl⟩
          have hw8 := hw
          clear hw
          obtain ⟨hP1, hD1⟩ := hB
          rw [ht] at hP1
          obtain ⟨hP, hD⟩ := va_join (wr := [(tt 0, .inr (9, [.ref (tt 1), .ref (tt 3), .ref (tt 5), .int (nI nm)])), (tt 5, .inr (5, [.ref (tt 6)])), (tt 6, .inl (dA 0, 84, .inl tx)), (tt 1, .inr (5, [.ref (tt 2)])), (tt 2, .inl (dA 0, 84, .inl tw))]) (w1 := [(tt 3, .inr (5, [.ref (tt 4)])), (tt 4, .inl (dA 0, 84, .inl tp))]) hP hD [1, 2] [0, 3, 4, 5, 6] rfl rfl (by decide) (by decide) hk1 hFc hP1 hD1
          generalize H1 = H at hP hS ⊢
          have hP : va_P D vwCl [(tt 0, .inr (9, [.ref (tt 1), .ref (tt 3), .ref (tt 5), .int (nI nm)])), (tt 5, .inr (5, [.ref (tt 6)])), (tt 6, .inl (dA 0, 84, .inl tx)), (tt 1, .inr (5, [.ref (tt 2)])), (tt 2, .inl (dA 0, 84, .inl tw)), (tt 3, .inr (5, [.ref (tt 4)])), (tt 4, .inl (dA 0, 84, .inl tp))] H := hP
          have hD : va_D A [(tt 0, .inr (9, [.ref (tt 1), .ref (tt 3), .ref (tt 5), .int (nI nm)])), (tt 5, .inr (5, [.ref (tt 6)])), (tt 6, .inl (dA 0, 84, .inl tx)), (tt 1, .inr (5, [.ref (tt 2)])), (tt 2, .inl (dA 0, 84, .inl tw)), (tt 3, .inr (5, [.ref (tt 4)])), (tt 4, .inl (dA 0, 84, .inl tp))] := hD
          obtain rfl : r6 = tp i5 := hw8
          refine lv_iload_n hx hb dX6_timesAt_36 rfl (lv_at hl 3 rfl) ?_
          refine lv_icmp_ne (tgt := 43) hx hb dX6_timesAt_37 (by decide) (fun c9 => ?_) (fun c9 => ?_)
          · refine lv_iinc (v := nI (i5 + 1)) (lv' := [(4, .int (nI (i5 + 1))), (3, .int (nI (sat tw tp p1 p0 i5))), (0, .ref (tt 0)), (1, .int p0), (2, .int p1)]) hx hb dX6_timesAt_43 hl (k := 0) rfl (nI_add i5 1) (by decide) rfl (fun ls hl => ?_)
            refine lv_goto (tgt := 5) hx hb dX6_timesAt_46 (by decide) ?_
            have hP := hP.sub (ws' := [(tt 0, .inr (9, [.ref (tt 1), .ref (tt 3), .ref (tt 5), .int (nI nm)])), (tt 1, .inr (5, [.ref (tt 2)])), (tt 2, .inl (dA 0, 84, .inl tw)), (tt 3, .inr (5, [.ref (tt 4)])), (tt 4, .inl (dA 0, 84, .inl tp)), (tt 5, .inr (5, [.ref (tt 6)])), (tt 6, .inl (dA 0, 84, .inl tx))]) [0, 3, 4, 5, 6, 1, 2] rfl
            have hD := hD.sub (ws' := [(tt 0, .inr (9, [.ref (tt 1), .ref (tt 3), .ref (tt 5), .int (nI nm)])), (tt 1, .inr (5, [.ref (tt 2)])), (tt 2, .inl (dA 0, 84, .inl tw)), (tt 3, .inr (5, [.ref (tt 4)])), (tt 4, .inl (dA 0, 84, .inl tp)), (tt 5, .inr (5, [.ref (tt 6)])), (tt 6, .inl (dA 0, 84, .inl tx))]) [0, 3, 4, 5, 6, 1, 2] (by decide) rfl
            exact ih5 (i5 + 1) (nI (sat tw tp p1 p0 i5)) (by omega) (by omega) (by omega) (sat_n1 c9) _ _ hP hD hS ls (lv_sub hl [0, 1, 2, 3, 4] rfl)
          · refine lv_iinc (v := nI ((sat tw tp p1 p0 i5) + 1)) (lv' := [(3, .int (nI ((sat tw tp p1 p0 i5) + 1))), (4, .int (nI i5)), (0, .ref (tt 0)), (1, .int p0), (2, .int p1)]) hx hb dX6_timesAt_40 hl (k := 1) rfl (nI_add (sat tw tp p1 p0 i5) 1) (by decide) rfl (fun ls hl => ?_)
            refine lv_iinc (v := nI (i5 + 1)) (lv' := [(4, .int (nI (i5 + 1))), (3, .int (nI ((sat tw tp p1 p0 i5) + 1))), (0, .ref (tt 0)), (1, .int p0), (2, .int p1)]) hx hb dX6_timesAt_43 hl (k := 1) rfl (nI_add i5 1) (by decide) rfl (fun ls hl => ?_)
            refine lv_goto (tgt := 5) hx hb dX6_timesAt_46 (by decide) ?_
            have hP := hP.sub (ws' := [(tt 0, .inr (9, [.ref (tt 1), .ref (tt 3), .ref (tt 5), .int (nI nm)])), (tt 1, .inr (5, [.ref (tt 2)])), (tt 2, .inl (dA 0, 84, .inl tw)), (tt 3, .inr (5, [.ref (tt 4)])), (tt 4, .inl (dA 0, 84, .inl tp)), (tt 5, .inr (5, [.ref (tt 6)])), (tt 6, .inl (dA 0, 84, .inl tx))]) [0, 3, 4, 5, 6, 1, 2] rfl
            have hD := hD.sub (ws' := [(tt 0, .inr (9, [.ref (tt 1), .ref (tt 3), .ref (tt 5), .int (nI nm)])), (tt 1, .inr (5, [.ref (tt 2)])), (tt 2, .inl (dA 0, 84, .inl tw)), (tt 3, .inr (5, [.ref (tt 4)])), (tt 4, .inl (dA 0, 84, .inl tp)), (tt 5, .inr (5, [.ref (tt 6)])), (tt 6, .inl (dA 0, 84, .inl tx))]) [0, 3, 4, 5, 6, 1, 2] (by decide) rfl
            exact ih5 (i5 + 1) (nI ((sat tw tp p1 p0 i5) + 1)) (by omega) (by omega) (by omega) (sat_y c9 c5) _ _ hP hD hS ls (lv_sub hl [0, 1, 2, 3, 4] rfl)
  exact K5 (nm + 1) 0 0 (by omega) (by omega) (by omega) rfl _ _ hP hD hS ls hl

set_option maxHeartbeats 4000000 in
set_option maxRecDepth 100000 in
theorem t_isFirstAtPlace (l : Launch) (D : va_G) (dA : Nat → ClassId) (E : Nat) (tt : Nat → Nat) (tw tp tx : Nat → Int32) (nm : Nat) (kk : Nat) (sz : Nat) (hnm : nm ≤ 84) (hkk : kk < 84)  : Met l yX6_isFirstAtPlace (wq (.code yX6_isFirstAtPlace cX6_isFirstAtPlace 3 (some .boolean))) { frames := 1, cells := 0, slots := 0, locals := 21 } (va_Pc [.ref (tt 0), .int (nI kk)] (PcB D dA E [(tt 0, .inr (9, [.ref (tt 1), .ref (tt 3), .ref (tt 5), .int (nI nm)])), (tt 1, .inr (5, [.ref (tt 2)])), (tt 2, .inl (dA 0, 84, .inl tw)), (tt 3, .inr (5, [.ref (tt 4)])), (tt 4, .inl (dA 0, 84, .inl tp)), (tt 5, .inr (5, [.ref (tt 6)])), (tt 6, .inl (dA 0, 84, .inl tx))] sz)) (va_Qi (fun (r : Int32) (u : Unit) => r = bI (ffB tw tp kk kk)) (fun u t => va_P D vwCl [(tt 0, .inr (9, [.ref (tt 1), .ref (tt 3), .ref (tt 5), .int (nI nm)])), (tt 1, .inr (5, [.ref (tt 2)])), (tt 2, .inl (dA 0, 84, .inl tw)), (tt 3, .inr (5, [.ref (tt 4)])), (tt 4, .inl (dA 0, 84, .inl tp)), (tt 5, .inr (5, [.ref (tt 6)])), (tt 6, .inl (dA 0, 84, .inl tx))] t.heap ∧ va_D (va_A [(tt 0, .inr (9, [.ref (tt 1), .ref (tt 3), .ref (tt 5), .int (nI nm)])), (tt 1, .inr (5, [.ref (tt 2)])), (tt 2, .inl (dA 0, 84, .inl tw)), (tt 3, .inr (5, [.ref (tt 4)])), (tt 4, .inl (dA 0, 84, .inl tp)), (tt 5, .inr (5, [.ref (tt 6)])), (tt 6, .inl (dA 0, 84, .inl tx))] sz) [(tt 0, .inr (9, [.ref (tt 1), .ref (tt 3), .ref (tt 5), .int (nI nm)])), (tt 1, .inr (5, [.ref (tt 2)])), (tt 2, .inl (dA 0, 84, .inl tw)), (tt 3, .inr (5, [.ref (tt 4)])), (tt 4, .inl (dA 0, 84, .inl tp)), (tt 5, .inr (5, [.ref (tt 6)])), (tt 6, .inl (dA 0, 84, .inl tx))]) (va_A [(tt 0, .inr (9, [.ref (tt 1), .ref (tt 3), .ref (tt 5), .int (nI nm)])), (tt 1, .inr (5, [.ref (tt 2)])), (tt 2, .inl (dA 0, 84, .inl tw)), (tt 3, .inr (5, [.ref (tt 4)])), (tt 4, .inl (dA 0, 84, .inl tp)), (tt 5, .inr (5, [.ref (tt 6)])), (tt 6, .inl (dA 0, 84, .inl tx))] sz)) 0 0 (va_A [(tt 0, .inr (9, [.ref (tt 1), .ref (tt 3), .ref (tt 5), .int (nI nm)])), (tt 1, .inr (5, [.ref (tt 2)])), (tt 2, .inl (dA 0, 84, .inl tw)), (tt 3, .inr (5, [.ref (tt 4)])), (tt 4, .inl (dA 0, 84, .inl tp)), (tt 5, .inr (5, [.ref (tt 6)])), (tt 6, .inl (dA 0, 84, .inl tx))] sz) := by
  refine mb_of (Qc := fun A => va_Qi (fun (r : Int32) (u : Unit) => r = bI (ffB tw tp kk kk)) (fun u t => va_P D vwCl [(tt 0, .inr (9, [.ref (tt 1), .ref (tt 3), .ref (tt 5), .int (nI nm)])), (tt 1, .inr (5, [.ref (tt 2)])), (tt 2, .inl (dA 0, 84, .inl tw)), (tt 3, .inr (5, [.ref (tt 4)])), (tt 4, .inl (dA 0, 84, .inl tp)), (tt 5, .inr (5, [.ref (tt 6)])), (tt 6, .inl (dA 0, 84, .inl tx))] t.heap ∧ va_D A [(tt 0, .inr (9, [.ref (tt 1), .ref (tt 3), .ref (tt 5), .int (nI nm)])), (tt 1, .inr (5, [.ref (tt 2)])), (tt 2, .inl (dA 0, 84, .inl tw)), (tt 3, .inr (5, [.ref (tt 4)])), (tt 4, .inl (dA 0, 84, .inl tp)), (tt 5, .inr (5, [.ref (tt 6)])), (tt 6, .inl (dA 0, 84, .inl tx))]) A) RX6 rfl (by decide) (Nat.le_of_ble_eq_true rfl) ?_
  intro p e s m args below meth c hae hx hb hr hts hown hlocks hml hnm hP hK A hAe hD hZ hS hA ls hl
  have hl : lv_has ls 3 [(0, .ref (tt 0)), (1, .int (nI kk))] := hl
  refine lv_iconst (v := 0) hx hb dX6_isFirstAtPlace_0 (by decide) ?_
  refine lv_istore_n (lv' := [(2, .int 0), (0, .ref (tt 0)), (1, .int (nI kk))]) hx hb dX6_isFirstAtPlace_1 rfl hl (by decide) rfl (fun ls hl => ?_)
  have K2 : ∀ (k2 i2 : Nat) , 0 ≤ i2 → i2 ≤ kk → kk < i2 + k2 → (ffB tw tp kk i2 = true) → ∀ (H : Heap) (locs : List Loc), va_P D vwCl [(tt 0, .inr (9, [.ref (tt 1), .ref (tt 3), .ref (tt 5), .int (nI nm)])), (tt 1, .inr (5, [.ref (tt 2)])), (tt 2, .inl (dA 0, 84, .inl tw)), (tt 3, .inr (5, [.ref (tt 4)])), (tt 4, .inl (dA 0, 84, .inl tp)), (tt 5, .inr (5, [.ref (tt 6)])), (tt 6, .inl (dA 0, 84, .inl tx))] H → va_D A [(tt 0, .inr (9, [.ref (tt 1), .ref (tt 3), .ref (tt 5), .int (nI nm)])), (tt 1, .inr (5, [.ref (tt 2)])), (tt 2, .inl (dA 0, 84, .inl tw)), (tt 3, .inr (5, [.ref (tt 4)])), (tt 4, .inl (dA 0, 84, .inl tp)), (tt 5, .inr (5, [.ref (tt 6)])), (tt 6, .inl (dA 0, 84, .inl tx))] → va_S A s.heap H locs → ∀ ls : Array Slot, lv_has ls 3 [(2, .int (nI i2)), (0, .ref (tt 0)), (1, .int (nI kk))] → W p l e { frames := 1, cells := 0, slots := 0, locals := 21 } s m args below meth c H locs 0 0 (MQ below (va_Qi (fun (r : Int32) (u : Unit) => r = bI (ffB tw tp kk kk)) (fun u t => va_P D vwCl [(tt 0, .inr (9, [.ref (tt 1), .ref (tt 3), .ref (tt 5), .int (nI nm)])), (tt 1, .inr (5, [.ref (tt 2)])), (tt 2, .inl (dA 0, 84, .inl tw)), (tt 3, .inr (5, [.ref (tt 4)])), (tt 4, .inl (dA 0, 84, .inl tp)), (tt 5, .inr (5, [.ref (tt 6)])), (tt 6, .inl (dA 0, 84, .inl tx))] t.heap ∧ va_D A [(tt 0, .inr (9, [.ref (tt 1), .ref (tt 3), .ref (tt 5), .int (nI nm)])), (tt 1, .inr (5, [.ref (tt 2)])), (tt 2, .inl (dA 0, 84, .inl tw)), (tt 3, .inr (5, [.ref (tt 4)])), (tt 4, .inl (dA 0, 84, .inl tp)), (tt 5, .inr (5, [.ref (tt 6)])), (tt 6, .inl (dA 0, 84, .inl tx))]) A) args s 0 0 A) (F0 m 2 ls []) := by
    intro k2
    induction k2 with
    | zero => intro i2  h1 h2 h3; exact absurd h3 (by omega)
    | succ k2 ih2 =>
      intro i2  hlo2 hhi2 hms2 hinv2 H locs hP hD hS ls hl
      have hx2 := hinv2
      refine lv_iload_n hx hb dX6_isFirstAtPlace_2 rfl (lv_at hl 0 rfl) ?_
      refine lv_iload_n hx hb dX6_isFirstAtPlace_3 rfl (lv_at hl 2 rfl) ?_
      refine lv_icmp_ge (tgt := 53) hx hb dX6_isFirstAtPlace_4 (by decide) (fun c1 => ?_) (fun c1 => ?_)
      · replace c1 := (nI_leI (a := kk) (b := i2) (by omega) (by omega)).mp c1
        obtain rfl : kk = i2 := (by omega)
        have hP : va_P D vwCl [(tt 0, .inr (9, [.ref (tt 1), .ref (tt 3), .ref (tt 5), .int (nI nm)])), (tt 1, .inr (5, [.ref (tt 2)])), (tt 2, .inl (dA 0, 84, .inl tw)), (tt 3, .inr (5, [.ref (tt 4)])), (tt 4, .inl (dA 0, 84, .inl tp)), (tt 5, .inr (5, [.ref (tt 6)])), (tt 6, .inl (dA 0, 84, .inl tx))] H := hP
        have hD : va_D A [(tt 0, .inr (9, [.ref (tt 1), .ref (tt 3), .ref (tt 5), .int (nI nm)])), (tt 1, .inr (5, [.ref (tt 2)])), (tt 2, .inl (dA 0, 84, .inl tw)), (tt 3, .inr (5, [.ref (tt 4)])), (tt 4, .inl (dA 0, 84, .inl tp)), (tt 5, .inr (5, [.ref (tt 6)])), (tt 6, .inl (dA 0, 84, .inl tx))] := hD
        refine lv_iconst (v := 1) hx hb dX6_isFirstAtPlace_53 (by decide) ?_
        refine W.widen (k := 0) (n := 0) (Nat.le_of_ble_eq_true rfl) (Nat.le_of_ble_eq_true rfl) ?_
        have hP9 := hP.sub (ws' := [(tt 0, .inr (9, [.ref (tt 1), .ref (tt 3), .ref (tt 5), .int (nI nm)])), (tt 1, .inr (5, [.ref (tt 2)])), (tt 2, .inl (dA 0, 84, .inl tw)), (tt 3, .inr (5, [.ref (tt 4)])), (tt 4, .inl (dA 0, 84, .inl tp)), (tt 5, .inr (5, [.ref (tt 6)])), (tt 6, .inl (dA 0, 84, .inl tx))]) [0, 1, 2, 3, 4, 5, 6] rfl
        have hD9 := hD.sub (ws' := [(tt 0, .inr (9, [.ref (tt 1), .ref (tt 3), .ref (tt 5), .int (nI nm)])), (tt 1, .inr (5, [.ref (tt 2)])), (tt 2, .inl (dA 0, 84, .inl tw)), (tt 3, .inr (5, [.ref (tt 4)])), (tt 4, .inl (dA 0, 84, .inl tp)), (tt 5, .inr (5, [.ref (tt 6)])), (tt 6, .inl (dA 0, 84, .inl tx))]) [0, 1, 2, 3, 4, 5, 6] (by decide) rfl
        exact W.zret (v := 1) hx hb hr rfl (fun t ht hW => ⟨⟨1, (), rfl, (show _ = bI (ffB tw tp kk kk) from (congrArg bI hx2).symm), ⟨by rw [ht]; exact hP9, hD9⟩⟩, hS.F ht⟩) hS.2.2 dX6_isFirstAtPlace_54
      · replace c1 := mt (nI_leI (a := kk) (b := i2) (by omega) (by omega)).mpr c1
        refine lv_aload_n hx hb dX6_isFirstAtPlace_7 rfl (lv_at hl 1 rfl) ?_
        refine va_get (D := D) (ci := 9) (v := .ref (tt 1)) (C := RX6) (T := TX6) (N := 4) hx hb hts inAX6 hown hK hP 0 rfl rfl 0 (by decide) (hts _ q206) (fun _ h9 => h9) rfl dX6_isFirstAtPlace_8 ?_
        refine lv_iload_n hx hb dX6_isFirstAtPlace_11 rfl (lv_at hl 0 rfl) ?_
        have hPc := hP.sub (ws' := [(tt 1, .inr (5, [.ref (tt 2)])), (tt 2, .inl (dA 0, 84, .inl tw))]) [1, 2] rfl
        have hDc := hD.sub (ws' := [(tt 1, .inr (5, [.ref (tt 2)])), (tt 2, .inl (dA 0, 84, .inl tw))]) [1, 2] (by decide) rfl
        have hFc := va_free (wc := [(tt 1, .inr (5, [.ref (tt 2)])), (tt 2, .inl (dA 0, 84, .inl tw))]) hD hS hA [1, 2] rfl
        refine va_calli (va_runV (As := [.int (nI i2)]) (rest := []) ⟨hx, hb, hml, hown, hts⟩ (t_getN l D dA E (tt 1) (tt 2) 84 tw i2 H.size  (by omega) (by decide)) (cwV 1 hts (ga_V q213 q203 q200 q204 q201) rfl rfl rfl (by decide +kernel) ⟨(Nat.le_of_ble_eq_true rfl), (Nat.le_of_ble_eq_true rfl)⟩) ⟨pb_blind, va_recv hK hPc (ci := 5) (q0 := 0) rfl rfl, pb_pre hK hPc hDc hZ hS hFc _⟩ rfl rfl hl.1 rfl (lv_room (Nat.le_of_ble_eq_true rfl)) dX6_isFirstAtPlace_12 ⟨(Nat.le_of_ble_eq_true rfl), (Nat.le_of_ble_eq_true rfl)⟩) hS (fun q _ h => hFc q h) hFc (fun r u t H1 locs ht hvm hw hB hz1 hk1 hS => ?_)
        refine W.widen (k := 0) (n := 0) (Nat.le_of_ble_eq_true rfl) (Nat.le_of_ble_eq_true rfl) ?_
        obtain ⟨r2, rfl⟩ : ∃ z, z = r := ⟨_, rfl⟩
        obtain ⟨u3, rfl⟩ : ∃ z, z = u := ⟨_, rfl⟩
        have hw4 := hw
        clear hw
        obtain ⟨hP1, hD1⟩ := hB
        rw [ht] at hP1
        obtain ⟨hP, hD⟩ := va_join (wr := [(tt 0, .inr (9, [.ref (tt 1), .ref (tt 3), .ref (tt 5), .int (nI nm)])), (tt 3, .inr (5, [.ref (tt 4)])), (tt 4, .inl (dA 0, 84, .inl tp)), (tt 5, .inr (5, [.ref (tt 6)])), (tt 6, .inl (dA 0, 84, .inl tx))]) (w1 := [(tt 1, .inr (5, [.ref (tt 2)])), (tt 2, .inl (dA 0, 84, .inl tw))]) hP hD [1, 2] [0, 3, 4, 5, 6] rfl rfl (by decide) (by decide) hk1 hFc hP1 hD1
        generalize H1 = H at hP hS ⊢
        have hP : va_P D vwCl [(tt 0, .inr (9, [.ref (tt 1), .ref (tt 3), .ref (tt 5), .int (nI nm)])), (tt 3, .inr (5, [.ref (tt 4)])), (tt 4, .inl (dA 0, 84, .inl tp)), (tt 5, .inr (5, [.ref (tt 6)])), (tt 6, .inl (dA 0, 84, .inl tx)), (tt 1, .inr (5, [.ref (tt 2)])), (tt 2, .inl (dA 0, 84, .inl tw))] H := hP
        have hD : va_D A [(tt 0, .inr (9, [.ref (tt 1), .ref (tt 3), .ref (tt 5), .int (nI nm)])), (tt 3, .inr (5, [.ref (tt 4)])), (tt 4, .inl (dA 0, 84, .inl tp)), (tt 5, .inr (5, [.ref (tt 6)])), (tt 6, .inl (dA 0, 84, .inl tx)), (tt 1, .inr (5, [.ref (tt 2)])), (tt 2, .inl (dA 0, 84, .inl tw))] := hD
        obtain rfl : r2 = tw i2 := hw4
        refine lv_aload_n hx hb dX6_isFirstAtPlace_15 rfl (lv_at hl 1 rfl) ?_
        refine va_get (D := D) (ci := 9) (v := .ref (tt 1)) (C := RX6) (T := TX6) (N := 4) hx hb hts inAX6 hown hK hP 0 rfl rfl 0 (by decide) (hts _ q206) (fun _ h9 => h9) rfl dX6_isFirstAtPlace_16 ?_
        refine lv_iload_n hx hb dX6_isFirstAtPlace_19 rfl (lv_at hl 2 rfl) ?_
        have hPc := hP.sub (ws' := [(tt 1, .inr (5, [.ref (tt 2)])), (tt 2, .inl (dA 0, 84, .inl tw))]) [5, 6] rfl
        have hDc := hD.sub (ws' := [(tt 1, .inr (5, [.ref (tt 2)])), (tt 2, .inl (dA 0, 84, .inl tw))]) [5, 6] (by decide) rfl
        have hFc := va_free (wc := [(tt 1, .inr (5, [.ref (tt 2)])), (tt 2, .inl (dA 0, 84, .inl tw))]) hD hS hA [5, 6] rfl
        refine va_calli (va_runV (As := [.int (nI kk)]) (rest := [.int (tw i2)]) ⟨hx, hb, hml, hown, hts⟩ (t_getN l D dA E (tt 1) (tt 2) 84 tw kk H.size  (by omega) (by decide)) (cwV 1 hts (ga_V q213 q203 q200 q204 q201) rfl rfl rfl (by decide +kernel) ⟨(Nat.le_of_ble_eq_true rfl), (Nat.le_of_ble_eq_true rfl)⟩) ⟨pb_blind, va_recv hK hPc (ci := 5) (q0 := 0) rfl rfl, pb_pre hK hPc hDc hZ hS hFc _⟩ rfl rfl hl.1 rfl (lv_room (Nat.le_of_ble_eq_true rfl)) dX6_isFirstAtPlace_20 ⟨(Nat.le_of_ble_eq_true rfl), (Nat.le_of_ble_eq_true rfl)⟩) hS (fun q _ h => hFc q h) hFc (fun r u t H1 locs ht hvm hw hB hz1 hk1 hS => ?_)
        refine W.widen (k := 0) (n := 0) (Nat.le_of_ble_eq_true rfl) (Nat.le_of_ble_eq_true rfl) ?_
        obtain ⟨r5, rfl⟩ : ∃ z, z = r := ⟨_, rfl⟩
        obtain ⟨u6, rfl⟩ : ∃ z, z = u := ⟨_, rfl⟩
        have hw7 := hw
        clear hw
        obtain ⟨hP1, hD1⟩ := hB
        rw [ht] at hP1
        obtain ⟨hP, hD⟩ := va_join (wr := [(tt 0, .inr (9, [.ref (tt 1), .ref (tt 3), .ref (tt 5), .int (nI nm)])), (tt 3, .inr (5, [.ref (tt 4)])), (tt 4, .inl (dA 0, 84, .inl tp)), (tt 5, .inr (5, [.ref (tt 6)])), (tt 6, .inl (dA 0, 84, .inl tx))]) (w1 := [(tt 1, .inr (5, [.ref (tt 2)])), (tt 2, .inl (dA 0, 84, .inl tw))]) hP hD [5, 6] [0, 1, 2, 3, 4] rfl rfl (by decide) (by decide) hk1 hFc hP1 hD1
        generalize H1 = H at hP hS ⊢
        have hP : va_P D vwCl [(tt 0, .inr (9, [.ref (tt 1), .ref (tt 3), .ref (tt 5), .int (nI nm)])), (tt 3, .inr (5, [.ref (tt 4)])), (tt 4, .inl (dA 0, 84, .inl tp)), (tt 5, .inr (5, [.ref (tt 6)])), (tt 6, .inl (dA 0, 84, .inl tx)), (tt 1, .inr (5, [.ref (tt 2)])), (tt 2, .inl (dA 0, 84, .inl tw))] H := hP
        have hD : va_D A [(tt 0, .inr (9, [.ref (tt 1), .ref (tt 3), .ref (tt 5), .int (nI nm)])), (tt 3, .inr (5, [.ref (tt 4)])), (tt 4, .inl (dA 0, 84, .inl tp)), (tt 5, .inr (5, [.ref (tt 6)])), (tt 6, .inl (dA 0, 84, .inl tx)), (tt 1, .inr (5, [.ref (tt 2)])), (tt 2, .inl (dA 0, 84, .inl tw))] := hD
        obtain rfl : r5 = tw kk := hw7
        refine lv_icmp_ne (tgt := 47) hx hb dX6_isFirstAtPlace_23 (by decide) (fun c8 => ?_) (fun c8 => ?_)
        · refine lv_iinc (v := nI (i2 + 1)) (lv' := [(2, .int (nI (i2 + 1))), (0, .ref (tt 0)), (1, .int (nI kk))]) hx hb dX6_isFirstAtPlace_47 hl (k := 0) rfl (nI_add i2 1) (by decide) rfl (fun ls hl => ?_)
          refine lv_goto (tgt := 2) hx hb dX6_isFirstAtPlace_50 (by decide) ?_
          have hP := hP.sub (ws' := [(tt 0, .inr (9, [.ref (tt 1), .ref (tt 3), .ref (tt 5), .int (nI nm)])), (tt 1, .inr (5, [.ref (tt 2)])), (tt 2, .inl (dA 0, 84, .inl tw)), (tt 3, .inr (5, [.ref (tt 4)])), (tt 4, .inl (dA 0, 84, .inl tp)), (tt 5, .inr (5, [.ref (tt 6)])), (tt 6, .inl (dA 0, 84, .inl tx))]) [0, 5, 6, 1, 2, 3, 4] rfl
          have hD := hD.sub (ws' := [(tt 0, .inr (9, [.ref (tt 1), .ref (tt 3), .ref (tt 5), .int (nI nm)])), (tt 1, .inr (5, [.ref (tt 2)])), (tt 2, .inl (dA 0, 84, .inl tw)), (tt 3, .inr (5, [.ref (tt 4)])), (tt 4, .inl (dA 0, 84, .inl tp)), (tt 5, .inr (5, [.ref (tt 6)])), (tt 6, .inl (dA 0, 84, .inl tx))]) [0, 5, 6, 1, 2, 3, 4] (by decide) rfl
          exact ih2 (i2 + 1)  (by omega) (by omega) (by omega) (ffB_s hx2 c8) _ _ hP hD hS ls (lv_sub hl [0, 1, 2] rfl)
        · refine lv_aload_n hx hb dX6_isFirstAtPlace_26 rfl (lv_at hl 1 rfl) ?_
          refine va_get (D := D) (ci := 9) (v := .ref (tt 3)) (C := RX6) (T := TX6) (N := 4) hx hb hts inAX6 hown hK hP 0 rfl rfl 1 (by decide) (hts _ q211) (fun _ h9 => h9) rfl dX6_isFirstAtPlace_27 ?_
          refine lv_iload_n hx hb dX6_isFirstAtPlace_30 rfl (lv_at hl 0 rfl) ?_
          have hPc := hP.sub (ws' := [(tt 3, .inr (5, [.ref (tt 4)])), (tt 4, .inl (dA 0, 84, .inl tp))]) [1, 2] rfl
          have hDc := hD.sub (ws' := [(tt 3, .inr (5, [.ref (tt 4)])), (tt 4, .inl (dA 0, 84, .inl tp))]) [1, 2] (by decide) rfl
          have hFc := va_free (wc := [(tt 3, .inr (5, [.ref (tt 4)])), (tt 4, .inl (dA 0, 84, .inl tp))]) hD hS hA [1, 2] rfl
          refine va_calli (va_runV (As := [.int (nI i2)]) (rest := []) ⟨hx, hb, hml, hown, hts⟩ (t_getN l D dA E (tt 3) (tt 4) 84 tp i2 H.size  (by omega) (by decide)) (cwV 1 hts (ga_V q213 q203 q200 q204 q201) rfl rfl rfl (by decide +kernel) ⟨(Nat.le_of_ble_eq_true rfl), (Nat.le_of_ble_eq_true rfl)⟩) ⟨pb_blind, va_recv hK hPc (ci := 5) (q0 := 0) rfl rfl, pb_pre hK hPc hDc hZ hS hFc _⟩ rfl rfl hl.1 rfl (lv_room (Nat.le_of_ble_eq_true rfl)) dX6_isFirstAtPlace_31 ⟨(Nat.le_of_ble_eq_true rfl), (Nat.le_of_ble_eq_true rfl)⟩) hS (fun q _ h => hFc q h) hFc (fun r u t H1 locs ht hvm hw hB hz1 hk1 hS => ?_)
          refine W.widen (k := 0) (n := 0) (Nat.le_of_ble_eq_true rfl) (Nat.le_of_ble_eq_true rfl) ?_
          obtain ⟨r9, rfl⟩ : ∃ z, z = r := ⟨_, rfl⟩
          obtain ⟨u10, rfl⟩ : ∃ z, z = u := ⟨_, rfl⟩
          have hw11 := hw
          clear hw
          obtain ⟨hP1, hD1⟩ := hB
          rw [ht] at hP1
          obtain ⟨hP, hD⟩ := va_join (wr := [(tt 0, .inr (9, [.ref (tt 1), .ref (tt 3), .ref (tt 5), .int (nI nm)])), (tt 5, .inr (5, [.ref (tt 6)])), (tt 6, .inl (dA 0, 84, .inl tx)), (tt 1, .inr (5, [.ref (tt 2)])), (tt 2, .inl (dA 0, 84, .inl tw))]) (w1 := [(tt 3, .inr (5, [.ref (tt 4)])), (tt 4, .inl (dA 0, 84, .inl tp))]) hP hD [1, 2] [0, 3, 4, 5, 6] rfl rfl (by decide) (by decide) hk1 hFc hP1 hD1
          generalize H1 = H at hP hS ⊢
          have hP : va_P D vwCl [(tt 0, .inr (9, [.ref (tt 1), .ref (tt 3), .ref (tt 5), .int (nI nm)])), (tt 5, .inr (5, [.ref (tt 6)])), (tt 6, .inl (dA 0, 84, .inl tx)), (tt 1, .inr (5, [.ref (tt 2)])), (tt 2, .inl (dA 0, 84, .inl tw)), (tt 3, .inr (5, [.ref (tt 4)])), (tt 4, .inl (dA 0, 84, .inl tp))] H := hP
          have hD : va_D A [(tt 0, .inr (9, [.ref (tt 1), .ref (tt 3), .ref (tt 5), .int (nI nm)])), (tt 5, .inr (5, [.ref (tt 6)])), (tt 6, .inl (dA 0, 84, .inl tx)), (tt 1, .inr (5, [.ref (tt 2)])), (tt 2, .inl (dA 0, 84, .inl tw)), (tt 3, .inr (5, [.ref (tt 4)])), (tt 4, .inl (dA 0, 84, .inl tp))] := hD
          obtain rfl : r9 = tp i2 := hw11
          refine lv_aload_n hx hb dX6_isFirstAtPlace_34 rfl (lv_at hl 1 rfl) ?_
          refine va_get (D := D) (ci := 9) (v := .ref (tt 3)) (C := RX6) (T := TX6) (N := 4) hx hb hts inAX6 hown hK hP 0 rfl rfl 1 (by decide) (hts _ q211) (fun _ h9 => h9) rfl dX6_isFirstAtPlace_35 ?_
          refine lv_iload_n hx hb dX6_isFirstAtPlace_38 rfl (lv_at hl 2 rfl) ?_
          have hPc := hP.sub (ws' := [(tt 3, .inr (5, [.ref (tt 4)])), (tt 4, .inl (dA 0, 84, .inl tp))]) [5, 6] rfl
          have hDc := hD.sub (ws' := [(tt 3, .inr (5, [.ref (tt 4)])), (tt 4, .inl (dA 0, 84, .inl tp))]) [5, 6] (by decide) rfl
          have hFc := va_free (wc := [(tt 3, .inr (5, [.ref (tt 4)])), (tt 4, .inl (dA 0, 84, .inl tp))]) hD hS hA [5, 6] rfl
          refine va_calli (va_runV (As := [.int (nI kk)]) (rest := [.int (tp i2)]) ⟨hx, hb, hml, hown, hts⟩ (t_getN l D dA E (tt 3) (tt 4) 84 tp kk H.size  (by omega) (by decide)) (cwV 1 hts (ga_V q213 q203 q200 q204 q201) rfl rfl rfl (by decide +kernel) ⟨(Nat.le_of_ble_eq_true rfl), (Nat.le_of_ble_eq_true rfl)⟩) ⟨pb_blind, va_recv hK hPc (ci := 5) (q0 := 0) rfl rfl, pb_pre hK hPc hDc hZ hS hFc _⟩ rfl rfl hl.1 rfl (lv_room (Nat.le_of_ble_eq_true rfl)) dX6_isFirstAtPlace_39 ⟨(Nat.le_of_ble_eq_true rfl), (Nat.le_of_ble_eq_true rfl)⟩) hS (fun q _ h => hFc q h) hFc (fun r u t H1 locs ht hvm hw hB hz1 hk1 hS => ?_)
          refine W.widen (k := 0) (n := 0) (Nat.le_of_ble_eq_true rfl) (Nat.le_of_ble_eq_true rfl) ?_
          obtain ⟨r12, rfl⟩ : ∃ z, z = r := ⟨_, rfl⟩
          obtain ⟨u13, rfl⟩ : ∃ z, z = u := ⟨_, rfl⟩
          have hw14 := hw
          clear hw
          obtain ⟨hP1, hD1⟩ := hB
          rw [ht] at hP1
          obtain ⟨hP, hD⟩ := va_join (wr := [(tt 0, .inr (9, [.ref (tt 1), .ref (tt 3), .ref (tt 5), .int (nI nm)])), (tt 5, .inr (5, [.ref (tt 6)])), (tt 6, .inl (dA 0, 84, .inl tx)), (tt 1, .inr (5, [.ref (tt 2)])), (tt 2, .inl (dA 0, 84, .inl tw))]) (w1 := [(tt 3, .inr (5, [.ref (tt 4)])), (tt 4, .inl (dA 0, 84, .inl tp))]) hP hD [5, 6] [0, 1, 2, 3, 4] rfl rfl (by decide) (by decide) hk1 hFc hP1 hD1
          generalize H1 = H at hP hS ⊢
          have hP : va_P D vwCl [(tt 0, .inr (9, [.ref (tt 1), .ref (tt 3), .ref (tt 5), .int (nI nm)])), (tt 5, .inr (5, [.ref (tt 6)])), (tt 6, .inl (dA 0, 84, .inl tx)), (tt 1, .inr (5, [.ref (tt 2)])), (tt 2, .inl (dA 0, 84, .inl tw)), (tt 3, .inr (5, [.ref (tt 4)])), (tt 4, .inl (dA 0, 84, .inl tp))] H := hP
          have hD : va_D A [(tt 0, .inr (9, [.ref (tt 1), .ref (tt 3), .ref (tt 5), .int (nI nm)])), (tt 5, .inr (5, [.ref (tt 6)])), (tt 6, .inl (dA 0, 84, .inl tx)), (tt 1, .inr (5, [.ref (tt 2)])), (tt 2, .inl (dA 0, 84, .inl tw)), (tt 3, .inr (5, [.ref (tt 4)])), (tt 4, .inl (dA 0, 84, .inl tp))] := hD
          obtain rfl : r12 = tp kk := hw14
          refine lv_icmp_ne (tgt := 47) hx hb dX6_isFirstAtPlace_42 (by decide) (fun c15 => ?_) (fun c15 => ?_)
          · refine lv_iinc (v := nI (i2 + 1)) (lv' := [(2, .int (nI (i2 + 1))), (0, .ref (tt 0)), (1, .int (nI kk))]) hx hb dX6_isFirstAtPlace_47 hl (k := 0) rfl (nI_add i2 1) (by decide) rfl (fun ls hl => ?_)
            refine lv_goto (tgt := 2) hx hb dX6_isFirstAtPlace_50 (by decide) ?_
            have hP := hP.sub (ws' := [(tt 0, .inr (9, [.ref (tt 1), .ref (tt 3), .ref (tt 5), .int (nI nm)])), (tt 1, .inr (5, [.ref (tt 2)])), (tt 2, .inl (dA 0, 84, .inl tw)), (tt 3, .inr (5, [.ref (tt 4)])), (tt 4, .inl (dA 0, 84, .inl tp)), (tt 5, .inr (5, [.ref (tt 6)])), (tt 6, .inl (dA 0, 84, .inl tx))]) [0, 3, 4, 5, 6, 1, 2] rfl
            have hD := hD.sub (ws' := [(tt 0, .inr (9, [.ref (tt 1), .ref (tt 3), .ref (tt 5), .int (nI nm)])), (tt 1, .inr (5, [.ref (tt 2)])), (tt 2, .inl (dA 0, 84, .inl tw)), (tt 3, .inr (5, [.ref (tt 4)])), (tt 4, .inl (dA 0, 84, .inl tp)), (tt 5, .inr (5, [.ref (tt 6)])), (tt 6, .inl (dA 0, 84, .inl tx))]) [0, 3, 4, 5, 6, 1, 2] (by decide) rfl
            exact ih2 (i2 + 1)  (by omega) (by omega) (by omega) (ffB_s2 hx2 c15) _ _ hP hD hS ls (lv_sub hl [0, 1, 2] rfl)
          · refine lv_iconst (v := 0) hx hb dX6_isFirstAtPlace_45 (by decide) ?_
            refine W.widen (k := 0) (n := 0) (Nat.le_of_ble_eq_true rfl) (Nat.le_of_ble_eq_true rfl) ?_
            have hP9 := hP.sub (ws' := [(tt 0, .inr (9, [.ref (tt 1), .ref (tt 3), .ref (tt 5), .int (nI nm)])), (tt 1, .inr (5, [.ref (tt 2)])), (tt 2, .inl (dA 0, 84, .inl tw)), (tt 3, .inr (5, [.ref (tt 4)])), (tt 4, .inl (dA 0, 84, .inl tp)), (tt 5, .inr (5, [.ref (tt 6)])), (tt 6, .inl (dA 0, 84, .inl tx))]) [0, 3, 4, 5, 6, 1, 2] rfl
            have hD9 := hD.sub (ws' := [(tt 0, .inr (9, [.ref (tt 1), .ref (tt 3), .ref (tt 5), .int (nI nm)])), (tt 1, .inr (5, [.ref (tt 2)])), (tt 2, .inl (dA 0, 84, .inl tw)), (tt 3, .inr (5, [.ref (tt 4)])), (tt 4, .inl (dA 0, 84, .inl tp)), (tt 5, .inr (5, [.ref (tt 6)])), (tt 6, .inl (dA 0, 84, .inl tx))]) [0, 3, 4, 5, 6, 1, 2] (by decide) rfl
            exact W.zret (v := 0) hx hb hr rfl (fun t ht hW => ⟨⟨0, (), rfl, (show _ = bI (ffB tw tp kk kk) from (congrArg bI (ffB_f c8 c15 kk (by omega))).symm), ⟨by rw [ht]; exact hP9, hD9⟩⟩, hS.F ht⟩) hS.2.2 dX6_isFirstAtPlace_46
  exact K2 (kk + 1) 0  (by omega) (by omega) (by omega) rfl _ _ hP hD hS ls hl

set_option maxHeartbeats 4000000 in
set_option maxRecDepth 100000 in
theorem t_firstIndexAt (l : Launch) (D : va_G) (dA : Nat → ClassId) (E : Nat) (tt : Nat → Nat) (tw tp tx : Nat → Int32) (nm : Nat) (p0 p1 : Int32) (sz : Nat) (hnm : nm ≤ 84)  : Met l yX6_firstIndexAt (wq (.code yX6_firstIndexAt cX6_firstIndexAt 6 (some .int))) { frames := 1, cells := 0, slots := 0, locals := 21 } (va_Pc [.ref (tt 0), .int p0, .int p1] (PcB D dA E [(tt 0, .inr (9, [.ref (tt 1), .ref (tt 3), .ref (tt 5), .int (nI nm)])), (tt 1, .inr (5, [.ref (tt 2)])), (tt 2, .inl (dA 0, 84, .inl tw)), (tt 3, .inr (5, [.ref (tt 4)])), (tt 4, .inl (dA 0, 84, .inl tp)), (tt 5, .inr (5, [.ref (tt 6)])), (tt 6, .inl (dA 0, 84, .inl tx))] sz)) (va_Qi (fun (r : Int32) (u : Unit) => True) (fun u t => va_P D vwCl [(tt 0, .inr (9, [.ref (tt 1), .ref (tt 3), .ref (tt 5), .int (nI nm)])), (tt 1, .inr (5, [.ref (tt 2)])), (tt 2, .inl (dA 0, 84, .inl tw)), (tt 3, .inr (5, [.ref (tt 4)])), (tt 4, .inl (dA 0, 84, .inl tp)), (tt 5, .inr (5, [.ref (tt 6)])), (tt 6, .inl (dA 0, 84, .inl tx))] t.heap ∧ va_D (va_A [(tt 0, .inr (9, [.ref (tt 1), .ref (tt 3), .ref (tt 5), .int (nI nm)])), (tt 1, .inr (5, [.ref (tt 2)])), (tt 2, .inl (dA 0, 84, .inl tw)), (tt 3, .inr (5, [.ref (tt 4)])), (tt 4, .inl (dA 0, 84, .inl tp)), (tt 5, .inr (5, [.ref (tt 6)])), (tt 6, .inl (dA 0, 84, .inl tx))] sz) [(tt 0, .inr (9, [.ref (tt 1), .ref (tt 3), .ref (tt 5), .int (nI nm)])), (tt 1, .inr (5, [.ref (tt 2)])), (tt 2, .inl (dA 0, 84, .inl tw)), (tt 3, .inr (5, [.ref (tt 4)])), (tt 4, .inl (dA 0, 84, .inl tp)), (tt 5, .inr (5, [.ref (tt 6)])), (tt 6, .inl (dA 0, 84, .inl tx))]) (va_A [(tt 0, .inr (9, [.ref (tt 1), .ref (tt 3), .ref (tt 5), .int (nI nm)])), (tt 1, .inr (5, [.ref (tt 2)])), (tt 2, .inl (dA 0, 84, .inl tw)), (tt 3, .inr (5, [.ref (tt 4)])), (tt 4, .inl (dA 0, 84, .inl tp)), (tt 5, .inr (5, [.ref (tt 6)])), (tt 6, .inl (dA 0, 84, .inl tx))] sz)) 0 0 (va_A [(tt 0, .inr (9, [.ref (tt 1), .ref (tt 3), .ref (tt 5), .int (nI nm)])), (tt 1, .inr (5, [.ref (tt 2)])), (tt 2, .inl (dA 0, 84, .inl tw)), (tt 3, .inr (5, [.ref (tt 4)])), (tt 4, .inl (dA 0, 84, .inl tp)), (tt 5, .inr (5, [.ref (tt 6)])), (tt 6, .inl (dA 0, 84, .inl tx))] sz) := by
  refine mb_of (Qc := fun A => va_Qi (fun (r : Int32) (u : Unit) => True) (fun u t => va_P D vwCl [(tt 0, .inr (9, [.ref (tt 1), .ref (tt 3), .ref (tt 5), .int (nI nm)])), (tt 1, .inr (5, [.ref (tt 2)])), (tt 2, .inl (dA 0, 84, .inl tw)), (tt 3, .inr (5, [.ref (tt 4)])), (tt 4, .inl (dA 0, 84, .inl tp)), (tt 5, .inr (5, [.ref (tt 6)])), (tt 6, .inl (dA 0, 84, .inl tx))] t.heap ∧ va_D A [(tt 0, .inr (9, [.ref (tt 1), .ref (tt 3), .ref (tt 5), .int (nI nm)])), (tt 1, .inr (5, [.ref (tt 2)])), (tt 2, .inl (dA 0, 84, .inl tw)), (tt 3, .inr (5, [.ref (tt 4)])), (tt 4, .inl (dA 0, 84, .inl tp)), (tt 5, .inr (5, [.ref (tt 6)])), (tt 6, .inl (dA 0, 84, .inl tx))]) A) RX6 rfl (by decide) (Nat.le_of_ble_eq_true rfl) ?_
  intro p e s m args below meth c hae hx hb hr hts hown hlocks hml hnm hP hK A hAe hD hZ hS hA ls hl
  have hl : lv_has ls 6 [(0, .ref (tt 0)), (1, .int p0), (2, .int p1)] := hl
  refine lv_bipush (v := 12) hx hb dX6_firstIndexAt_0 (by decide) ?_
  refine lv_istore_n (lv' := [(3, .int 12), (0, .ref (tt 0)), (1, .int p0), (2, .int p1)]) hx hb dX6_firstIndexAt_2 rfl hl (by decide) rfl (fun ls hl => ?_)
  refine lv_iconst (v := 0) hx hb dX6_firstIndexAt_3 (by decide) ?_
  refine lv_istore (lv' := [(4, .int 0), (3, .int 12), (0, .ref (tt 0)), (1, .int p0), (2, .int p1)]) hx hb dX6_firstIndexAt_4 hl (by decide) rfl (fun ls hl => ?_)
  have K6 : ∀ (k6 i6 : Nat) (g6_0 : Int32), 0 ≤ i6 → i6 ≤ nm → nm < i6 + k6 → True → ∀ (H : Heap) (locs : List Loc), va_P D vwCl [(tt 0, .inr (9, [.ref (tt 1), .ref (tt 3), .ref (tt 5), .int (nI nm)])), (tt 1, .inr (5, [.ref (tt 2)])), (tt 2, .inl (dA 0, 84, .inl tw)), (tt 3, .inr (5, [.ref (tt 4)])), (tt 4, .inl (dA 0, 84, .inl tp)), (tt 5, .inr (5, [.ref (tt 6)])), (tt 6, .inl (dA 0, 84, .inl tx))] H → va_D A [(tt 0, .inr (9, [.ref (tt 1), .ref (tt 3), .ref (tt 5), .int (nI nm)])), (tt 1, .inr (5, [.ref (tt 2)])), (tt 2, .inl (dA 0, 84, .inl tw)), (tt 3, .inr (5, [.ref (tt 4)])), (tt 4, .inl (dA 0, 84, .inl tp)), (tt 5, .inr (5, [.ref (tt 6)])), (tt 6, .inl (dA 0, 84, .inl tx))] → va_S A s.heap H locs → ∀ ls : Array Slot, lv_has ls 6 [(4, .int (nI i6)), (3, .int g6_0), (0, .ref (tt 0)), (1, .int p0), (2, .int p1)] → W p l e { frames := 1, cells := 0, slots := 0, locals := 21 } s m args below meth c H locs 0 0 (MQ below (va_Qi (fun (r : Int32) (u : Unit) => True) (fun u t => va_P D vwCl [(tt 0, .inr (9, [.ref (tt 1), .ref (tt 3), .ref (tt 5), .int (nI nm)])), (tt 1, .inr (5, [.ref (tt 2)])), (tt 2, .inl (dA 0, 84, .inl tw)), (tt 3, .inr (5, [.ref (tt 4)])), (tt 4, .inl (dA 0, 84, .inl tp)), (tt 5, .inr (5, [.ref (tt 6)])), (tt 6, .inl (dA 0, 84, .inl tx))] t.heap ∧ va_D A [(tt 0, .inr (9, [.ref (tt 1), .ref (tt 3), .ref (tt 5), .int (nI nm)])), (tt 1, .inr (5, [.ref (tt 2)])), (tt 2, .inl (dA 0, 84, .inl tw)), (tt 3, .inr (5, [.ref (tt 4)])), (tt 4, .inl (dA 0, 84, .inl tp)), (tt 5, .inr (5, [.ref (tt 6)])), (tt 6, .inl (dA 0, 84, .inl tx))]) A) args s 0 0 A) (F0 m 6 ls []) := by
    intro k6
    induction k6 with
    | zero => intro i6 g6_0 h1 h2 h3; exact absurd h3 (by omega)
    | succ k6 ih6 =>
      intro i6 g6_0 hlo6 hhi6 hms6 hinv6 H locs hP hD hS ls hl
      refine lv_iload hx hb dX6_firstIndexAt_6 (lv_at hl 0 rfl) ?_
      refine lv_aload_n hx hb dX6_firstIndexAt_8 rfl (lv_at hl 2 rfl) ?_
      refine va_get (D := D) (ci := 9) (v := .int (nI nm)) (C := RX6) (T := TX6) (N := 4) hx hb hts inAX6 hown hK hP 0 rfl rfl 3 (by decide) (hts _ q205) (fun _ h9 => h9) rfl dX6_firstIndexAt_9 ?_
      refine lv_icmp_ge (tgt := 82) hx hb dX6_firstIndexAt_12 (by decide) (fun c1 => ?_) (fun c1 => ?_)
      · replace c1 := (nI_leI (a := nm) (b := i6) (by omega) (by omega)).mp c1
        obtain rfl : nm = i6 := (by omega)
        have hP : va_P D vwCl [(tt 0, .inr (9, [.ref (tt 1), .ref (tt 3), .ref (tt 5), .int (nI nm)])), (tt 1, .inr (5, [.ref (tt 2)])), (tt 2, .inl (dA 0, 84, .inl tw)), (tt 3, .inr (5, [.ref (tt 4)])), (tt 4, .inl (dA 0, 84, .inl tp)), (tt 5, .inr (5, [.ref (tt 6)])), (tt 6, .inl (dA 0, 84, .inl tx))] H := hP
        have hD : va_D A [(tt 0, .inr (9, [.ref (tt 1), .ref (tt 3), .ref (tt 5), .int (nI nm)])), (tt 1, .inr (5, [.ref (tt 2)])), (tt 2, .inl (dA 0, 84, .inl tw)), (tt 3, .inr (5, [.ref (tt 4)])), (tt 4, .inl (dA 0, 84, .inl tp)), (tt 5, .inr (5, [.ref (tt 6)])), (tt 6, .inl (dA 0, 84, .inl tx))] := hD
        refine lv_iload_n hx hb dX6_firstIndexAt_82 rfl (lv_at hl 1 rfl) ?_
        refine W.widen (k := 0) (n := 0) (Nat.le_of_ble_eq_true rfl) (Nat.le_of_ble_eq_true rfl) ?_
        have hP9 := hP.sub (ws' := [(tt 0, .inr (9, [.ref (tt 1), .ref (tt 3), .ref (tt 5), .int (nI nm)])), (tt 1, .inr (5, [.ref (tt 2)])), (tt 2, .inl (dA 0, 84, .inl tw)), (tt 3, .inr (5, [.ref (tt 4)])), (tt 4, .inl (dA 0, 84, .inl tp)), (tt 5, .inr (5, [.ref (tt 6)])), (tt 6, .inl (dA 0, 84, .inl tx))]) [0, 1, 2, 3, 4, 5, 6] rfl
        have hD9 := hD.sub (ws' := [(tt 0, .inr (9, [.ref (tt 1), .ref (tt 3), .ref (tt 5), .int (nI nm)])), (tt 1, .inr (5, [.ref (tt 2)])), (tt 2, .inl (dA 0, 84, .inl tw)), (tt 3, .inr (5, [.ref (tt 4)])), (tt 4, .inl (dA 0, 84, .inl tp)), (tt 5, .inr (5, [.ref (tt 6)])), (tt 6, .inl (dA 0, 84, .inl tx))]) [0, 1, 2, 3, 4, 5, 6] (by decide) rfl
        exact W.iret (v := g6_0) hx hb hr (fun t ht hW => ⟨⟨g6_0, (), rfl, trivial, ⟨by rw [ht]; exact hP9, hD9⟩⟩, hS.F ht⟩) hS.2.2 dX6_firstIndexAt_83
      · replace c1 := mt (nI_leI (a := nm) (b := i6) (by omega) (by omega)).mpr c1
        refine lv_aload_n hx hb dX6_firstIndexAt_15 rfl (lv_at hl 2 rfl) ?_
        refine va_get (D := D) (ci := 9) (v := .ref (tt 1)) (C := RX6) (T := TX6) (N := 4) hx hb hts inAX6 hown hK hP 0 rfl rfl 0 (by decide) (hts _ q206) (fun _ h9 => h9) rfl dX6_firstIndexAt_16 ?_
        refine lv_iload hx hb dX6_firstIndexAt_19 (lv_at hl 0 rfl) ?_
        have hPc := hP.sub (ws' := [(tt 1, .inr (5, [.ref (tt 2)])), (tt 2, .inl (dA 0, 84, .inl tw))]) [1, 2] rfl
        have hDc := hD.sub (ws' := [(tt 1, .inr (5, [.ref (tt 2)])), (tt 2, .inl (dA 0, 84, .inl tw))]) [1, 2] (by decide) rfl
        have hFc := va_free (wc := [(tt 1, .inr (5, [.ref (tt 2)])), (tt 2, .inl (dA 0, 84, .inl tw))]) hD hS hA [1, 2] rfl
        refine va_calli (va_runV (As := [.int (nI i6)]) (rest := []) ⟨hx, hb, hml, hown, hts⟩ (t_getN l D dA E (tt 1) (tt 2) 84 tw i6 H.size  (by omega) (by decide)) (cwV 1 hts (ga_V q213 q203 q200 q204 q201) rfl rfl rfl (by decide +kernel) ⟨(Nat.le_of_ble_eq_true rfl), (Nat.le_of_ble_eq_true rfl)⟩) ⟨pb_blind, va_recv hK hPc (ci := 5) (q0 := 0) rfl rfl, pb_pre hK hPc hDc hZ hS hFc _⟩ rfl rfl hl.1 rfl (lv_room (Nat.le_of_ble_eq_true rfl)) dX6_firstIndexAt_21 ⟨(Nat.le_of_ble_eq_true rfl), (Nat.le_of_ble_eq_true rfl)⟩) hS (fun q _ h => hFc q h) hFc (fun r u t H1 locs ht hvm hw hB hz1 hk1 hS => ?_)
        refine W.widen (k := 0) (n := 0) (Nat.le_of_ble_eq_true rfl) (Nat.le_of_ble_eq_true rfl) ?_
        obtain ⟨r2, rfl⟩ : ∃ z, z = r := ⟨_, rfl⟩
        obtain ⟨u3, rfl⟩ : ∃ z, z = u := ⟨_, rfl⟩
        have hw4 := hw
        clear hw
        obtain ⟨hP1, hD1⟩ := hB
        rw [ht] at hP1
        obtain ⟨hP, hD⟩ := va_join (wr := [(tt 0, .inr (9, [.ref (tt 1), .ref (tt 3), .ref (tt 5), .int (nI nm)])), (tt 3, .inr (5, [.ref (tt 4)])), (tt 4, .inl (dA 0, 84, .inl tp)), (tt 5, .inr (5, [.ref (tt 6)])), (tt 6, .inl (dA 0, 84, .inl tx))]) (w1 := [(tt 1, .inr (5, [.ref (tt 2)])), (tt 2, .inl (dA 0, 84, .inl tw))]) hP hD [1, 2] [0, 3, 4, 5, 6] rfl rfl (by decide) (by decide) hk1 hFc hP1 hD1
        generalize H1 = H at hP hS ⊢
        have hP : va_P D vwCl [(tt 0, .inr (9, [.ref (tt 1), .ref (tt 3), .ref (tt 5), .int (nI nm)])), (tt 3, .inr (5, [.ref (tt 4)])), (tt 4, .inl (dA 0, 84, .inl tp)), (tt 5, .inr (5, [.ref (tt 6)])), (tt 6, .inl (dA 0, 84, .inl tx)), (tt 1, .inr (5, [.ref (tt 2)])), (tt 2, .inl (dA 0, 84, .inl tw))] H := hP
        have hD : va_D A [(tt 0, .inr (9, [.ref (tt 1), .ref (tt 3), .ref (tt 5), .int (nI nm)])), (tt 3, .inr (5, [.ref (tt 4)])), (tt 4, .inl (dA 0, 84, .inl tp)), (tt 5, .inr (5, [.ref (tt 6)])), (tt 6, .inl (dA 0, 84, .inl tx)), (tt 1, .inr (5, [.ref (tt 2)])), (tt 2, .inl (dA 0, 84, .inl tw))] := hD
        obtain rfl : r2 = tw i6 := hw4
        refine lv_iload_n hx hb dX6_firstIndexAt_24 rfl (lv_at hl 4 rfl) ?_
        refine lv_icmp_ne (tgt := 45) hx hb dX6_firstIndexAt_25 (by decide) (fun c5 => ?_) (fun c5 => ?_)
        · refine lv_iconst (v := 0) hx hb dX6_firstIndexAt_45 (by decide) ?_
          refine lv_istore (lv' := [(5, .int 0), (4, .int (nI i6)), (3, .int g6_0), (0, .ref (tt 0)), (1, .int p0), (2, .int p1)]) hx hb dX6_firstIndexAt_46 hl (by decide) rfl (fun ls hl => ?_)
          refine lv_iload hx hb dX6_firstIndexAt_48 (lv_at hl 0 rfl) ?_
          refine lv_if_eq (tgt := 76) hx hb dX6_firstIndexAt_50 (by decide) (fun _ => ?_) (fun c6 => absurd (by decide) c6)
          refine lv_iinc (v := nI (i6 + 1)) (lv' := [(4, .int (nI (i6 + 1))), (5, .int 0), (3, .int g6_0), (0, .ref (tt 0)), (1, .int p0), (2, .int p1)]) hx hb dX6_firstIndexAt_76 hl (k := 1) rfl (nI_add i6 1) (by decide) rfl (fun ls hl => ?_)
          refine lv_goto (tgt := 6) hx hb dX6_firstIndexAt_79 (by decide) ?_
          have hP := hP.sub (ws' := [(tt 0, .inr (9, [.ref (tt 1), .ref (tt 3), .ref (tt 5), .int (nI nm)])), (tt 1, .inr (5, [.ref (tt 2)])), (tt 2, .inl (dA 0, 84, .inl tw)), (tt 3, .inr (5, [.ref (tt 4)])), (tt 4, .inl (dA 0, 84, .inl tp)), (tt 5, .inr (5, [.ref (tt 6)])), (tt 6, .inl (dA 0, 84, .inl tx))]) [0, 5, 6, 1, 2, 3, 4] rfl
          have hD := hD.sub (ws' := [(tt 0, .inr (9, [.ref (tt 1), .ref (tt 3), .ref (tt 5), .int (nI nm)])), (tt 1, .inr (5, [.ref (tt 2)])), (tt 2, .inl (dA 0, 84, .inl tw)), (tt 3, .inr (5, [.ref (tt 4)])), (tt 4, .inl (dA 0, 84, .inl tp)), (tt 5, .inr (5, [.ref (tt 6)])), (tt 6, .inl (dA 0, 84, .inl tx))]) [0, 5, 6, 1, 2, 3, 4] (by decide) rfl
          exact ih6 (i6 + 1) g6_0 (by omega) (by omega) (by omega) trivial _ _ hP hD hS ls (lv_sub hl [0, 2, 3, 4, 5] rfl)
        · refine lv_aload_n hx hb dX6_firstIndexAt_28 rfl (lv_at hl 2 rfl) ?_
          refine va_get (D := D) (ci := 9) (v := .ref (tt 3)) (C := RX6) (T := TX6) (N := 4) hx hb hts inAX6 hown hK hP 0 rfl rfl 1 (by decide) (hts _ q211) (fun _ h9 => h9) rfl dX6_firstIndexAt_29 ?_
          refine lv_iload hx hb dX6_firstIndexAt_32 (lv_at hl 0 rfl) ?_
          have hPc := hP.sub (ws' := [(tt 3, .inr (5, [.ref (tt 4)])), (tt 4, .inl (dA 0, 84, .inl tp))]) [1, 2] rfl
          have hDc := hD.sub (ws' := [(tt 3, .inr (5, [.ref (tt 4)])), (tt 4, .inl (dA 0, 84, .inl tp))]) [1, 2] (by decide) rfl
          have hFc := va_free (wc := [(tt 3, .inr (5, [.ref (tt 4)])), (tt 4, .inl (dA 0, 84, .inl tp))]) hD hS hA [1, 2] rfl
          refine va_calli (va_runV (As := [.int (nI i6)]) (rest := []) ⟨hx, hb, hml, hown, hts⟩ (t_getN l D dA E (tt 3) (tt 4) 84 tp i6 H.size  (by omega) (by decide)) (cwV 1 hts (ga_V q213 q203 q200 q204 q201) rfl rfl rfl (by decide +kernel) ⟨(Nat.le_of_ble_eq_true rfl), (Nat.le_of_ble_eq_true rfl)⟩) ⟨pb_blind, va_recv hK hPc (ci := 5) (q0 := 0) rfl rfl, pb_pre hK hPc hDc hZ hS hFc _⟩ rfl rfl hl.1 rfl (lv_room (Nat.le_of_ble_eq_true rfl)) dX6_firstIndexAt_34 ⟨(Nat.le_of_ble_eq_true rfl), (Nat.le_of_ble_eq_true rfl)⟩) hS (fun q _ h => hFc q h) hFc (fun r u t H1 locs ht hvm hw hB hz1 hk1 hS => ?_)
          refine W.widen (k := 0) (n := 0) (Nat.le_of_ble_eq_true rfl) (Nat.le_of_ble_eq_true rfl) ?_
          obtain ⟨r7, rfl⟩ : ∃ z, z = r := ⟨_, rfl⟩
          obtain ⟨u8, rfl⟩ : ∃ z, z = u := ⟨_, rfl⟩
          have hw9 := hw
          clear hw
          obtain ⟨hP1, hD1⟩ := hB
          rw [ht] at hP1
          obtain ⟨hP, hD⟩ := va_join (wr := [(tt 0, .inr (9, [.ref (tt 1), .ref (tt 3), .ref (tt 5), .int (nI nm)])), (tt 5, .inr (5, [.ref (tt 6)])), (tt 6, .inl (dA 0, 84, .inl tx)), (tt 1, .inr (5, [.ref (tt 2)])), (tt 2, .inl (dA 0, 84, .inl tw))]) (w1 := [(tt 3, .inr (5, [.ref (tt 4)])), (tt 4, .inl (dA 0, 84, .inl tp))]) hP hD [1, 2] [0, 3, 4, 5, 6] rfl rfl (by decide) (by decide) hk1 hFc hP1 hD1
          generalize H1 = H at hP hS ⊢
          have hP : va_P D vwCl [(tt 0, .inr (9, [.ref (tt 1), .ref (tt 3), .ref (tt 5), .int (nI nm)])), (tt 5, .inr (5, [.ref (tt 6)])), (tt 6, .inl (dA 0, 84, .inl tx)), (tt 1, .inr (5, [.ref (tt 2)])), (tt 2, .inl (dA 0, 84, .inl tw)), (tt 3, .inr (5, [.ref (tt 4)])), (tt 4, .inl (dA 0, 84, .inl tp))] H := hP
          have hD : va_D A [(tt 0, .inr (9, [.ref (tt 1), .ref (tt 3), .ref (tt 5), .int (nI nm)])), (tt 5, .inr (5, [.ref (tt 6)])), (tt 6, .inl (dA 0, 84, .inl tx)), (tt 1, .inr (5, [.ref (tt 2)])), (tt 2, .inl (dA 0, 84, .inl tw)), (tt 3, .inr (5, [.ref (tt 4)])), (tt 4, .inl (dA 0, 84, .inl tp))] := hD
          obtain rfl : r7 = tp i6 := hw9
          refine lv_iload_n hx hb dX6_firstIndexAt_37 rfl (lv_at hl 3 rfl) ?_
          refine lv_icmp_ne (tgt := 45) hx hb dX6_firstIndexAt_38 (by decide) (fun c10 => ?_) (fun c10 => ?_)
          · refine lv_iconst (v := 0) hx hb dX6_firstIndexAt_45 (by decide) ?_
            refine lv_istore (lv' := [(5, .int 0), (4, .int (nI i6)), (3, .int g6_0), (0, .ref (tt 0)), (1, .int p0), (2, .int p1)]) hx hb dX6_firstIndexAt_46 hl (by decide) rfl (fun ls hl => ?_)
            refine lv_iload hx hb dX6_firstIndexAt_48 (lv_at hl 0 rfl) ?_
            refine lv_if_eq (tgt := 76) hx hb dX6_firstIndexAt_50 (by decide) (fun _ => ?_) (fun c11 => absurd (by decide) c11)
            refine lv_iinc (v := nI (i6 + 1)) (lv' := [(4, .int (nI (i6 + 1))), (5, .int 0), (3, .int g6_0), (0, .ref (tt 0)), (1, .int p0), (2, .int p1)]) hx hb dX6_firstIndexAt_76 hl (k := 1) rfl (nI_add i6 1) (by decide) rfl (fun ls hl => ?_)
            refine lv_goto (tgt := 6) hx hb dX6_firstIndexAt_79 (by decide) ?_
            have hP := hP.sub (ws' := [(tt 0, .inr (9, [.ref (tt 1), .ref (tt 3), .ref (tt 5), .int (nI nm)])), (tt 1, .inr (5, [.ref (tt 2)])), (tt 2, .inl (dA 0, 84, .inl tw)), (tt 3, .inr (5, [.ref (tt 4)])), (tt 4, .inl (dA 0, 84, .inl tp)), (tt 5, .inr (5, [.ref (tt 6)])), (tt 6, .inl (dA 0, 84, .inl tx))]) [0, 3, 4, 5, 6, 1, 2] rfl
            have hD := hD.sub (ws' := [(tt 0, .inr (9, [.ref (tt 1), .ref (tt 3), .ref (tt 5), .int (nI nm)])), (tt 1, .inr (5, [.ref (tt 2)])), (tt 2, .inl (dA 0, 84, .inl tw)), (tt 3, .inr (5, [.ref (tt 4)])), (tt 4, .inl (dA 0, 84, .inl tp)), (tt 5, .inr (5, [.ref (tt 6)])), (tt 6, .inl (dA 0, 84, .inl tx))]) [0, 3, 4, 5, 6, 1, 2] (by decide) rfl
            exact ih6 (i6 + 1) g6_0 (by omega) (by omega) (by omega) trivial _ _ hP hD hS ls (lv_sub hl [0, 2, 3, 4, 5] rfl)
          · refine lv_iconst (v := 1) hx hb dX6_firstIndexAt_41 (by decide) ?_
            refine lv_goto (tgt := 46) hx hb dX6_firstIndexAt_42 (by decide) ?_
            refine lv_istore (lv' := [(5, .int 1), (4, .int (nI i6)), (3, .int g6_0), (0, .ref (tt 0)), (1, .int p0), (2, .int p1)]) hx hb dX6_firstIndexAt_46 hl (by decide) rfl (fun ls hl => ?_)
            refine lv_iload hx hb dX6_firstIndexAt_48 (lv_at hl 0 rfl) ?_
            refine lv_if_eq (tgt := 76) hx hb dX6_firstIndexAt_50 (by decide) (fun c12 => absurd c12 (by decide)) (fun _ => ?_)
            refine lv_aload_n hx hb dX6_firstIndexAt_53 rfl (lv_at hl 3 rfl) ?_
            refine va_get (D := D) (ci := 9) (v := .ref (tt 5)) (C := RX6) (T := TX6) (N := 4) hx hb hts inAX6 hown hK hP 0 rfl rfl 2 (by decide) (hts _ q212) (fun _ h9 => h9) rfl dX6_firstIndexAt_54 ?_
            refine lv_iload hx hb dX6_firstIndexAt_57 (lv_at hl 1 rfl) ?_
            have hPc := hP.sub (ws' := [(tt 5, .inr (5, [.ref (tt 6)])), (tt 6, .inl (dA 0, 84, .inl tx))]) [1, 2] rfl
            have hDc := hD.sub (ws' := [(tt 5, .inr (5, [.ref (tt 6)])), (tt 6, .inl (dA 0, 84, .inl tx))]) [1, 2] (by decide) rfl
            have hFc := va_free (wc := [(tt 5, .inr (5, [.ref (tt 6)])), (tt 6, .inl (dA 0, 84, .inl tx))]) hD hS hA [1, 2] rfl
            refine va_calli (va_runV (As := [.int (nI i6)]) (rest := []) ⟨hx, hb, hml, hown, hts⟩ (t_getN l D dA E (tt 5) (tt 6) 84 tx i6 H.size  (by omega) (by decide)) (cwV 1 hts (ga_V q213 q203 q200 q204 q201) rfl rfl rfl (by decide +kernel) ⟨(Nat.le_of_ble_eq_true rfl), (Nat.le_of_ble_eq_true rfl)⟩) ⟨pb_blind, va_recv hK hPc (ci := 5) (q0 := 0) rfl rfl, pb_pre hK hPc hDc hZ hS hFc _⟩ rfl rfl hl.1 rfl (lv_room (Nat.le_of_ble_eq_true rfl)) dX6_firstIndexAt_59 ⟨(Nat.le_of_ble_eq_true rfl), (Nat.le_of_ble_eq_true rfl)⟩) hS (fun q _ h => hFc q h) hFc (fun r u t H1 locs ht hvm hw hB hz1 hk1 hS => ?_)
            refine W.widen (k := 0) (n := 0) (Nat.le_of_ble_eq_true rfl) (Nat.le_of_ble_eq_true rfl) ?_
            obtain ⟨r13, rfl⟩ : ∃ z, z = r := ⟨_, rfl⟩
            obtain ⟨u14, rfl⟩ : ∃ z, z = u := ⟨_, rfl⟩
            have hw15 := hw
            clear hw
            obtain ⟨hP1, hD1⟩ := hB
            rw [ht] at hP1
            obtain ⟨hP, hD⟩ := va_join (wr := [(tt 0, .inr (9, [.ref (tt 1), .ref (tt 3), .ref (tt 5), .int (nI nm)])), (tt 1, .inr (5, [.ref (tt 2)])), (tt 2, .inl (dA 0, 84, .inl tw)), (tt 3, .inr (5, [.ref (tt 4)])), (tt 4, .inl (dA 0, 84, .inl tp))]) (w1 := [(tt 5, .inr (5, [.ref (tt 6)])), (tt 6, .inl (dA 0, 84, .inl tx))]) hP hD [1, 2] [0, 3, 4, 5, 6] rfl rfl (by decide) (by decide) hk1 hFc hP1 hD1
            generalize H1 = H at hP hS ⊢
            have hP : va_P D vwCl [(tt 0, .inr (9, [.ref (tt 1), .ref (tt 3), .ref (tt 5), .int (nI nm)])), (tt 1, .inr (5, [.ref (tt 2)])), (tt 2, .inl (dA 0, 84, .inl tw)), (tt 3, .inr (5, [.ref (tt 4)])), (tt 4, .inl (dA 0, 84, .inl tp)), (tt 5, .inr (5, [.ref (tt 6)])), (tt 6, .inl (dA 0, 84, .inl tx))] H := hP
            have hD : va_D A [(tt 0, .inr (9, [.ref (tt 1), .ref (tt 3), .ref (tt 5), .int (nI nm)])), (tt 1, .inr (5, [.ref (tt 2)])), (tt 2, .inl (dA 0, 84, .inl tw)), (tt 3, .inr (5, [.ref (tt 4)])), (tt 4, .inl (dA 0, 84, .inl tp)), (tt 5, .inr (5, [.ref (tt 6)])), (tt 6, .inl (dA 0, 84, .inl tx))] := hD
            obtain rfl : r13 = tx i6 := hw15
            refine lv_iload_n hx hb dX6_firstIndexAt_62 rfl (lv_at hl 2 rfl) ?_
            refine lv_icmp_ge (tgt := 76) hx hb dX6_firstIndexAt_63 (by decide) (fun c16 => ?_) (fun c16 => ?_)
            · refine lv_iinc (v := nI (i6 + 1)) (lv' := [(4, .int (nI (i6 + 1))), (5, .int 1), (3, .int g6_0), (0, .ref (tt 0)), (1, .int p0), (2, .int p1)]) hx hb dX6_firstIndexAt_76 hl (k := 1) rfl (nI_add i6 1) (by decide) rfl (fun ls hl => ?_)
              refine lv_goto (tgt := 6) hx hb dX6_firstIndexAt_79 (by decide) ?_
              exact ih6 (i6 + 1) g6_0 (by omega) (by omega) (by omega) trivial _ _ hP hD hS ls (lv_sub hl [0, 2, 3, 4, 5] rfl)
            · refine lv_aload_n hx hb dX6_firstIndexAt_66 rfl (lv_at hl 3 rfl) ?_
              refine va_get (D := D) (ci := 9) (v := .ref (tt 5)) (C := RX6) (T := TX6) (N := 4) hx hb hts inAX6 hown hK hP 0 rfl rfl 2 (by decide) (hts _ q212) (fun _ h9 => h9) rfl dX6_firstIndexAt_67 ?_
              refine lv_iload hx hb dX6_firstIndexAt_70 (lv_at hl 1 rfl) ?_
              have hPc := hP.sub (ws' := [(tt 5, .inr (5, [.ref (tt 6)])), (tt 6, .inl (dA 0, 84, .inl tx))]) [5, 6] rfl
              have hDc := hD.sub (ws' := [(tt 5, .inr (5, [.ref (tt 6)])), (tt 6, .inl (dA 0, 84, .inl tx))]) [5, 6] (by decide) rfl
              have hFc := va_free (wc := [(tt 5, .inr (5, [.ref (tt 6)])), (tt 6, .inl (dA 0, 84, .inl tx))]) hD hS hA [5, 6] rfl
              refine va_calli (va_runV (As := [.int (nI i6)]) (rest := []) ⟨hx, hb, hml, hown, hts⟩ (t_getN l D dA E (tt 5) (tt 6) 84 tx i6 H.size  (by omega) (by decide)) (cwV 1 hts (ga_V q213 q203 q200 q204 q201) rfl rfl rfl (by decide +kernel) ⟨(Nat.le_of_ble_eq_true rfl), (Nat.le_of_ble_eq_true rfl)⟩) ⟨pb_blind, va_recv hK hPc (ci := 5) (q0 := 0) rfl rfl, pb_pre hK hPc hDc hZ hS hFc _⟩ rfl rfl hl.1 rfl (lv_room (Nat.le_of_ble_eq_true rfl)) dX6_firstIndexAt_72 ⟨(Nat.le_of_ble_eq_true rfl), (Nat.le_of_ble_eq_true rfl)⟩) hS (fun q _ h => hFc q h) hFc (fun r u t H1 locs ht hvm hw hB hz1 hk1 hS => ?_)
              refine W.widen (k := 0) (n := 0) (Nat.le_of_ble_eq_true rfl) (Nat.le_of_ble_eq_true rfl) ?_
              obtain ⟨r17, rfl⟩ : ∃ z, z = r := ⟨_, rfl⟩
              obtain ⟨u18, rfl⟩ : ∃ z, z = u := ⟨_, rfl⟩
              have hw19 := hw
              clear hw
              obtain ⟨hP1, hD1⟩ := hB
              rw [ht] at hP1
              obtain ⟨hP, hD⟩ := va_join (wr := [(tt 0, .inr (9, [.ref (tt 1), .ref (tt 3), .ref (tt 5), .int (nI nm)])), (tt 1, .inr (5, [.ref (tt 2)])), (tt 2, .inl (dA 0, 84, .inl tw)), (tt 3, .inr (5, [.ref (tt 4)])), (tt 4, .inl (dA 0, 84, .inl tp))]) (w1 := [(tt 5, .inr (5, [.ref (tt 6)])), (tt 6, .inl (dA 0, 84, .inl tx))]) hP hD [5, 6] [0, 1, 2, 3, 4] rfl rfl (by decide) (by decide) hk1 hFc hP1 hD1
              generalize H1 = H at hP hS ⊢
              have hP : va_P D vwCl [(tt 0, .inr (9, [.ref (tt 1), .ref (tt 3), .ref (tt 5), .int (nI nm)])), (tt 1, .inr (5, [.ref (tt 2)])), (tt 2, .inl (dA 0, 84, .inl tw)), (tt 3, .inr (5, [.ref (tt 4)])), (tt 4, .inl (dA 0, 84, .inl tp)), (tt 5, .inr (5, [.ref (tt 6)])), (tt 6, .inl (dA 0, 84, .inl tx))] H := hP
              have hD : va_D A [(tt 0, .inr (9, [.ref (tt 1), .ref (tt 3), .ref (tt 5), .int (nI nm)])), (tt 1, .inr (5, [.ref (tt 2)])), (tt 2, .inl (dA 0, 84, .inl tw)), (tt 3, .inr (5, [.ref (tt 4)])), (tt 4, .inl (dA 0, 84, .inl tp)), (tt 5, .inr (5, [.ref (tt 6)])), (tt 6, .inl (dA 0, 84, .inl tx))] := hD
              obtain rfl : r17 = tx i6 := hw19
              refine lv_istore_n (lv' := [(3, .int (tx i6)), (5, .int 1), (4, .int (nI i6)), (0, .ref (tt 0)), (1, .int p0), (2, .int p1)]) hx hb dX6_firstIndexAt_75 rfl hl (by decide) rfl (fun ls hl => ?_)
              refine lv_iinc (v := nI (i6 + 1)) (lv' := [(4, .int (nI (i6 + 1))), (3, .int (tx i6)), (5, .int 1), (0, .ref (tt 0)), (1, .int p0), (2, .int p1)]) hx hb dX6_firstIndexAt_76 hl (k := 2) rfl (nI_add i6 1) (by decide) rfl (fun ls hl => ?_)
              refine lv_goto (tgt := 6) hx hb dX6_firstIndexAt_79 (by decide) ?_
              exact ih6 (i6 + 1) (tx i6) (by omega) (by omega) (by omega) trivial _ _ hP hD hS ls (lv_sub hl [0, 1, 3, 4, 5] rfl)
  exact K6 (nm + 1) 0 12 (by omega) (by omega) (by omega) trivial _ _ hP hD hS ls hl

set_option maxHeartbeats 4000000 in
set_option maxRecDepth 100000 in
theorem t_putBeside (l : Launch) (D : va_G) (dA : Nat → ClassId) (E : Nat) (tt : Nat → Nat) (tw tp tx : Nat → Int32) (nm : Nat) (p0 p1 : Int32) (sz : Nat) (hnm : nm ≤ 84) (hpt9 : (ptS p0 p1 (nm, tw, tp, tx) nm).1 ≤ 84)  : Met l yX6_putBeside (wq (.code yX6_putBeside cX6_putBeside 6 none)) { frames := 2, cells := 0, slots := 0, locals := 46 } (va_Pc [.ref (tt 0), .int p0, .int p1] (PcB D dA E [(tt 0, .inr (9, [.ref (tt 1), .ref (tt 3), .ref (tt 5), .int (nI nm)])), (tt 1, .inr (5, [.ref (tt 2)])), (tt 2, .inl (dA 0, 84, .inl tw)), (tt 3, .inr (5, [.ref (tt 4)])), (tt 4, .inl (dA 0, 84, .inl tp)), (tt 5, .inr (5, [.ref (tt 6)])), (tt 6, .inl (dA 0, 84, .inl tx))] sz)) (va_Qv (fun (u : Nat → Int32) => True) (fun u t => va_P D vwCl [(tt 0, .inr (9, [.ref (tt 1), .ref (tt 3), .ref (tt 5), .int (nI ((ptS p0 p1 (nm, tw, tp, tx) nm).1))])), (tt 1, .inr (5, [.ref (tt 2)])), (tt 2, .inl (dA 0, 84, .inl ((ptS p0 p1 (nm, tw, tp, tx) nm).2.1))), (tt 3, .inr (5, [.ref (tt 4)])), (tt 4, .inl (dA 0, 84, .inl ((ptS p0 p1 (nm, tw, tp, tx) nm).2.2.1))), (tt 5, .inr (5, [.ref (tt 6)])), (tt 6, .inl (dA 0, 84, .inl u))] t.heap ∧ va_D (va_A [(tt 0, .inr (9, [.ref (tt 1), .ref (tt 3), .ref (tt 5), .int (nI nm)])), (tt 1, .inr (5, [.ref (tt 2)])), (tt 2, .inl (dA 0, 84, .inl tw)), (tt 3, .inr (5, [.ref (tt 4)])), (tt 4, .inl (dA 0, 84, .inl tp)), (tt 5, .inr (5, [.ref (tt 6)])), (tt 6, .inl (dA 0, 84, .inl tx))] sz) [(tt 0, .inr (9, [.ref (tt 1), .ref (tt 3), .ref (tt 5), .int (nI ((ptS p0 p1 (nm, tw, tp, tx) nm).1))])), (tt 1, .inr (5, [.ref (tt 2)])), (tt 2, .inl (dA 0, 84, .inl ((ptS p0 p1 (nm, tw, tp, tx) nm).2.1))), (tt 3, .inr (5, [.ref (tt 4)])), (tt 4, .inl (dA 0, 84, .inl ((ptS p0 p1 (nm, tw, tp, tx) nm).2.2.1))), (tt 5, .inr (5, [.ref (tt 6)])), (tt 6, .inl (dA 0, 84, .inl u))]) (va_A [(tt 0, .inr (9, [.ref (tt 1), .ref (tt 3), .ref (tt 5), .int (nI nm)])), (tt 1, .inr (5, [.ref (tt 2)])), (tt 2, .inl (dA 0, 84, .inl tw)), (tt 3, .inr (5, [.ref (tt 4)])), (tt 4, .inl (dA 0, 84, .inl tp)), (tt 5, .inr (5, [.ref (tt 6)])), (tt 6, .inl (dA 0, 84, .inl tx))] sz)) 0 0 (va_A [(tt 0, .inr (9, [.ref (tt 1), .ref (tt 3), .ref (tt 5), .int (nI nm)])), (tt 1, .inr (5, [.ref (tt 2)])), (tt 2, .inl (dA 0, 84, .inl tw)), (tt 3, .inr (5, [.ref (tt 4)])), (tt 4, .inl (dA 0, 84, .inl tp)), (tt 5, .inr (5, [.ref (tt 6)])), (tt 6, .inl (dA 0, 84, .inl tx))] sz) := by
  refine mb_of (Qc := fun A => va_Qv (fun (u : Nat → Int32) => True) (fun u t => va_P D vwCl [(tt 0, .inr (9, [.ref (tt 1), .ref (tt 3), .ref (tt 5), .int (nI ((ptS p0 p1 (nm, tw, tp, tx) nm).1))])), (tt 1, .inr (5, [.ref (tt 2)])), (tt 2, .inl (dA 0, 84, .inl ((ptS p0 p1 (nm, tw, tp, tx) nm).2.1))), (tt 3, .inr (5, [.ref (tt 4)])), (tt 4, .inl (dA 0, 84, .inl ((ptS p0 p1 (nm, tw, tp, tx) nm).2.2.1))), (tt 5, .inr (5, [.ref (tt 6)])), (tt 6, .inl (dA 0, 84, .inl u))] t.heap ∧ va_D A [(tt 0, .inr (9, [.ref (tt 1), .ref (tt 3), .ref (tt 5), .int (nI ((ptS p0 p1 (nm, tw, tp, tx) nm).1))])), (tt 1, .inr (5, [.ref (tt 2)])), (tt 2, .inl (dA 0, 84, .inl ((ptS p0 p1 (nm, tw, tp, tx) nm).2.1))), (tt 3, .inr (5, [.ref (tt 4)])), (tt 4, .inl (dA 0, 84, .inl ((ptS p0 p1 (nm, tw, tp, tx) nm).2.2.1))), (tt 5, .inr (5, [.ref (tt 6)])), (tt 6, .inl (dA 0, 84, .inl u))]) A) RX6 rfl (by decide) (Nat.le_of_ble_eq_true rfl) ?_
  intro p e s m args below meth c hae hx hb hr hts hown hlocks hml hnm hP hK A hAe hD hZ hS hA ls hl
  have hl : lv_has ls 6 [(0, .ref (tt 0)), (1, .int p0), (2, .int p1)] := hl
  refine lv_aload_n hx hb dX6_putBeside_0 rfl (lv_at hl 0 rfl) ?_
  refine va_get (D := D) (ci := 9) (v := .int (nI nm)) (C := RX6) (T := TX6) (N := 4) hx hb hts inAX6 hown hK hP 0 rfl rfl 3 (by decide) (hts _ q205) (fun _ h9 => h9) rfl dX6_putBeside_1 ?_
  refine lv_istore_n (lv' := [(3, .int (nI nm)), (0, .ref (tt 0)), (1, .int p0), (2, .int p1)]) hx hb dX6_putBeside_4 rfl hl (by decide) rfl (fun ls hl => ?_)
  refine lv_iconst (v := 0) hx hb dX6_putBeside_5 (by decide) ?_
  refine lv_istore (lv' := [(4, .int 0), (3, .int (nI nm)), (0, .ref (tt 0)), (1, .int p0), (2, .int p1)]) hx hb dX6_putBeside_6 hl (by decide) rfl (fun ls hl => ?_)
  have K8 : ∀ (k8 i8 : Nat) (g8_0 : Nat → Int32) (g8_1 : Nat → Int32) (g8_2 : Nat → Int32) (g8_3 : Int32), 0 ≤ i8 → i8 ≤ nm → nm < i8 + k8 → (g8_0 = (ptS p0 p1 (nm, tw, tp, tx) i8).2.1) ∧ (g8_1 = (ptS p0 p1 (nm, tw, tp, tx) i8).2.2.1) ∧ (g8_3 = nI ((ptS p0 p1 (nm, tw, tp, tx) i8).1)) → ∀ (H : Heap) (locs : List Loc), va_P D vwCl [(tt 0, .inr (9, [.ref (tt 1), .ref (tt 3), .ref (tt 5), .int g8_3])), (tt 1, .inr (5, [.ref (tt 2)])), (tt 2, .inl (dA 0, 84, .inl g8_0)), (tt 3, .inr (5, [.ref (tt 4)])), (tt 4, .inl (dA 0, 84, .inl g8_1)), (tt 5, .inr (5, [.ref (tt 6)])), (tt 6, .inl (dA 0, 84, .inl g8_2))] H → va_D A [(tt 0, .inr (9, [.ref (tt 1), .ref (tt 3), .ref (tt 5), .int g8_3])), (tt 1, .inr (5, [.ref (tt 2)])), (tt 2, .inl (dA 0, 84, .inl g8_0)), (tt 3, .inr (5, [.ref (tt 4)])), (tt 4, .inl (dA 0, 84, .inl g8_1)), (tt 5, .inr (5, [.ref (tt 6)])), (tt 6, .inl (dA 0, 84, .inl g8_2))] → va_S A s.heap H locs → ∀ ls : Array Slot, lv_has ls 6 [(4, .int (nI i8)), (3, .int (nI nm)), (0, .ref (tt 0)), (1, .int p0), (2, .int p1)] → W p l e { frames := 2, cells := 0, slots := 0, locals := 46 } s m args below meth c H locs 0 0 (MQ below (va_Qv (fun (u : Nat → Int32) => True) (fun u t => va_P D vwCl [(tt 0, .inr (9, [.ref (tt 1), .ref (tt 3), .ref (tt 5), .int (nI ((ptS p0 p1 (nm, tw, tp, tx) nm).1))])), (tt 1, .inr (5, [.ref (tt 2)])), (tt 2, .inl (dA 0, 84, .inl ((ptS p0 p1 (nm, tw, tp, tx) nm).2.1))), (tt 3, .inr (5, [.ref (tt 4)])), (tt 4, .inl (dA 0, 84, .inl ((ptS p0 p1 (nm, tw, tp, tx) nm).2.2.1))), (tt 5, .inr (5, [.ref (tt 6)])), (tt 6, .inl (dA 0, 84, .inl u))] t.heap ∧ va_D A [(tt 0, .inr (9, [.ref (tt 1), .ref (tt 3), .ref (tt 5), .int (nI ((ptS p0 p1 (nm, tw, tp, tx) nm).1))])), (tt 1, .inr (5, [.ref (tt 2)])), (tt 2, .inl (dA 0, 84, .inl ((ptS p0 p1 (nm, tw, tp, tx) nm).2.1))), (tt 3, .inr (5, [.ref (tt 4)])), (tt 4, .inl (dA 0, 84, .inl ((ptS p0 p1 (nm, tw, tp, tx) nm).2.2.1))), (tt 5, .inr (5, [.ref (tt 6)])), (tt 6, .inl (dA 0, 84, .inl u))]) A) args s 0 0 A) (F0 m 8 ls []) := by
    intro k8
    induction k8 with
    | zero => intro i8 g8_0 g8_1 g8_2 g8_3 h1 h2 h3; exact absurd h3 (by omega)
    | succ k8 ih8 =>
      intro i8 g8_0 g8_1 g8_2 g8_3 hlo8 hhi8 hms8 hinv8 H locs hP hD hS ls hl
      obtain ⟨eg8_0, eg8_1, eg8_3⟩ := hinv8
      subst eg8_0
      subst eg8_1
      subst eg8_3
      have hpt : nm ≤ (ptS p0 p1 (nm, tw, tp, tx) i8).1 ∧ (ptS p0 p1 (nm, tw, tp, tx) i8).1 ≤ nm + i8 := ptS_lt (s0 := (nm, tw, tp, tx)) i8
      have hpm := ptS_mono (a := p0) (b := p1) (s0 := (nm, tw, tp, tx)) (i := i8) (nm - i8)
      rw [show i8 + (nm - i8) = nm by omega] at hpm
      refine lv_iload hx hb dX6_putBeside_8 (lv_at hl 0 rfl) ?_
      refine lv_iload_n hx hb dX6_putBeside_10 rfl (lv_at hl 1 rfl) ?_
      refine lv_icmp_ge (tgt := 68) hx hb dX6_putBeside_11 (by decide) (fun c1 => ?_) (fun c1 => ?_)
      · replace c1 := (nI_leI (a := nm) (b := i8) (by omega) (by omega)).mp c1
        obtain rfl : nm = i8 := (by omega)
        have hP : va_P D vwCl [(tt 0, .inr (9, [.ref (tt 1), .ref (tt 3), .ref (tt 5), .int (nI ((ptS p0 p1 (nm, tw, tp, tx) nm).1))])), (tt 1, .inr (5, [.ref (tt 2)])), (tt 2, .inl (dA 0, 84, .inl ((ptS p0 p1 (nm, tw, tp, tx) nm).2.1))), (tt 3, .inr (5, [.ref (tt 4)])), (tt 4, .inl (dA 0, 84, .inl ((ptS p0 p1 (nm, tw, tp, tx) nm).2.2.1))), (tt 5, .inr (5, [.ref (tt 6)])), (tt 6, .inl (dA 0, 84, .inl g8_2))] H := hP
        have hD : va_D A [(tt 0, .inr (9, [.ref (tt 1), .ref (tt 3), .ref (tt 5), .int (nI ((ptS p0 p1 (nm, tw, tp, tx) nm).1))])), (tt 1, .inr (5, [.ref (tt 2)])), (tt 2, .inl (dA 0, 84, .inl ((ptS p0 p1 (nm, tw, tp, tx) nm).2.1))), (tt 3, .inr (5, [.ref (tt 4)])), (tt 4, .inl (dA 0, 84, .inl ((ptS p0 p1 (nm, tw, tp, tx) nm).2.2.1))), (tt 5, .inr (5, [.ref (tt 6)])), (tt 6, .inl (dA 0, 84, .inl g8_2))] := hD
        refine W.widen (k := 0) (n := 0) (Nat.le_of_ble_eq_true rfl) (Nat.le_of_ble_eq_true rfl) ?_
        have hP9 := hP.sub (ws' := [(tt 0, .inr (9, [.ref (tt 1), .ref (tt 3), .ref (tt 5), .int (nI ((ptS p0 p1 (nm, tw, tp, tx) nm).1))])), (tt 1, .inr (5, [.ref (tt 2)])), (tt 2, .inl (dA 0, 84, .inl ((ptS p0 p1 (nm, tw, tp, tx) nm).2.1))), (tt 3, .inr (5, [.ref (tt 4)])), (tt 4, .inl (dA 0, 84, .inl ((ptS p0 p1 (nm, tw, tp, tx) nm).2.2.1))), (tt 5, .inr (5, [.ref (tt 6)])), (tt 6, .inl (dA 0, 84, .inl g8_2))]) [0, 1, 2, 3, 4, 5, 6] rfl
        have hD9 := hD.sub (ws' := [(tt 0, .inr (9, [.ref (tt 1), .ref (tt 3), .ref (tt 5), .int (nI ((ptS p0 p1 (nm, tw, tp, tx) nm).1))])), (tt 1, .inr (5, [.ref (tt 2)])), (tt 2, .inl (dA 0, 84, .inl ((ptS p0 p1 (nm, tw, tp, tx) nm).2.1))), (tt 3, .inr (5, [.ref (tt 4)])), (tt 4, .inl (dA 0, 84, .inl ((ptS p0 p1 (nm, tw, tp, tx) nm).2.2.1))), (tt 5, .inr (5, [.ref (tt 6)])), (tt 6, .inl (dA 0, 84, .inl g8_2))]) [0, 1, 2, 3, 4, 5, 6] (by decide) rfl
        exact W.vret hx hb hr (fun t ht hW => ⟨⟨g8_2, rfl, trivial, ⟨by rw [ht]; exact hP9, hD9⟩⟩, hS.F ht⟩) hS.2.2 dX6_putBeside_68
      · replace c1 := mt (nI_leI (a := nm) (b := i8) (by omega) (by omega)).mpr c1
        have hlt8 : i8 < nm := by omega
        refine lv_aload_n hx hb dX6_putBeside_14 rfl (lv_at hl 2 rfl) ?_
        refine va_get (D := D) (ci := 9) (v := .ref (tt 3)) (C := RX6) (T := TX6) (N := 4) hx hb hts inAX6 hown hK hP 0 rfl rfl 1 (by decide) (hts _ q211) (fun _ h9 => h9) rfl dX6_putBeside_15 ?_
        refine lv_iload hx hb dX6_putBeside_18 (lv_at hl 0 rfl) ?_
        have hPc := hP.sub (ws' := [(tt 3, .inr (5, [.ref (tt 4)])), (tt 4, .inl (dA 0, 84, .inl ((ptS p0 p1 (nm, tw, tp, tx) i8).2.2.1)))]) [3, 4] rfl
        have hDc := hD.sub (ws' := [(tt 3, .inr (5, [.ref (tt 4)])), (tt 4, .inl (dA 0, 84, .inl ((ptS p0 p1 (nm, tw, tp, tx) i8).2.2.1)))]) [3, 4] (by decide) rfl
        have hFc := va_free (wc := [(tt 3, .inr (5, [.ref (tt 4)])), (tt 4, .inl (dA 0, 84, .inl ((ptS p0 p1 (nm, tw, tp, tx) i8).2.2.1)))]) hD hS hA [3, 4] rfl
        refine va_calli (va_runV (As := [.int (nI i8)]) (rest := []) ⟨hx, hb, hml, hown, hts⟩ (t_getN l D dA E (tt 3) (tt 4) 84 ((ptS p0 p1 (nm, tw, tp, tx) i8).2.2.1) i8 H.size  (by omega) (by decide)) (cwV 1 hts (ga_V q213 q203 q200 q204 q201) rfl rfl rfl (by decide +kernel) ⟨(Nat.le_of_ble_eq_true rfl), (Nat.le_of_ble_eq_true rfl)⟩) ⟨pb_blind, va_recv hK hPc (ci := 5) (q0 := 0) rfl rfl, pb_pre hK hPc hDc hZ hS hFc _⟩ rfl rfl hl.1 rfl (lv_room (Nat.le_of_ble_eq_true rfl)) dX6_putBeside_20 ⟨(Nat.le_of_ble_eq_true rfl), (Nat.le_of_ble_eq_true rfl)⟩) hS (fun q _ h => hFc q h) hFc (fun r u t H1 locs ht hvm hw hB hz1 hk1 hS => ?_)
        refine W.widen (k := 0) (n := 0) (Nat.le_of_ble_eq_true rfl) (Nat.le_of_ble_eq_true rfl) ?_
        obtain ⟨r2, rfl⟩ : ∃ z, z = r := ⟨_, rfl⟩
        obtain ⟨u3, rfl⟩ : ∃ z, z = u := ⟨_, rfl⟩
        have hw4 := hw
        clear hw
        obtain ⟨hP1, hD1⟩ := hB
        rw [ht] at hP1
        obtain ⟨hP, hD⟩ := va_join (wr := [(tt 0, .inr (9, [.ref (tt 1), .ref (tt 3), .ref (tt 5), .int (nI ((ptS p0 p1 (nm, tw, tp, tx) i8).1))])), (tt 1, .inr (5, [.ref (tt 2)])), (tt 2, .inl (dA 0, 84, .inl ((ptS p0 p1 (nm, tw, tp, tx) i8).2.1))), (tt 5, .inr (5, [.ref (tt 6)])), (tt 6, .inl (dA 0, 84, .inl g8_2))]) (w1 := [(tt 3, .inr (5, [.ref (tt 4)])), (tt 4, .inl (dA 0, 84, .inl ((ptS p0 p1 (nm, tw, tp, tx) i8).2.2.1)))]) hP hD [3, 4] [0, 1, 2, 5, 6] rfl rfl (by decide) (by decide) hk1 hFc hP1 hD1
        generalize H1 = H at hP hS ⊢
        have hP : va_P D vwCl [(tt 0, .inr (9, [.ref (tt 1), .ref (tt 3), .ref (tt 5), .int (nI ((ptS p0 p1 (nm, tw, tp, tx) i8).1))])), (tt 1, .inr (5, [.ref (tt 2)])), (tt 2, .inl (dA 0, 84, .inl ((ptS p0 p1 (nm, tw, tp, tx) i8).2.1))), (tt 5, .inr (5, [.ref (tt 6)])), (tt 6, .inl (dA 0, 84, .inl g8_2)), (tt 3, .inr (5, [.ref (tt 4)])), (tt 4, .inl (dA 0, 84, .inl ((ptS p0 p1 (nm, tw, tp, tx) i8).2.2.1)))] H := hP
        have hD : va_D A [(tt 0, .inr (9, [.ref (tt 1), .ref (tt 3), .ref (tt 5), .int (nI ((ptS p0 p1 (nm, tw, tp, tx) i8).1))])), (tt 1, .inr (5, [.ref (tt 2)])), (tt 2, .inl (dA 0, 84, .inl ((ptS p0 p1 (nm, tw, tp, tx) i8).2.1))), (tt 5, .inr (5, [.ref (tt 6)])), (tt 6, .inl (dA 0, 84, .inl g8_2)), (tt 3, .inr (5, [.ref (tt 4)])), (tt 4, .inl (dA 0, 84, .inl ((ptS p0 p1 (nm, tw, tp, tx) i8).2.2.1)))] := hD
        obtain rfl : r2 = tp i8 := (show r2 = ((ptS p0 p1 (nm, tw, tp, tx) i8).2.2.1) i8 from hw4).trans ((ptS_at (a := p0) (b := p1) (s0 := (nm, tw, tp, tx)) (j := i8) hlt8 i8).2.1)
        refine lv_istore (lv' := [(5, .int (tp i8)), (4, .int (nI i8)), (3, .int (nI nm)), (0, .ref (tt 0)), (1, .int p0), (2, .int p1)]) hx hb dX6_putBeside_23 hl (by decide) rfl (fun ls hl => ?_)
        refine lv_aload_n hx hb dX6_putBeside_25 rfl (lv_at hl 3 rfl) ?_
        refine va_get (D := D) (ci := 9) (v := .ref (tt 1)) (C := RX6) (T := TX6) (N := 4) hx hb hts inAX6 hown hK hP 0 rfl rfl 0 (by decide) (hts _ q206) (fun _ h9 => h9) rfl dX6_putBeside_26 ?_
        refine lv_iload hx hb dX6_putBeside_29 (lv_at hl 1 rfl) ?_
        have hPc := hP.sub (ws' := [(tt 1, .inr (5, [.ref (tt 2)])), (tt 2, .inl (dA 0, 84, .inl ((ptS p0 p1 (nm, tw, tp, tx) i8).2.1)))]) [1, 2] rfl
        have hDc := hD.sub (ws' := [(tt 1, .inr (5, [.ref (tt 2)])), (tt 2, .inl (dA 0, 84, .inl ((ptS p0 p1 (nm, tw, tp, tx) i8).2.1)))]) [1, 2] (by decide) rfl
        have hFc := va_free (wc := [(tt 1, .inr (5, [.ref (tt 2)])), (tt 2, .inl (dA 0, 84, .inl ((ptS p0 p1 (nm, tw, tp, tx) i8).2.1)))]) hD hS hA [1, 2] rfl
        refine va_calli (va_runV (As := [.int (nI i8)]) (rest := []) ⟨hx, hb, hml, hown, hts⟩ (t_getN l D dA E (tt 1) (tt 2) 84 ((ptS p0 p1 (nm, tw, tp, tx) i8).2.1) i8 H.size  (by omega) (by decide)) (cwV 1 hts (ga_V q213 q203 q200 q204 q201) rfl rfl rfl (by decide +kernel) ⟨(Nat.le_of_ble_eq_true rfl), (Nat.le_of_ble_eq_true rfl)⟩) ⟨pb_blind, va_recv hK hPc (ci := 5) (q0 := 0) rfl rfl, pb_pre hK hPc hDc hZ hS hFc _⟩ rfl rfl hl.1 rfl (lv_room (Nat.le_of_ble_eq_true rfl)) dX6_putBeside_31 ⟨(Nat.le_of_ble_eq_true rfl), (Nat.le_of_ble_eq_true rfl)⟩) hS (fun q _ h => hFc q h) hFc (fun r u t H1 locs ht hvm hw hB hz1 hk1 hS => ?_)
        refine W.widen (k := 0) (n := 0) (Nat.le_of_ble_eq_true rfl) (Nat.le_of_ble_eq_true rfl) ?_
        obtain ⟨r5, rfl⟩ : ∃ z, z = r := ⟨_, rfl⟩
        obtain ⟨u6, rfl⟩ : ∃ z, z = u := ⟨_, rfl⟩
        have hw7 := hw
        clear hw
        obtain ⟨hP1, hD1⟩ := hB
        rw [ht] at hP1
        obtain ⟨hP, hD⟩ := va_join (wr := [(tt 0, .inr (9, [.ref (tt 1), .ref (tt 3), .ref (tt 5), .int (nI ((ptS p0 p1 (nm, tw, tp, tx) i8).1))])), (tt 5, .inr (5, [.ref (tt 6)])), (tt 6, .inl (dA 0, 84, .inl g8_2)), (tt 3, .inr (5, [.ref (tt 4)])), (tt 4, .inl (dA 0, 84, .inl ((ptS p0 p1 (nm, tw, tp, tx) i8).2.2.1)))]) (w1 := [(tt 1, .inr (5, [.ref (tt 2)])), (tt 2, .inl (dA 0, 84, .inl ((ptS p0 p1 (nm, tw, tp, tx) i8).2.1)))]) hP hD [1, 2] [0, 3, 4, 5, 6] rfl rfl (by decide) (by decide) hk1 hFc hP1 hD1
        generalize H1 = H at hP hS ⊢
        have hP : va_P D vwCl [(tt 0, .inr (9, [.ref (tt 1), .ref (tt 3), .ref (tt 5), .int (nI ((ptS p0 p1 (nm, tw, tp, tx) i8).1))])), (tt 5, .inr (5, [.ref (tt 6)])), (tt 6, .inl (dA 0, 84, .inl g8_2)), (tt 3, .inr (5, [.ref (tt 4)])), (tt 4, .inl (dA 0, 84, .inl ((ptS p0 p1 (nm, tw, tp, tx) i8).2.2.1))), (tt 1, .inr (5, [.ref (tt 2)])), (tt 2, .inl (dA 0, 84, .inl ((ptS p0 p1 (nm, tw, tp, tx) i8).2.1)))] H := hP
        have hD : va_D A [(tt 0, .inr (9, [.ref (tt 1), .ref (tt 3), .ref (tt 5), .int (nI ((ptS p0 p1 (nm, tw, tp, tx) i8).1))])), (tt 5, .inr (5, [.ref (tt 6)])), (tt 6, .inl (dA 0, 84, .inl g8_2)), (tt 3, .inr (5, [.ref (tt 4)])), (tt 4, .inl (dA 0, 84, .inl ((ptS p0 p1 (nm, tw, tp, tx) i8).2.2.1))), (tt 1, .inr (5, [.ref (tt 2)])), (tt 2, .inl (dA 0, 84, .inl ((ptS p0 p1 (nm, tw, tp, tx) i8).2.1)))] := hD
        obtain rfl : r5 = tw i8 := (show r5 = ((ptS p0 p1 (nm, tw, tp, tx) i8).2.1) i8 from hw7).trans ((ptS_at (a := p0) (b := p1) (s0 := (nm, tw, tp, tx)) (j := i8) hlt8 i8).1)
        refine lv_iload_n hx hb dX6_putBeside_34 rfl (lv_at hl 4 rfl) ?_
        refine lv_icmp_ne (tgt := 62) hx hb dX6_putBeside_35 (by decide) (fun c8 => ?_) (fun c8 => ?_)
        · refine lv_iinc (v := nI (i8 + 1)) (lv' := [(4, .int (nI (i8 + 1))), (5, .int (tp i8)), (3, .int (nI nm)), (0, .ref (tt 0)), (1, .int p0), (2, .int p1)]) hx hb dX6_putBeside_62 hl (k := 1) rfl (nI_add i8 1) (by decide) rfl (fun ls hl => ?_)
          refine lv_goto (tgt := 8) hx hb dX6_putBeside_65 (by decide) ?_
          have hP := hP.sub (ws' := [(tt 0, .inr (9, [.ref (tt 1), .ref (tt 3), .ref (tt 5), .int (nI ((ptS p0 p1 (nm, tw, tp, tx) i8).1))])), (tt 1, .inr (5, [.ref (tt 2)])), (tt 2, .inl (dA 0, 84, .inl ((ptS p0 p1 (nm, tw, tp, tx) i8).2.1))), (tt 3, .inr (5, [.ref (tt 4)])), (tt 4, .inl (dA 0, 84, .inl ((ptS p0 p1 (nm, tw, tp, tx) i8).2.2.1))), (tt 5, .inr (5, [.ref (tt 6)])), (tt 6, .inl (dA 0, 84, .inl g8_2))]) [0, 5, 6, 3, 4, 1, 2] rfl
          have hD := hD.sub (ws' := [(tt 0, .inr (9, [.ref (tt 1), .ref (tt 3), .ref (tt 5), .int (nI ((ptS p0 p1 (nm, tw, tp, tx) i8).1))])), (tt 1, .inr (5, [.ref (tt 2)])), (tt 2, .inl (dA 0, 84, .inl ((ptS p0 p1 (nm, tw, tp, tx) i8).2.1))), (tt 3, .inr (5, [.ref (tt 4)])), (tt 4, .inl (dA 0, 84, .inl ((ptS p0 p1 (nm, tw, tp, tx) i8).2.2.1))), (tt 5, .inr (5, [.ref (tt 6)])), (tt 6, .inl (dA 0, 84, .inl g8_2))]) [0, 5, 6, 3, 4, 1, 2] (by decide) rfl
          exact ih8 (i8 + 1) ((ptS p0 p1 (nm, tw, tp, tx) i8).2.1) ((ptS p0 p1 (nm, tw, tp, tx) i8).2.2.1) g8_2 (nI ((ptS p0 p1 (nm, tw, tp, tx) i8).1)) (by omega) (by omega) (by omega) ⟨((congrArg (fun z : TXS => z.2.1) (ptS_n (b := p1) (s0 := (nm, tw, tp, tx)) c8)).symm), ((congrArg (fun z : TXS => z.2.2.1) (ptS_n (b := p1) (s0 := (nm, tw, tp, tx)) c8)).symm), ((congrArg (fun z : TXS => nI (z.1)) (ptS_n (b := p1) (s0 := (nm, tw, tp, tx)) c8)).symm)⟩ _ _ hP hD hS ls (lv_sub hl [0, 2, 3, 4, 5] rfl)
        · refine lv_aload_n hx hb dX6_putBeside_38 rfl (lv_at hl 3 rfl) ?_
          refine lv_iload hx hb dX6_putBeside_39 (lv_at hl 0 rfl) ?_
          refine lv_iload_n hx hb dX6_putBeside_41 rfl (lv_at hl 5 rfl) ?_
          have hPc := hP.sub (ws' := [(tt 0, .inr (9, [.ref (tt 1), .ref (tt 3), .ref (tt 5), .int (nI ((ptS p0 p1 (nm, tw, tp, tx) i8).1))])), (tt 1, .inr (5, [.ref (tt 2)])), (tt 2, .inl (dA 0, 84, .inl ((ptS p0 p1 (nm, tw, tp, tx) i8).2.1))), (tt 3, .inr (5, [.ref (tt 4)])), (tt 4, .inl (dA 0, 84, .inl ((ptS p0 p1 (nm, tw, tp, tx) i8).2.2.1))), (tt 5, .inr (5, [.ref (tt 6)])), (tt 6, .inl (dA 0, 84, .inl g8_2))]) [0, 5, 6, 3, 4, 1, 2] rfl
          have hDc := hD.sub (ws' := [(tt 0, .inr (9, [.ref (tt 1), .ref (tt 3), .ref (tt 5), .int (nI ((ptS p0 p1 (nm, tw, tp, tx) i8).1))])), (tt 1, .inr (5, [.ref (tt 2)])), (tt 2, .inl (dA 0, 84, .inl ((ptS p0 p1 (nm, tw, tp, tx) i8).2.1))), (tt 3, .inr (5, [.ref (tt 4)])), (tt 4, .inl (dA 0, 84, .inl ((ptS p0 p1 (nm, tw, tp, tx) i8).2.2.1))), (tt 5, .inr (5, [.ref (tt 6)])), (tt 6, .inl (dA 0, 84, .inl g8_2))]) [0, 5, 6, 3, 4, 1, 2] (by decide) rfl
          have hFc := va_free (wc := [(tt 0, .inr (9, [.ref (tt 1), .ref (tt 3), .ref (tt 5), .int (nI ((ptS p0 p1 (nm, tw, tp, tx) i8).1))])), (tt 1, .inr (5, [.ref (tt 2)])), (tt 2, .inl (dA 0, 84, .inl ((ptS p0 p1 (nm, tw, tp, tx) i8).2.1))), (tt 3, .inr (5, [.ref (tt 4)])), (tt 4, .inl (dA 0, 84, .inl ((ptS p0 p1 (nm, tw, tp, tx) i8).2.2.1))), (tt 5, .inr (5, [.ref (tt 6)])), (tt 6, .inl (dA 0, 84, .inl g8_2))]) hD hS hA [0, 5, 6, 3, 4, 1, 2] rfl
          refine va_calli (va_runV (As := [.int (tp i8), .int p1]) (rest := []) ⟨hx, hb, hml, hown, hts⟩ (t_timesAt l D dA E tt ((ptS p0 p1 (nm, tw, tp, tx) i8).2.1) ((ptS p0 p1 (nm, tw, tp, tx) i8).2.2.1) g8_2 ((ptS p0 p1 (nm, tw, tp, tx) i8).1) (tp i8) p1 H.size  (by omega)) (cwV 2 hts (ga_V q225 q226 q223 q218 q224) rfl rfl rfl (by decide +kernel) ⟨(Nat.le_of_ble_eq_true rfl), (Nat.le_of_ble_eq_true rfl)⟩) ⟨pb_blind, va_recv hK hPc (ci := 9) (q0 := 0) rfl rfl, pb_pre hK hPc hDc hZ hS hFc _⟩ rfl rfl hl.1 rfl (lv_room (Nat.le_of_ble_eq_true rfl)) dX6_putBeside_42 ⟨(Nat.le_of_ble_eq_true rfl), (Nat.le_of_ble_eq_true rfl)⟩) hS (fun q _ h => hFc q h) hFc (fun r u t H1 locs ht hvm hw hB hz1 hk1 hS => ?_)
          refine W.widen (k := 0) (n := 0) (Nat.le_of_ble_eq_true rfl) (Nat.le_of_ble_eq_true rfl) ?_
          obtain ⟨r9, rfl⟩ : ∃ z, z = r := ⟨_, rfl⟩
          obtain ⟨u10, rfl⟩ : ∃ z, z = u := ⟨_, rfl⟩
          have hw11 := hw
          clear hw
          obtain ⟨hP1, hD1⟩ := hB
          rw [ht] at hP1
          obtain ⟨hP, hD⟩ := va_join (wr := []) (w1 := [(tt 0, .inr (9, [.ref (tt 1), .ref (tt 3), .ref (tt 5), .int (nI ((ptS p0 p1 (nm, tw, tp, tx) i8).1))])), (tt 1, .inr (5, [.ref (tt 2)])), (tt 2, .inl (dA 0, 84, .inl ((ptS p0 p1 (nm, tw, tp, tx) i8).2.1))), (tt 3, .inr (5, [.ref (tt 4)])), (tt 4, .inl (dA 0, 84, .inl ((ptS p0 p1 (nm, tw, tp, tx) i8).2.2.1))), (tt 5, .inr (5, [.ref (tt 6)])), (tt 6, .inl (dA 0, 84, .inl g8_2))]) hP hD [0, 5, 6, 3, 4, 1, 2] [] rfl rfl (by decide) (by decide) hk1 hFc hP1 hD1
          generalize H1 = H at hP hS ⊢
          have hP : va_P D vwCl [(tt 0, .inr (9, [.ref (tt 1), .ref (tt 3), .ref (tt 5), .int (nI ((ptS p0 p1 (nm, tw, tp, tx) i8).1))])), (tt 1, .inr (5, [.ref (tt 2)])), (tt 2, .inl (dA 0, 84, .inl ((ptS p0 p1 (nm, tw, tp, tx) i8).2.1))), (tt 3, .inr (5, [.ref (tt 4)])), (tt 4, .inl (dA 0, 84, .inl ((ptS p0 p1 (nm, tw, tp, tx) i8).2.2.1))), (tt 5, .inr (5, [.ref (tt 6)])), (tt 6, .inl (dA 0, 84, .inl g8_2))] H := hP
          have hD : va_D A [(tt 0, .inr (9, [.ref (tt 1), .ref (tt 3), .ref (tt 5), .int (nI ((ptS p0 p1 (nm, tw, tp, tx) i8).1))])), (tt 1, .inr (5, [.ref (tt 2)])), (tt 2, .inl (dA 0, 84, .inl ((ptS p0 p1 (nm, tw, tp, tx) i8).2.1))), (tt 3, .inr (5, [.ref (tt 4)])), (tt 4, .inl (dA 0, 84, .inl ((ptS p0 p1 (nm, tw, tp, tx) i8).2.2.1))), (tt 5, .inr (5, [.ref (tt 6)])), (tt 6, .inl (dA 0, 84, .inl g8_2))] := hD
          obtain rfl : r9 = nI (sat ((ptS p0 p1 (nm, tw, tp, tx) i8).2.1) ((ptS p0 p1 (nm, tw, tp, tx) i8).2.2.1) p1 (tp i8) ((ptS p0 p1 (nm, tw, tp, tx) i8).1)) := hw11
          have hsa11 := sat_le ((ptS p0 p1 (nm, tw, tp, tx) i8).2.1) ((ptS p0 p1 (nm, tw, tp, tx) i8).2.2.1) p1 (tp i8) ((ptS p0 p1 (nm, tw, tp, tx) i8).1)
          refine lv_if_ne (tgt := 62) hx hb dX6_putBeside_45 (by decide) (fun c12 => ?_) (fun c12 => ?_)
          · replace c12 := mt (nI_eq (a := (sat ((ptS p0 p1 (nm, tw, tp, tx) i8).2.1) ((ptS p0 p1 (nm, tw, tp, tx) i8).2.2.1) p1 (tp i8) ((ptS p0 p1 (nm, tw, tp, tx) i8).1))) (b := 0) (by omega) (by omega)).mpr c12
            refine lv_iinc (v := nI (i8 + 1)) (lv' := [(4, .int (nI (i8 + 1))), (5, .int (tp i8)), (3, .int (nI nm)), (0, .ref (tt 0)), (1, .int p0), (2, .int p1)]) hx hb dX6_putBeside_62 hl (k := 1) rfl (nI_add i8 1) (by decide) rfl (fun ls hl => ?_)
            refine lv_goto (tgt := 8) hx hb dX6_putBeside_65 (by decide) ?_
            exact ih8 (i8 + 1) ((ptS p0 p1 (nm, tw, tp, tx) i8).2.1) ((ptS p0 p1 (nm, tw, tp, tx) i8).2.2.1) g8_2 (nI ((ptS p0 p1 (nm, tw, tp, tx) i8).1)) (by omega) (by omega) (by omega) ⟨((congrArg (fun z : TXS => z.2.1) (ptS_n2 (s0 := (nm, tw, tp, tx)) (stB_t0 c12))).symm), ((congrArg (fun z : TXS => z.2.2.1) (ptS_n2 (s0 := (nm, tw, tp, tx)) (stB_t0 c12))).symm), ((congrArg (fun z : TXS => nI (z.1)) (ptS_n2 (s0 := (nm, tw, tp, tx)) (stB_t0 c12))).symm)⟩ _ _ hP hD hS ls (lv_sub hl [0, 2, 3, 4, 5] rfl)
          · replace c12 := (nI_eq (a := (sat ((ptS p0 p1 (nm, tw, tp, tx) i8).2.1) ((ptS p0 p1 (nm, tw, tp, tx) i8).2.2.1) p1 (tp i8) ((ptS p0 p1 (nm, tw, tp, tx) i8).1))) (b := 0) (by omega) (by omega)).mp c12
            have hlt84 : (ptS p0 p1 (nm, tw, tp, tx) i8).1 < 84 := ptS_84 (s0 := (nm, tw, tp, tx)) hpt9 hlt8 c8 (stB_f0 c12)
            refine lv_aload_n hx hb dX6_putBeside_48 rfl (lv_at hl 3 rfl) ?_
            refine lv_iload_n hx hb dX6_putBeside_49 rfl (lv_at hl 5 rfl) ?_
            refine lv_iload hx hb dX6_putBeside_50 (lv_at hl 0 rfl) ?_
            refine lv_aload_n hx hb dX6_putBeside_52 rfl (lv_at hl 3 rfl) ?_
            refine lv_iload hx hb dX6_putBeside_53 (lv_at hl 0 rfl) ?_
            refine lv_iload_n hx hb dX6_putBeside_55 rfl (lv_at hl 4 rfl) ?_
            have hPc := hP.sub (ws' := [(tt 0, .inr (9, [.ref (tt 1), .ref (tt 3), .ref (tt 5), .int (nI ((ptS p0 p1 (nm, tw, tp, tx) i8).1))])), (tt 1, .inr (5, [.ref (tt 2)])), (tt 2, .inl (dA 0, 84, .inl ((ptS p0 p1 (nm, tw, tp, tx) i8).2.1))), (tt 3, .inr (5, [.ref (tt 4)])), (tt 4, .inl (dA 0, 84, .inl ((ptS p0 p1 (nm, tw, tp, tx) i8).2.2.1))), (tt 5, .inr (5, [.ref (tt 6)])), (tt 6, .inl (dA 0, 84, .inl g8_2))]) [0, 1, 2, 3, 4, 5, 6] rfl
            have hDc := hD.sub (ws' := [(tt 0, .inr (9, [.ref (tt 1), .ref (tt 3), .ref (tt 5), .int (nI ((ptS p0 p1 (nm, tw, tp, tx) i8).1))])), (tt 1, .inr (5, [.ref (tt 2)])), (tt 2, .inl (dA 0, 84, .inl ((ptS p0 p1 (nm, tw, tp, tx) i8).2.1))), (tt 3, .inr (5, [.ref (tt 4)])), (tt 4, .inl (dA 0, 84, .inl ((ptS p0 p1 (nm, tw, tp, tx) i8).2.2.1))), (tt 5, .inr (5, [.ref (tt 6)])), (tt 6, .inl (dA 0, 84, .inl g8_2))]) [0, 1, 2, 3, 4, 5, 6] (by decide) rfl
            have hFc := va_free (wc := [(tt 0, .inr (9, [.ref (tt 1), .ref (tt 3), .ref (tt 5), .int (nI ((ptS p0 p1 (nm, tw, tp, tx) i8).1))])), (tt 1, .inr (5, [.ref (tt 2)])), (tt 2, .inl (dA 0, 84, .inl ((ptS p0 p1 (nm, tw, tp, tx) i8).2.1))), (tt 3, .inr (5, [.ref (tt 4)])), (tt 4, .inl (dA 0, 84, .inl ((ptS p0 p1 (nm, tw, tp, tx) i8).2.2.1))), (tt 5, .inr (5, [.ref (tt 6)])), (tt 6, .inl (dA 0, 84, .inl g8_2))]) hD hS hA [0, 1, 2, 3, 4, 5, 6] rfl
            refine va_calli (va_runV (As := [.int (tp i8), .int p0]) (rest := [.int (tp i8), .int p1, .ref (tt 0)]) ⟨hx, hb, hml, hown, hts⟩ (t_firstIndexAt l D dA E tt ((ptS p0 p1 (nm, tw, tp, tx) i8).2.1) ((ptS p0 p1 (nm, tw, tp, tx) i8).2.2.1) g8_2 ((ptS p0 p1 (nm, tw, tp, tx) i8).1) (tp i8) p0 H.size  (by omega)) (cwV 2 hts (ga_V q229 q230 q227 q218 q228) rfl rfl rfl (by decide +kernel) ⟨(Nat.le_of_ble_eq_true rfl), (Nat.le_of_ble_eq_true rfl)⟩) ⟨pb_blind, va_recv hK hPc (ci := 9) (q0 := 0) rfl rfl, pb_pre hK hPc hDc hZ hS hFc _⟩ rfl rfl hl.1 rfl (lv_room (Nat.le_of_ble_eq_true rfl)) dX6_putBeside_56 ⟨(Nat.le_of_ble_eq_true rfl), (Nat.le_of_ble_eq_true rfl)⟩) hS (fun q _ h => hFc q h) hFc (fun r u t H1 locs ht hvm hw hB hz1 hk1 hS => ?_)
            refine W.widen (k := 0) (n := 0) (Nat.le_of_ble_eq_true rfl) (Nat.le_of_ble_eq_true rfl) ?_
            obtain ⟨r13, rfl⟩ : ∃ z, z = r := ⟨_, rfl⟩
            obtain ⟨u14, rfl⟩ : ∃ z, z = u := ⟨_, rfl⟩
            have hw15 := hw
            clear hw
            obtain ⟨hP1, hD1⟩ := hB
            rw [ht] at hP1
            obtain ⟨hP, hD⟩ := va_join (wr := []) (w1 := [(tt 0, .inr (9, [.ref (tt 1), .ref (tt 3), .ref (tt 5), .int (nI ((ptS p0 p1 (nm, tw, tp, tx) i8).1))])), (tt 1, .inr (5, [.ref (tt 2)])), (tt 2, .inl (dA 0, 84, .inl ((ptS p0 p1 (nm, tw, tp, tx) i8).2.1))), (tt 3, .inr (5, [.ref (tt 4)])), (tt 4, .inl (dA 0, 84, .inl ((ptS p0 p1 (nm, tw, tp, tx) i8).2.2.1))), (tt 5, .inr (5, [.ref (tt 6)])), (tt 6, .inl (dA 0, 84, .inl g8_2))]) hP hD [0, 1, 2, 3, 4, 5, 6] [] rfl rfl (by decide) (by decide) hk1 hFc hP1 hD1
            generalize H1 = H at hP hS ⊢
            have hP : va_P D vwCl [(tt 0, .inr (9, [.ref (tt 1), .ref (tt 3), .ref (tt 5), .int (nI ((ptS p0 p1 (nm, tw, tp, tx) i8).1))])), (tt 1, .inr (5, [.ref (tt 2)])), (tt 2, .inl (dA 0, 84, .inl ((ptS p0 p1 (nm, tw, tp, tx) i8).2.1))), (tt 3, .inr (5, [.ref (tt 4)])), (tt 4, .inl (dA 0, 84, .inl ((ptS p0 p1 (nm, tw, tp, tx) i8).2.2.1))), (tt 5, .inr (5, [.ref (tt 6)])), (tt 6, .inl (dA 0, 84, .inl g8_2))] H := hP
            have hD : va_D A [(tt 0, .inr (9, [.ref (tt 1), .ref (tt 3), .ref (tt 5), .int (nI ((ptS p0 p1 (nm, tw, tp, tx) i8).1))])), (tt 1, .inr (5, [.ref (tt 2)])), (tt 2, .inl (dA 0, 84, .inl ((ptS p0 p1 (nm, tw, tp, tx) i8).2.1))), (tt 3, .inr (5, [.ref (tt 4)])), (tt 4, .inl (dA 0, 84, .inl ((ptS p0 p1 (nm, tw, tp, tx) i8).2.2.1))), (tt 5, .inr (5, [.ref (tt 6)])), (tt 6, .inl (dA 0, 84, .inl g8_2))] := hD
            have hPc := hP.sub (ws' := [(tt 0, .inr (9, [.ref (tt 1), .ref (tt 3), .ref (tt 5), .int (nI ((ptS p0 p1 (nm, tw, tp, tx) i8).1))])), (tt 1, .inr (5, [.ref (tt 2)])), (tt 2, .inl (dA 0, 84, .inl ((ptS p0 p1 (nm, tw, tp, tx) i8).2.1))), (tt 3, .inr (5, [.ref (tt 4)])), (tt 4, .inl (dA 0, 84, .inl ((ptS p0 p1 (nm, tw, tp, tx) i8).2.2.1))), (tt 5, .inr (5, [.ref (tt 6)])), (tt 6, .inl (dA 0, 84, .inl g8_2))]) [0, 1, 2, 3, 4, 5, 6] rfl
            have hDc := hD.sub (ws' := [(tt 0, .inr (9, [.ref (tt 1), .ref (tt 3), .ref (tt 5), .int (nI ((ptS p0 p1 (nm, tw, tp, tx) i8).1))])), (tt 1, .inr (5, [.ref (tt 2)])), (tt 2, .inl (dA 0, 84, .inl ((ptS p0 p1 (nm, tw, tp, tx) i8).2.1))), (tt 3, .inr (5, [.ref (tt 4)])), (tt 4, .inl (dA 0, 84, .inl ((ptS p0 p1 (nm, tw, tp, tx) i8).2.2.1))), (tt 5, .inr (5, [.ref (tt 6)])), (tt 6, .inl (dA 0, 84, .inl g8_2))]) [0, 1, 2, 3, 4, 5, 6] (by decide) rfl
            have hFc := va_free (wc := [(tt 0, .inr (9, [.ref (tt 1), .ref (tt 3), .ref (tt 5), .int (nI ((ptS p0 p1 (nm, tw, tp, tx) i8).1))])), (tt 1, .inr (5, [.ref (tt 2)])), (tt 2, .inl (dA 0, 84, .inl ((ptS p0 p1 (nm, tw, tp, tx) i8).2.1))), (tt 3, .inr (5, [.ref (tt 4)])), (tt 4, .inl (dA 0, 84, .inl ((ptS p0 p1 (nm, tw, tp, tx) i8).2.2.1))), (tt 5, .inr (5, [.ref (tt 6)])), (tt 6, .inl (dA 0, 84, .inl g8_2))]) hD hS hA [0, 1, 2, 3, 4, 5, 6] rfl
            refine va_callv (va_runV (As := [.int p1, .int (tp i8), .int r13]) (rest := []) ⟨hx, hb, hml, hown, hts⟩ (t_append l D dA E tt ((ptS p0 p1 (nm, tw, tp, tx) i8).2.1) ((ptS p0 p1 (nm, tw, tp, tx) i8).2.2.1) g8_2 ((ptS p0 p1 (nm, tw, tp, tx) i8).1) p1 (tp i8) r13 H.size  (by omega)) (cwV 3 hts (ga_V q233 q234 q231 q218 q232) rfl rfl rfl (by decide +kernel) ⟨(Nat.le_of_ble_eq_true rfl), (Nat.le_of_ble_eq_true rfl)⟩) ⟨pb_blind, va_recv hK hPc (ci := 9) (q0 := 0) rfl rfl, pb_pre hK hPc hDc hZ hS hFc _⟩ rfl rfl hl.1 rfl (lv_room (Nat.le_of_ble_eq_true rfl)) dX6_putBeside_59 ⟨(Nat.le_of_ble_eq_true rfl), (Nat.le_of_ble_eq_true rfl)⟩) hS (fun q _ h => hFc q h) hFc (fun u t H1 locs ht hvm hw hB hz1 hk1 hS => ?_)
            refine W.widen (k := 0) (n := 0) (Nat.le_of_ble_eq_true rfl) (Nat.le_of_ble_eq_true rfl) ?_
            obtain ⟨u16, rfl⟩ : ∃ z, z = u := ⟨_, rfl⟩
            have hw17 := hw
            clear hw
            obtain ⟨hP1, hD1⟩ := hB
            rw [ht] at hP1
            obtain ⟨hP, hD⟩ := va_join (wr := []) (w1 := [(tt 0, .inr (9, [.ref (tt 1), .ref (tt 3), .ref (tt 5), .int (nI (((ptS p0 p1 (nm, tw, tp, tx) i8).1) + 1))])), (tt 1, .inr (5, [.ref (tt 2)])), (tt 2, .inl (dA 0, 84, .inl (upd ((ptS p0 p1 (nm, tw, tp, tx) i8).2.1) ((ptS p0 p1 (nm, tw, tp, tx) i8).1) p1))), (tt 3, .inr (5, [.ref (tt 4)])), (tt 4, .inl (dA 0, 84, .inl (upd ((ptS p0 p1 (nm, tw, tp, tx) i8).2.2.1) ((ptS p0 p1 (nm, tw, tp, tx) i8).1) (tp i8)))), (tt 5, .inr (5, [.ref (tt 6)])), (tt 6, .inl (dA 0, 84, .inl (upd g8_2 ((ptS p0 p1 (nm, tw, tp, tx) i8).1) r13)))]) hP hD [0, 1, 2, 3, 4, 5, 6] [] rfl rfl (by decide) (by decide) hk1 hFc hP1 hD1
            generalize H1 = H at hP hS ⊢
            have hP : va_P D vwCl [(tt 0, .inr (9, [.ref (tt 1), .ref (tt 3), .ref (tt 5), .int (nI (((ptS p0 p1 (nm, tw, tp, tx) i8).1) + 1))])), (tt 1, .inr (5, [.ref (tt 2)])), (tt 2, .inl (dA 0, 84, .inl (upd ((ptS p0 p1 (nm, tw, tp, tx) i8).2.1) ((ptS p0 p1 (nm, tw, tp, tx) i8).1) p1))), (tt 3, .inr (5, [.ref (tt 4)])), (tt 4, .inl (dA 0, 84, .inl (upd ((ptS p0 p1 (nm, tw, tp, tx) i8).2.2.1) ((ptS p0 p1 (nm, tw, tp, tx) i8).1) (tp i8)))), (tt 5, .inr (5, [.ref (tt 6)])), (tt 6, .inl (dA 0, 84, .inl (upd g8_2 ((ptS p0 p1 (nm, tw, tp, tx) i8).1) r13)))] H := hP
            have hD : va_D A [(tt 0, .inr (9, [.ref (tt 1), .ref (tt 3), .ref (tt 5), .int (nI (((ptS p0 p1 (nm, tw, tp, tx) i8).1) + 1))])), (tt 1, .inr (5, [.ref (tt 2)])), (tt 2, .inl (dA 0, 84, .inl (upd ((ptS p0 p1 (nm, tw, tp, tx) i8).2.1) ((ptS p0 p1 (nm, tw, tp, tx) i8).1) p1))), (tt 3, .inr (5, [.ref (tt 4)])), (tt 4, .inl (dA 0, 84, .inl (upd ((ptS p0 p1 (nm, tw, tp, tx) i8).2.2.1) ((ptS p0 p1 (nm, tw, tp, tx) i8).1) (tp i8)))), (tt 5, .inr (5, [.ref (tt 6)])), (tt 6, .inl (dA 0, 84, .inl (upd g8_2 ((ptS p0 p1 (nm, tw, tp, tx) i8).1) r13)))] := hD
            refine lv_iinc (v := nI (i8 + 1)) (lv' := [(4, .int (nI (i8 + 1))), (5, .int (tp i8)), (3, .int (nI nm)), (0, .ref (tt 0)), (1, .int p0), (2, .int p1)]) hx hb dX6_putBeside_62 hl (k := 1) rfl (nI_add i8 1) (by decide) rfl (fun ls hl => ?_)
            refine lv_goto (tgt := 8) hx hb dX6_putBeside_65 (by decide) ?_
            exact ih8 (i8 + 1) (upd ((ptS p0 p1 (nm, tw, tp, tx) i8).2.1) ((ptS p0 p1 (nm, tw, tp, tx) i8).1) p1) (upd ((ptS p0 p1 (nm, tw, tp, tx) i8).2.2.1) ((ptS p0 p1 (nm, tw, tp, tx) i8).1) (tp i8)) (upd g8_2 ((ptS p0 p1 (nm, tw, tp, tx) i8).1) r13) (nI (((ptS p0 p1 (nm, tw, tp, tx) i8).1) + 1)) (by omega) (by omega) (by omega) ⟨((congrArg (fun z : TXS => z.2.1) (ptS_y (s0 := (nm, tw, tp, tx)) c8 (stB_f0 c12))).symm), ((congrArg (fun z : TXS => z.2.2.1) (ptS_y (s0 := (nm, tw, tp, tx)) c8 (stB_f0 c12))).symm), ((congrArg (fun z : TXS => nI (z.1)) (ptS_y (s0 := (nm, tw, tp, tx)) c8 (stB_f0 c12))).symm)⟩ _ _ hP hD hS ls (lv_sub hl [0, 2, 3, 4, 5] rfl)
  exact K8 (nm + 1) 0 tw tp tx (nI nm) (by omega) (by omega) (by omega) ⟨rfl, rfl, rfl⟩ _ _ hP hD hS ls hl
