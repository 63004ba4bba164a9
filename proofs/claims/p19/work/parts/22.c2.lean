/-! CONTRACTS, general -/
theorem q205 : (.fieldLink RX6 26 "TallowIndex$Text" "count" "I" : Cond) ∈ WA := WA_of (tb_3 5 rfl) rfl
theorem q206 : (.fieldLink RX6 14 "TallowIndex$Text" "words" "LTallowIndex$Row;" : Cond) ∈ WA := WA_of (tb_2 239 rfl) rfl
theorem q207 : (.selects RX2 yX2_put yX2_put : Cond) ∈ WA := WA_of (tb_1 198 rfl) rfl
theorem q208 : (.code yX2_put cX2_put 3 none : Cond) ∈ WA := WA_of (tb_1 199 rfl) rfl
theorem q209 : (.methodLink RX6 30 yX2_put : Cond) ∈ WA := WA_of (tb_3 51 rfl) rfl
theorem q210 : (.instanceMethod yX2_put : Cond) ∈ WA := WA_of (tb_1 197 rfl) rfl
theorem q211 : (.fieldLink RX6 20 "TallowIndex$Text" "places" "LTallowIndex$Row;" : Cond) ∈ WA := WA_of (tb_3 1 rfl) rfl
theorem q212 : (.fieldLink RX6 23 "TallowIndex$Text" "indexes" "LTallowIndex$Row;" : Cond) ∈ WA := WA_of (tb_3 3 rfl) rfl
theorem q213 : (.methodLink RX6 34 yX2_get : Cond) ∈ WA := WA_of (tb_3 81 rfl) rfl
theorem q214 : (.selects RX6 yX6_takeOut yX6_takeOut : Cond) ∈ WA := WA_of (tb_3 88 rfl) rfl
theorem q215 : (.code yX6_takeOut cX6_takeOut 4 none : Cond) ∈ WA := WA_of (tb_3 89 rfl) rfl
theorem q216 : (.methodLink RX6 42 yX6_takeOut : Cond) ∈ WA := WA_of (tb_3 98 rfl) rfl
theorem q217 : (.instanceMethod yX6_takeOut : Cond) ∈ WA := WA_of (tb_3 87 rfl) rfl
theorem q218 : (.initialized RX6 : Cond) ∈ WA := WA_of (tb_1 23 rfl) rfl
theorem q219 : (.selects RX6 yX6_timesAhead yX6_timesAhead : Cond) ∈ WA := WA_of (sb_1 5 rfl) rfl
theorem q220 : (.code yX6_timesAhead cX6_timesAhead 5 (some .int) : Cond) ∈ WA := WA_of (tb_3 97 rfl) rfl
theorem q221 : (.methodLink RX6 38 yX6_timesAhead : Cond) ∈ WA := WA_of (tb_3 94 rfl) rfl
theorem q222 : (.instanceMethod yX6_timesAhead : Cond) ∈ WA := WA_of (tb_3 96 rfl) rfl
theorem q223 : (.selects RX6 yX6_timesAt yX6_timesAt : Cond) ∈ WA := WA_of (tb_3 105 rfl) rfl
theorem q224 : (.code yX6_timesAt cX6_timesAt 5 (some .int) : Cond) ∈ WA := WA_of (tb_3 106 rfl) rfl
theorem q225 : (.methodLink RX6 45 yX6_timesAt : Cond) ∈ WA := WA_of (tb_3 103 rfl) rfl
theorem q226 : (.instanceMethod yX6_timesAt : Cond) ∈ WA := WA_of (tb_3 104 rfl) rfl
theorem q227 : (.selects RX6 yX6_firstIndexAt yX6_firstIndexAt : Cond) ∈ WA := WA_of (sb_1 6 rfl) rfl
theorem q228 : (.code yX6_firstIndexAt cX6_firstIndexAt 6 (some .int) : Cond) ∈ WA := WA_of (tb_3 110 rfl) rfl
theorem q229 : (.methodLink RX6 48 yX6_firstIndexAt : Cond) ∈ WA := WA_of (tb_3 107 rfl) rfl
theorem q230 : (.instanceMethod yX6_firstIndexAt : Cond) ∈ WA := WA_of (tb_3 109 rfl) rfl
theorem q231 : (.selects RX6 yX6_append yX6_append : Cond) ∈ WA := WA_of (tb_3 49 rfl) rfl
theorem q232 : (.code yX6_append cX6_append 4 none : Cond) ∈ WA := WA_of (tb_3 50 rfl) rfl
theorem q233 : (.methodLink RX6 51 yX6_append : Cond) ∈ WA := WA_of (tb_3 111 rfl) rfl
theorem q234 : (.instanceMethod yX6_append : Cond) ∈ WA := WA_of (tb_3 48 rfl) rfl
theorem ptS_mono {a b : Int32} {s0 : TXS} {i : Nat} : ∀ k, (ptS a b s0 i).1 ≤ (ptS a b s0 (i + k)).1
  | 0 => Nat.le_refl _
  | k + 1 => by
    have h := ptS_mono (a := a) (b := b) (s0 := s0) (i := i) k
    have h2 : (ptS a b s0 (i + k)).1 ≤ (ptB a b s0 (i + k) (ptS a b s0 (i + k))).1 := by
      unfold ptB
      split
      · exact Nat.le_succ _
      · exact Nat.le_refl _
    exact Nat.le_trans h h2
theorem sat_stB {w p : Nat → Int32} {a t : Int32} : ∀ n, stB w p a t n = decide (0 < sat w p a t n)
  | 0 => rfl
  | n + 1 => by
    unfold stB sat
    rw [sat_stB n]
    by_cases e1 : w n = a <;> by_cases e2 : p n = t <;> simp [e1, e2]
theorem stB_f0 {w p : Nat → Int32} {a t : Int32} {n : Nat} (h : sat w p a t n = 0) : stB w p a t n = false := by rw [sat_stB]; simp [h]
theorem stB_t0 {w p : Nat → Int32} {a t : Int32} {n : Nat} (h : ¬ sat w p a t n = 0) : stB w p a t n = true := by rw [sat_stB]; simp; omega
theorem ptS_84 {a b : Int32} {s0 : TXS} {i n : Nat} (h : (ptS a b s0 n).1 ≤ 84) (hi : i < n) (h1 : s0.2.1 i = a) (h2 : stB (ptS a b s0 i).2.1 (ptS a b s0 i).2.2.1 b (s0.2.2.1 i) (ptS a b s0 i).1 = false) : (ptS a b s0 i).1 < 84 := by
  have h3 := ptS_mono (a := a) (b := b) (s0 := s0) (i := i + 1) (n - (i + 1))
  rw [show i + 1 + (n - (i + 1)) = n by omega, ptS_y h1 h2] at h3
  have h4 : (ptS a b s0 i).1 + 1 ≤ (ptS a b s0 n).1 := h3
  omega
theorem ffB_s {w p : Nat → Int32} {e n : Nat} (h : ffB w p e n = true) (h2 : ¬ w n = w e) : ffB w p e (n + 1) = true := by simp [ffB, h, h2]
theorem ffB_s2 {w p : Nat → Int32} {e n : Nat} (h : ffB w p e n = true) (h2 : ¬ p n = p e) : ffB w p e (n + 1) = true := by simp [ffB, h, h2]
theorem ffB_f {w p : Nat → Int32} {e j : Nat} (h1 : w j = w e) (h2 : p j = p e) : ∀ n, j < n → ffB w p e n = false
  | 0, h => absurd h (by omega)
  | n + 1, h => by
    unfold ffB
    by_cases q : j = n
    · subst q; simp [h1, h2]
    · rw [ffB_f h1 h2 n (by omega)]; rfl
theorem cl_y {w p : Nat → Int32} {a : Int32} {n i : Nat} (h : ¬ w i = a) : p i - nI (cntA w (fl (clF w p a n) p i) a (p i) n) = clF w p a n i := by
  rw [cntA_cl]
  exact (if_neg h).symm
theorem cl_n {w p : Nat → Int32} {a : Int32} {n i : Nat} (h : w i = a) : clF w p a n i = p i := if_pos h
set_option maxHeartbeats 4000000 in
set_option maxRecDepth 100000 in
theorem t_append (l : Launch) (D : va_G) (dA : Nat → ClassId) (E : Nat) (tt : Nat → Nat) (tw tp tx : Nat → Int32) (nm : Nat) (p0 p1 p2 : Int32) (sz : Nat) (hnm : nm < 84)  : Met l yX6_append (wq (.code yX6_append cX6_append 4 none)) { frames := 1, cells := 0, slots := 0, locals := 22 } (va_Pc [.ref (tt 0), .int p0, .int p1, .int p2] (PcB D dA E [(tt 0, .inr (9, [.ref (tt 1), .ref (tt 3), .ref (tt 5), .int (nI nm)])), (tt 1, .inr (5, [.ref (tt 2)])), (tt 2, .inl (dA 0, 84, .inl tw)), (tt 3, .inr (5, [.ref (tt 4)])), (tt 4, .inl (dA 0, 84, .inl tp)), (tt 5, .inr (5, [.ref (tt 6)])), (tt 6, .inl (dA 0, 84, .inl tx))] sz)) (va_Qv (fun (u : Unit) => True) (fun u t => va_P D vwCl [(tt 0, .inr (9, [.ref (tt 1), .ref (tt 3), .ref (tt 5), .int (nI (nm + 1))])), (tt 1, .inr (5, [.ref (tt 2)])), (tt 2, .inl (dA 0, 84, .inl (upd tw nm p0))), (tt 3, .inr (5, [.ref (tt 4)])), (tt 4, .inl (dA 0, 84, .inl (upd tp nm p1))), (tt 5, .inr (5, [.ref (tt 6)])), (tt 6, .inl (dA 0, 84, .inl (upd tx nm p2)))] t.heap ∧ va_D (va_A [(tt 0, .inr (9, [.ref (tt 1), .ref (tt 3), .ref (tt 5), .int (nI nm)])), (tt 1, .inr (5, [.ref (tt 2)])), (tt 2, .inl (dA 0, 84, .inl tw)), (tt 3, .inr (5, [.ref (tt 4)])), (tt 4, .inl (dA 0, 84, .inl tp)), (tt 5, .inr (5, [.ref (tt 6)])), (tt 6, .inl (dA 0, 84, .inl tx))] sz) [(tt 0, .inr (9, [.ref (tt 1), .ref (tt 3), .ref (tt 5), .int (nI (nm + 1))])), (tt 1, .inr (5, [.ref (tt 2)])), (tt 2, .inl (dA 0, 84, .inl (upd tw nm p0))), (tt 3, .inr (5, [.ref (tt 4)])), (tt 4, .inl (dA 0, 84, .inl (upd tp nm p1))), (tt 5, .inr (5, [.ref (tt 6)])), (tt 6, .inl (dA 0, 84, .inl (upd tx nm p2)))]) (va_A [(tt 0, .inr (9, [.ref (tt 1), .ref (tt 3), .ref (tt 5), .int (nI nm)])), (tt 1, .inr (5, [.ref (tt 2)])), (tt 2, .inl (dA 0, 84, .inl tw)), (tt 3, .inr (5, [.ref (tt 4)])), (tt 4, .inl (dA 0, 84, .inl tp)), (tt 5, .inr (5, [.ref (tt 6)])), (tt 6, .inl (dA 0, 84, .inl tx))] sz)) 0 0 (va_A [(tt 0, .inr (9, [.ref (tt 1), .ref (tt 3), .ref (tt 5), .int (nI nm)])), (tt 1, .inr (5, [.ref (tt 2)])), (tt 2, .inl (dA 0, 84, .inl tw)), (tt 3, .inr (5, [.ref (tt 4)])), (tt 4, .inl (dA 0, 84, .inl tp)), (tt 5, .inr (5, [.ref (tt 6)])), (tt 6, .inl (dA 0, 84, .inl tx))] sz) := by
  refine mb_of (Qc := fun A => va_Qv (fun (u : Unit) => True) (fun u t => va_P D vwCl [(tt 0, .inr (9, [.ref (tt 1), .ref (tt 3), .ref (tt 5), .int (nI (nm + 1))])), (tt 1, .inr (5, [.ref (tt 2)])), (tt 2, .inl (dA 0, 84, .inl (upd tw nm p0))), (tt 3, .inr (5, [.ref (tt 4)])), (tt 4, .inl (dA 0, 84, .inl (upd tp nm p1))), (tt 5, .inr (5, [.ref (tt 6)])), (tt 6, .inl (dA 0, 84, .inl (upd tx nm p2)))] t.heap ∧ va_D A [(tt 0, .inr (9, [.ref (tt 1), .ref (tt 3), .ref (tt 5), .int (nI (nm + 1))])), (tt 1, .inr (5, [.ref (tt 2)])), (tt 2, .inl (dA 0, 84, .inl (upd tw nm p0))), (tt 3, .inr (5, [.ref (tt 4)])), (tt 4, .inl (dA 0, 84, .inl (upd tp nm p1))), (tt 5, .inr (5, [.ref (tt 6)])), (tt 6, .inl (dA 0, 84, .inl (upd tx nm p2)))]) A) RX6 rfl (by decide) (Nat.le_of_ble_eq_true rfl) ?_
  intro p e s m args below meth c hae hx hb hr hts hown hlocks hml hnm hP hK A hAe hD hZ hS hA ls hl
  replace hl : lv_has ls 4 [(0, .ref (tt 0)), (1, .int p0), (2, .int p1), (3, .int p2)] := hl
  refine lv_aload_n hx hb dX6_append_0 rfl (lv_at hl 0 rfl) ?_
  refine va_get (D := D) (ci := 9) (v := .int (nI nm)) (C := RX6) (T := TX6) (N := 4) hx hb hts inAX6 hown hK hP 0 rfl rfl 3 (by decide) (hts _ q205) (fun _ h9 => h9) rfl dX6_append_1 ?_
  refine lv_bipush (v := 84) hx hb dX6_append_4 (by decide) ?_
  refine lv_icmp_lt (tgt := 10) hx hb dX6_append_6 (by decide) (fun _ => ?_) (fun c1 => absurd ((nI_ltI (a := nm) (b := 84) (by omega) (by omega)).mpr (by omega)) c1)
  refine lv_aload_n hx hb dX6_append_10 rfl (lv_at hl 0 rfl) ?_
  refine va_get (D := D) (ci := 9) (v := .ref (tt 1)) (C := RX6) (T := TX6) (N := 4) hx hb hts inAX6 hown hK hP 0 rfl rfl 0 (by decide) (hts _ q206) (fun _ h9 => h9) rfl dX6_append_11 ?_
  refine lv_aload_n hx hb dX6_append_14 rfl (lv_at hl 0 rfl) ?_
  refine va_get (D := D) (ci := 9) (v := .int (nI nm)) (C := RX6) (T := TX6) (N := 4) hx hb hts inAX6 hown hK hP 0 rfl rfl 3 (by decide) (hts _ q205) (fun _ h9 => h9) rfl dX6_append_15 ?_
  refine lv_iload_n hx hb dX6_append_18 rfl (lv_at hl 1 rfl) ?_
  replace hPc := hP.sub (ws' := [(tt 1, .inr (5, [.ref (tt 2)])), (tt 2, .inl (dA 0, 84, .inl tw))]) [1, 2] rfl
  replace hDc := hD.sub (ws' := [(tt 1, .inr (5, [.ref (tt 2)])), (tt 2, .inl (dA 0, 84, .inl tw))]) [1, 2] (by decide) rfl
  replace hFc := va_free (wc := [(tt 1, .inr (5, [.ref (tt 2)])), (tt 2, .inl (dA 0, 84, .inl tw))]) hD hS hA [1, 2] rfl
  refine va_callv (va_runV (As := [.int (nI nm), .int p0]) (rest := []) ⟨hx, hb, hml, hown, hts⟩ (t_putN l D dA E (tt 1) (tt 2) 84 tw nm p0 s.heap.size  (by omega) (by decide)) (cwV 2 hts (ga_V q209 q210 q207 q204 q208) rfl rfl rfl (by decide +kernel) ⟨(Nat.le_of_ble_eq_true rfl), (Nat.le_of_ble_eq_true rfl)⟩) ⟨pb_blind, va_recv hK hPc (ci := 5) (q0 := 0) rfl rfl, pb_pre hK hPc hDc hZ hS hFc _⟩ rfl rfl hl.1 rfl (lv_room (Nat.le_of_ble_eq_true rfl)) dX6_append_19 ⟨(Nat.le_of_ble_eq_true rfl), (Nat.le_of_ble_eq_true rfl)⟩) hS (fun q _ h => hFc q h) hFc (fun u t H1 locs ht hvm hw hB hz1 hk1 hS => ?_)
  refine W.widen (k := 0) (n := 0) (Nat.le_of_ble_eq_true rfl) (Nat.le_of_ble_eq_true rfl) ?_
  obtain ⟨u2, rfl⟩ : ∃ z, z = u := ⟨_, rfl⟩
  have hw3 := hw
  clear hw
  obtain ⟨hP1, hD1⟩ := hB
  rw [ht] at hP1
  obtain ⟨hP, hD⟩ := va_join (wr := [(tt 0, .inr (9, [.ref (tt 1), .ref (tt 3), .ref (tt 5), .int (nI nm)])), (tt 3, .inr (5, [.ref (tt 4)])), (tt 4, .inl (dA 0, 84, .inl tp)), (tt 5, .inr (5, [.ref (tt 6)])), (tt 6, .inl (dA 0, 84, .inl tx))]) (w1 := [(tt 1, .inr (5, [.ref (tt 2)])), (tt 2, .inl (dA 0, 84, .inl (upd tw nm p0)))]) hP hD [1, 2] [0, 3, 4, 5, 6] rfl rfl (by decide) (by decide) hk1 hFc hP1 hD1
  generalize H1 = H at hP hS ⊢
  replace hP : va_P D vwCl [(tt 0, .inr (9, [.ref (tt 1), .ref (tt 3), .ref (tt 5), .int (nI nm)])), (tt 3, .inr (5, [.ref (tt 4)])), (tt 4, .inl (dA 0, 84, .inl tp)), (tt 5, .inr (5, [.ref (tt 6)])), (tt 6, .inl (dA 0, 84, .inl tx)), (tt 1, .inr (5, [.ref (tt 2)])), (tt 2, .inl (dA 0, 84, .inl (upd tw nm p0)))] H := hP
  replace hD : va_D A [(tt 0, .inr (9, [.ref (tt 1), .ref (tt 3), .ref (tt 5), .int (nI nm)])), (tt 3, .inr (5, [.ref (tt 4)])), (tt 4, .inl (dA 0, 84, .inl tp)), (tt 5, .inr (5, [.ref (tt 6)])), (tt 6, .inl (dA 0, 84, .inl tx)), (tt 1, .inr (5, [.ref (tt 2)])), (tt 2, .inl (dA 0, 84, .inl (upd tw nm p0)))] := hD
  refine lv_aload_n hx hb dX6_append_22 rfl (lv_at hl 0 rfl) ?_
  refine va_get (D := D) (ci := 9) (v := .ref (tt 3)) (C := RX6) (T := TX6) (N := 4) hx hb hts inAX6 hown hK hP 0 rfl rfl 1 (by decide) (hts _ q211) (fun _ h9 => h9) rfl dX6_append_23 ?_
  refine lv_aload_n hx hb dX6_append_26 rfl (lv_at hl 0 rfl) ?_
  refine va_get (D := D) (ci := 9) (v := .int (nI nm)) (C := RX6) (T := TX6) (N := 4) hx hb hts inAX6 hown hK hP 0 rfl rfl 3 (by decide) (hts _ q205) (fun _ h9 => h9) rfl dX6_append_27 ?_
  refine lv_iload_n hx hb dX6_append_30 rfl (lv_at hl 2 rfl) ?_
  replace hPc := hP.sub (ws' := [(tt 3, .inr (5, [.ref (tt 4)])), (tt 4, .inl (dA 0, 84, .inl tp))]) [1, 2] rfl
  replace hDc := hD.sub (ws' := [(tt 3, .inr (5, [.ref (tt 4)])), (tt 4, .inl (dA 0, 84, .inl tp))]) [1, 2] (by decide) rfl
  replace hFc := va_free (wc := [(tt 3, .inr (5, [.ref (tt 4)])), (tt 4, .inl (dA 0, 84, .inl tp))]) hD hS hA [1, 2] rfl
  refine va_callv (va_runV (As := [.int (nI nm), .int p1]) (rest := []) ⟨hx, hb, hml, hown, hts⟩ (t_putN l D dA E (tt 3) (tt 4) 84 tp nm p1 H.size  (by omega) (by decide)) (cwV 2 hts (ga_V q209 q210 q207 q204 q208) rfl rfl rfl (by decide +kernel) ⟨(Nat.le_of_ble_eq_true rfl), (Nat.le_of_ble_eq_true rfl)⟩) ⟨pb_blind, va_recv hK hPc (ci := 5) (q0 := 0) rfl rfl, pb_pre hK hPc hDc hZ hS hFc _⟩ rfl rfl hl.1 rfl (lv_room (Nat.le_of_ble_eq_true rfl)) dX6_append_31 ⟨(Nat.le_of_ble_eq_true rfl), (Nat.le_of_ble_eq_true rfl)⟩) hS (fun q _ h => hFc q h) hFc (fun u t H1 locs ht hvm hw hB hz1 hk1 hS => ?_)
  refine W.widen (k := 0) (n := 0) (Nat.le_of_ble_eq_true rfl) (Nat.le_of_ble_eq_true rfl) ?_
  obtain ⟨u4, rfl⟩ : ∃ z, z = u := ⟨_, rfl⟩
  have hw5 := hw
  clear hw
  obtain ⟨hP1, hD1⟩ := hB
  rw [ht] at hP1
  obtain ⟨hP, hD⟩ := va_join (wr := [(tt 0, .inr (9, [.ref (tt 1), .ref (tt 3), .ref (tt 5), .int (nI nm)])), (tt 5, .inr (5, [.ref (tt 6)])), (tt 6, .inl (dA 0, 84, .inl tx)), (tt 1, .inr (5, [.ref (tt 2)])), (tt 2, .inl (dA 0, 84, .inl (upd tw nm p0)))]) (w1 := [(tt 3, .inr (5, [.ref (tt 4)])), (tt 4, .inl (dA 0, 84, .inl (upd tp nm p1)))]) hP hD [1, 2] [0, 3, 4, 5, 6] rfl rfl (by decide) (by decide) hk1 hFc hP1 hD1
  generalize H1 = H at hP hS ⊢
  replace hP : va_P D vwCl [(tt 0, .inr (9, [.ref (tt 1), .ref (tt 3), .ref (tt 5), .int (nI nm)])), (tt 5, .inr (5, [.ref (tt 6)])), (tt 6, .inl (dA 0, 84, .inl tx)), (tt 1, .inr (5, [.ref (tt 2)])), (tt 2, .inl (dA 0, 84, .inl (upd tw nm p0))), (tt 3, .inr (5, [.ref (tt 4)])), (tt 4, .inl (dA 0, 84, .inl (upd tp nm p1)))] H := hP
  replace hD : va_D A [(tt 0, .inr (9, [.ref (tt 1), .ref (tt 3), .ref (tt 5), .int (nI nm)])), (tt 5, .inr (5, [.ref (tt 6)])), (tt 6, .inl (dA 0, 84, .inl tx)), (tt 1, .inr (5, [.ref (tt 2)])), (tt 2, .inl (dA 0, 84, .inl (upd tw nm p0))), (tt 3, .inr (5, [.ref (tt 4)])), (tt 4, .inl (dA 0, 84, .inl (upd tp nm p1)))] := hD
  refine lv_aload_n hx hb dX6_append_34 rfl (lv_at hl 0 rfl) ?_
  refine va_get (D := D) (ci := 9) (v := .ref (tt 5)) (C := RX6) (T := TX6) (N := 4) hx hb hts inAX6 hown hK hP 0 rfl rfl 2 (by decide) (hts _ q212) (fun _ h9 => h9) rfl dX6_append_35 ?_
  refine lv_aload_n hx hb dX6_append_38 rfl (lv_at hl 0 rfl) ?_
  refine va_get (D := D) (ci := 9) (v := .int (nI nm)) (C := RX6) (T := TX6) (N := 4) hx hb hts inAX6 hown hK hP 0 rfl rfl 3 (by decide) (hts _ q205) (fun _ h9 => h9) rfl dX6_append_39 ?_
  refine lv_iload_n hx hb dX6_append_42 rfl (lv_at hl 3 rfl) ?_
  replace hPc := hP.sub (ws' := [(tt 5, .inr (5, [.ref (tt 6)])), (tt 6, .inl (dA 0, 84, .inl tx))]) [1, 2] rfl
  replace hDc := hD.sub (ws' := [(tt 5, .inr (5, [.ref (tt 6)])), (tt 6, .inl (dA 0, 84, .inl tx))]) [1, 2] (by decide) rfl
  replace hFc := va_free (wc := [(tt 5, .inr (5, [.ref (tt 6)])), (tt 6, .inl (dA 0, 84, .inl tx))]) hD hS hA [1, 2] rfl
  refine va_callv (va_runV (As := [.int (nI nm), .int p2]) (rest := []) ⟨hx, hb, hml, hown, hts⟩ (t_putN l D dA E (tt 5) (tt 6) 84 tx nm p2 H.size  (by omega) (by decide)) (cwV 2 hts (ga_V q209 q210 q207 q204 q208) rfl rfl rfl (by decide +kernel) ⟨(Nat.le_of_ble_eq_true rfl), (Nat.le_of_ble_eq_true rfl)⟩) ⟨pb_blind, va_recv hK hPc (ci := 5) (q0 := 0) rfl rfl, pb_pre hK hPc hDc hZ hS hFc _⟩ rfl rfl hl.1 rfl (lv_room (Nat.le_of_ble_eq_true rfl)) dX6_append_43 ⟨(Nat.le_of_ble_eq_true rfl), (Nat.le_of_ble_eq_true rfl)⟩) hS (fun q _ h => hFc q h) hFc (fun u t H1 locs ht hvm hw hB hz1 hk1 hS => ?_)
  refine W.widen (k := 0) (n := 0) (Nat.le_of_ble_eq_true rfl) (Nat.le_of_ble_eq_true rfl) ?_
  obtain ⟨u6, rfl⟩ : ∃ z, z = u := ⟨_, rfl⟩
  have hw7 := hw
  clear hw
  obtain ⟨hP1, hD1⟩ := hB
  rw [ht] at hP1
  obtain ⟨hP, hD⟩ := va_join (wr := [(tt 0, .inr (9, [.ref (tt 1), .ref (tt 3), .ref (tt 5), .int (nI nm)])), (tt 1, .inr (5, [.ref (tt 2)])), (tt 2, .inl (dA 0, 84, .inl (upd tw nm p0))), (tt 3, .inr (5, [.ref (tt 4)])), (tt 4, .inl (dA 0, 84, .inl (upd tp nm p1)))]) (w1 := [(tt 5, .inr (5, [.ref (tt 6)])), (tt 6, .inl (dA 0, 84, .inl (upd tx nm p2)))]) hP hD [1, 2] [0, 3, 4, 5, 6] rfl rfl (by decide) (by decide) hk1 hFc hP1 hD1
  generalize H1 = H at hP hS ⊢
  replace hP : va_P D vwCl [(tt 0, .inr (9, [.ref (tt 1), .ref (tt 3), .ref (tt 5), .int (nI nm)])), (tt 1, .inr (5, [.ref (tt 2)])), (tt 2, .inl (dA 0, 84, .inl (upd tw nm p0))), (tt 3, .inr (5, [.ref (tt 4)])), (tt 4, .inl (dA 0, 84, .inl (upd tp nm p1))), (tt 5, .inr (5, [.ref (tt 6)])), (tt 6, .inl (dA 0, 84, .inl (upd tx nm p2)))] H := hP
  replace hD : va_D A [(tt 0, .inr (9, [.ref (tt 1), .ref (tt 3), .ref (tt 5), .int (nI nm)])), (tt 1, .inr (5, [.ref (tt 2)])), (tt 2, .inl (dA 0, 84, .inl (upd tw nm p0))), (tt 3, .inr (5, [.ref (tt 4)])), (tt 4, .inl (dA 0, 84, .inl (upd tp nm p1))), (tt 5, .inr (5, [.ref (tt 6)])), (tt 6, .inl (dA 0, 84, .inl (upd tx nm p2)))] := hD
  refine lv_aload_n hx hb dX6_append_46 rfl (lv_at hl 0 rfl) ?_
  refine lv_dup hx hb dX6_append_47 rfl ?_
  refine va_get (D := D) (ci := 9) (v := .int (nI nm)) (C := RX6) (T := TX6) (N := 4) hx hb hts inAX6 hown hK hP 0 rfl rfl 3 (by decide) (hts _ q205) (fun _ h9 => h9) rfl dX6_append_48 ?_
  refine lv_iconst (v := 1) hx hb dX6_append_51 (by decide) ?_
  refine lv_iadd hx hb dX6_append_52 ?_
  refine lv_topi (fun x8 ex8 => ?_)
  obtain rfl : x8 = nI (nm + 1) := ex8.trans (nI_add nm 1)
  refine va_put (D := D) (ci := 9) (v := .int (nI (nm + 1))) (ty := .int) (C := RX6) (T := TX6) (N := 4) hx hb hts inAX6 tyX6 tyX6_ok nmX6 hown hK hP hD hS 0 rfl rfl 3 (by decide) (hts _ q205) (fun _ h9 => h9) rfl (tyX6_ok 3 (by decide)) rfl rfl (Nat.le_of_ble_eq_true rfl) dX6_append_53 (fun H locs hP hD hS => ?_)
  replace hP : va_P D vwCl [(tt 0, .inr (9, [.ref (tt 1), .ref (tt 3), .ref (tt 5), .int (nI (nm + 1))])), (tt 1, .inr (5, [.ref (tt 2)])), (tt 2, .inl (dA 0, 84, .inl (upd tw nm p0))), (tt 3, .inr (5, [.ref (tt 4)])), (tt 4, .inl (dA 0, 84, .inl (upd tp nm p1))), (tt 5, .inr (5, [.ref (tt 6)])), (tt 6, .inl (dA 0, 84, .inl (upd tx nm p2)))] H := hP
  replace hD : va_D A [(tt 0, .inr (9, [.ref (tt 1), .ref (tt 3), .ref (tt 5), .int (nI (nm + 1))])), (tt 1, .inr (5, [.ref (tt 2)])), (tt 2, .inl (dA 0, 84, .inl (upd tw nm p0))), (tt 3, .inr (5, [.ref (tt 4)])), (tt 4, .inl (dA 0, 84, .inl (upd tp nm p1))), (tt 5, .inr (5, [.ref (tt 6)])), (tt 6, .inl (dA 0, 84, .inl (upd tx nm p2)))] := hD
  refine W.widen (k := 0) (n := 0) (Nat.le_of_ble_eq_true rfl) (Nat.le_of_ble_eq_true rfl) ?_
  have hP9 := hP.sub (ws' := [(tt 0, .inr (9, [.ref (tt 1), .ref (tt 3), .ref (tt 5), .int (nI (nm + 1))])), (tt 1, .inr (5, [.ref (tt 2)])), (tt 2, .inl (dA 0, 84, .inl (upd tw nm p0))), (tt 3, .inr (5, [.ref (tt 4)])), (tt 4, .inl (dA 0, 84, .inl (upd tp nm p1))), (tt 5, .inr (5, [.ref (tt 6)])), (tt 6, .inl (dA 0, 84, .inl (upd tx nm p2)))]) [0, 1, 2, 3, 4, 5, 6] rfl
  have hD9 := hD.sub (ws' := [(tt 0, .inr (9, [.ref (tt 1), .ref (tt 3), .ref (tt 5), .int (nI (nm + 1))])), (tt 1, .inr (5, [.ref (tt 2)])), (tt 2, .inl (dA 0, 84, .inl (upd tw nm p0))), (tt 3, .inr (5, [.ref (tt 4)])), (tt 4, .inl (dA 0, 84, .inl (upd tp nm p1))), (tt 5, .inr (5, [.ref (tt 6)])), (tt 6, .inl (dA 0, 84, .inl (upd tx nm p2)))]) [0, 1, 2, 3, 4, 5, 6] (by decide) rfl
  exact W.vret hx hb hr (fun t ht hW => ⟨⟨(), rfl, trivial, ⟨by rw [ht]; exact hP9, hD9⟩⟩, hS.F ht⟩) hS.2.2 dX6_append_56
