/-! CONTRACTS, general -/
abbrev RI (tn : Nat) (I : Nat → Int32) (F : Nat → Nat → Int32) (h0 : Nat → Nat) (CC : CS) : Prop := ∃ (ns nd nq nv nsg cm kd ksg vs ow bd : Nat) (LN CL Q1 Q2 DS WT LV IX : Nat → Nat), (I 1 = nI ns) ∧ (ns ≤ 6) ∧ (I 10 = nI nd) ∧ (nd ≤ 30) ∧ (I 8 = nI ow) ∧ (ow ≤ 12) ∧ (I 19 = nI nsg) ∧ (nsg ≤ tn) ∧ (I 21 = nI cm) ∧ (cm ≤ tn) ∧ (I 22 = nI kd) ∧ (kd ≤ nd) ∧ (I 23 = nI ksg) ∧ (ksg ≤ tn) ∧ (I 27 = nI nv) ∧ (nv ≤ 4) ∧ (I 28 = nI vs) ∧ (vs ≤ tn) ∧ (I 31 = nI nq) ∧ (nq ≤ 40) ∧ (I 38 = nI bd) ∧ (bd ≤ 999) ∧ (¬ I 5 = 0 → nd < 30) ∧ (∀ e, e < 30 → F 15 e = nI (LN e) ∧ LN e ≤ 96) ∧ (AC (F 11)) ∧ (AC (F 24)) ∧ (∀ j, vp_nar .boolean (F 30 j) = F 30 j) ∧ (∀ k, k < 2880 → -1000 ≤ (F 17 k).toInt ∧ (F 17 k).toInt ≤ 1000) ∧ (∀ k, k < 2880 → F 18 k = nI (IX k) ∧ IX k < 12) ∧ (∀ e, e < 30 → F 14 e = nI (CL e) ∧ CL e ≤ tn) ∧ (QOK F Q1 Q2 DS WT nq) ∧ (∀ q, q < nq → F 37 q = nI (LV q) ∧ LV q ≤ 20 ∧ 1 ≤ LV q ∧ (QJn F Q1 Q2 q → LV (Q1 q) + LV (Q2 q) ≤ LV q)) ∧ (∀ j, h0 j < 30) ∧ (CC.vs = vs) ∧ (CC.nv = nv) ∧ (∀ j, j < nv → CC.VN j = F 29 j) ∧ (∀ i j, i < nv → j < nv → F 29 i = F 29 j → i = j) ∧ (∀ j, j < nv → ∃ v, v < vs ∧ F 29 j = nI v)
theorem tf (x : Bool) : x = true ∨ x = false := by cases x <;> simp
theorem ch_of {x : Int32} (h : narrow .char (.int x) = .int x ∧ fits .char (.int x) = true) : vp_nar .char x = x := by
  have h1 := h.1
  unfold vp_nar
  rw [h1]
theorem vaF_ex {f : Nat → Int32} {v : Int32} : ∀ n, (∃ a, a < n ∧ vaF f v n = nI a) ∨ vaF f v n = -1
  | 0 => Or.inr rfl
  | n + 1 => by
    by_cases e : f n = v
    · exact Or.inl ⟨n, Nat.lt_succ_self n, (vaF_y e).symm⟩
    · rcases vaF_ex (f := f) (v := v) n with ⟨a, h1, h2⟩ | h
      · exact Or.inl ⟨a, by omega, (vaF_n e).symm.trans h2⟩
      · exact Or.inr ((vaF_n e).symm.trans h)
theorem lf_B {F : Nat → Nat → Int32} {DS WT LN : Nat → Nat} {nd a d q : Nat} (hnd : nd ≤ 30) (hn : LN d ≤ 96) (h : QLf F DS WT q) : lfF F DS WT LN nd a d q ≤ 257126400 := by
  have h1 := tmF_le (F := F) (DS := DS) (LN := LN) (d := d) (q := q) hn h.2.1
  have h2 : svN F a ≤ 30 := cn_le _ _
  have h3 := h.2.2.2
  unfold lfF scL
  have h4 : 100 * tmF F DS LN d q * (svN F a + 1) / ((mcF F DS LN nd a q + 1) * (LN d + 4)) ≤ 100 * 9216 * 31 := Nat.le_trans (Nat.div_le_self _ _) (Nat.mul_le_mul (Nat.mul_le_mul_left 100 h1) (by omega))
  exact Nat.le_trans (Nat.mul_le_mul h4 h3) (by decide)
set_option maxRecDepth 100000 in
theorem sc_B {F : Nat → Nat → Int32} {Q1 Q2 DS WT LN LV : Nat → Nat} {nq nd a d : Nat} (hnd : nd ≤ 30) (hn : LN d ≤ 96) (hQ : QOK F Q1 Q2 DS WT nq) (hLV : ∀ q, q < nq → F 37 q = nI (LV q) ∧ LV q ≤ 20 ∧ 1 ≤ LV q ∧ (QJn F Q1 Q2 q → LV (Q1 q) + LV (Q2 q) ≤ LV q)) : ∀ q, q < nq → scF F Q1 Q2 DS WT LN nd a d q ≤ LV q * 257126400 := by
  intro q
  induction q using Nat.strongRecOn with
  | _ q ih =>
    intro hq
    rcases hQ q hq with h | h
    · rw [scF_l h]
      exact Nat.le_trans (lf_B hnd hn h) (Nat.le_mul_of_pos_left _ (hLV q hq).2.2.1)
    · rw [scF_j h]
      have h1 := ih (Q1 q) h.2.2.1 (by have := h.2.2.1; omega)
      have h2 := ih (Q2 q) h.2.2.2.2 (by have := h.2.2.2.2; omega)
      have h3 := Nat.mul_le_mul_right 257126400 ((hLV q hq).2.2.2 h)
      rw [Nat.add_mul] at h3
      generalize (257126400 : Nat) = M at h1 h2 h3 ⊢
      split <;> split <;> omega
theorem rk_B {F : Nat → Nat → Int32} {Q1 Q2 DS WT LN LV CL : Nat → Nat} {nq nd bd a q : Nat} (hnd : nd ≤ 30) (hbd : bd ≤ 999) (hLN : ∀ e, e < 30 → F 15 e = nI (LN e) ∧ LN e ≤ 96) (hQ : QOK F Q1 Q2 DS WT nq) (hLV : ∀ q, q < nq → F 37 q = nI (LV q) ∧ LV q ≤ 20 ∧ 1 ≤ LV q ∧ (QJn F Q1 Q2 q → LV (Q1 q) + LV (Q2 q) ≤ LV q)) (hq : q < nq) : ∀ e, e < 30 → rkF F Q1 Q2 DS WT LN CL nd bd a q e < 2 ^ 62 := by
  intro e he
  have h1 := sc_B (a := a) hnd (hLN e he).2 hQ hLV q hq
  have h2 := Nat.mul_le_mul_right 257126400 (hLV q hq).2.1
  unfold rkF rkC
  split <;> omega
theorem mg_cases {n : Nat} (hn : n ≤ 900) (x : Int32) : (∃ k m, n = m + 1 + 1 ∧ k ≤ m ∧ x = nI k) ∨ inR 0 (nI n - 2) x = false := by
  rcases (show n = 0 ∨ n = 1 ∨ 2 ≤ n by omega) with rfl | rfl | h
  · right; rw [show nI 0 - 2 = (-2 : Int32) by decide]; exact inR_m2 _
  · right; rw [show nI 1 - 2 = (-1 : Int32) by decide]; exact inR_m1 _
  · obtain ⟨m, rfl⟩ : ∃ m, n = m + 2 := ⟨n - 2, by omega⟩
    have e : nI (m + 2) - 2 = nI (m + 1) - 1 := by
      rw [show (2 : Int32) = nI 2 from rfl, pk_sub (by omega), nI_pred]
      rfl
    rw [e]
    rcases seg_cases (n := m + 1) (by omega) x with ⟨k, hk, ek⟩ | h9
    · exact Or.inl ⟨k, m, rfl, by omega, ek⟩
    · exact Or.inr h9
theorem AB_flo {g : Nat → Int32} {φ : Nat → Bool} {o n : Nat} (h : ∀ j, vp_nar .boolean (g j) = g j) : ∀ j, vp_nar .boolean (flo (fun d => bI (φ d)) g o n j) = flo (fun d => bI (φ d)) g o n j := by
  intro j
  unfold flo
  split
  · show vp_nar .boolean (bI (φ (j - o))) = bI (φ (j - o))
    cases φ (j - o) <;> decide
  · exact h j
theorem AB_shN {g : Nat → Int32} {lo hi st : Nat} (h : ∀ j, vp_nar .boolean (g j) = g j) : ∀ j, vp_nar .boolean (shN g lo hi st j) = shN g lo hi st j := by
  intro j
  unfold shN
  split <;> exact h _
theorem in999 {x : Int32} (h : inR 0 999 x = true) : ∃ k, k ≤ 999 ∧ x = nI k := by
  unfold inR at h
  simp only [Bool.and_eq_true, Bool.not_eq_true', decide_eq_false_iff_not] at h
  exact nI_of2 (M := 999) (by decide) h.1 (Int32.not_lt.mp h.2)
theorem Q_ext {F F' : Nat → Nat → Int32} {Q1 Q2 DS WT Q1' Q2' DS' WT' : Nat → Nat} {nq : Nat} (h2 : ∀ q, q < nq → F' 32 q = F 32 q) (h3 : ∀ q, q < nq → F' 33 q = F 33 q) (h4 : ∀ q, q < nq → F' 34 q = F 34 q) (h5 : ∀ q, q < nq → F' 35 q = F 35 q) (h6 : ∀ q, q < nq → F' 36 q = F 36 q) (a1 : ∀ q, q < nq → Q1' q = Q1 q) (a2 : ∀ q, q < nq → Q2' q = Q2 q) (a3 : ∀ q, q < nq → DS' q = DS q) (a4 : ∀ q, q < nq → WT' q = WT q) (hQ : QOK F Q1 Q2 DS WT nq) (hn : QLf F' DS' WT' nq ∨ QJn F' Q1' Q2' nq) : QOK F' Q1' Q2' DS' WT' (nq + 1) := by
  intro q hq
  by_cases e : q = nq
  · subst e; exact hn
  · have hl : q < nq := by omega
    have h := hQ q hl
    unfold QLf QJn at h ⊢
    rw [h2 q hl, h3 q hl, h4 q hl, h5 q hl, h6 q hl, a1 q hl, a2 q hl, a3 q hl, a4 q hl]
    exact h
theorem LV_ext {F F' : Nat → Nat → Int32} {Q1 Q2 Q1' Q2' LV LV' : Nat → Nat} {nq : Nat} (h2 : ∀ q, q < nq → F' 32 q = F 32 q) (h3 : ∀ q, q < nq → F' 33 q = F 33 q) (h4 : ∀ q, q < nq → F' 34 q = F 34 q) (h7 : ∀ q, q < nq → F' 37 q = F 37 q) (a1 : ∀ q, q < nq → Q1' q = Q1 q) (a2 : ∀ q, q < nq → Q2' q = Q2 q) (a3 : ∀ q, q < nq → LV' q = LV q) (hL : ∀ q, q < nq → F 37 q = nI (LV q) ∧ LV q ≤ 20 ∧ 1 ≤ LV q ∧ (QJn F Q1 Q2 q → LV (Q1 q) + LV (Q2 q) ≤ LV q)) (hn : F' 37 nq = nI (LV' nq) ∧ LV' nq ≤ 20 ∧ 1 ≤ LV' nq ∧ (QJn F' Q1' Q2' nq → LV' (Q1' nq) + LV' (Q2' nq) ≤ LV' nq)) : ∀ q, q < nq + 1 → F' 37 q = nI (LV' q) ∧ LV' q ≤ 20 ∧ 1 ≤ LV' q ∧ (QJn F' Q1' Q2' q → LV' (Q1' q) + LV' (Q2' q) ≤ LV' q) := by
  intro q hq
  by_cases e : q = nq
  · subst e; exact hn
  · have hl : q < nq := by omega
    obtain ⟨k1, k2, k3, k4⟩ := hL q hl
    refine ⟨by rw [h7 q hl, a3 q hl]; exact k1, by rw [a3 q hl]; exact k2, by rw [a3 q hl]; exact k3, fun hj => ?_⟩
    have hj2 : QJn F Q1 Q2 q := by
      unfold QJn at hj ⊢
      rw [h2 q hl, h3 q hl, h4 q hl, a1 q hl, a2 q hl] at hj
      exact hj
    have b1 := hj2.2.2.1
    have b2 := hj2.2.2.2.2
    rw [a1 q hl, a2 q hl, a3 (Q1 q) (by omega), a3 (Q2 q) (by omega), a3 q hl]
    exact k4 hj2
theorem in19 {x : Int32} (h : inR 1 9 x = true) : ∃ k, k ≤ 9 ∧ x = nI k := by
  unfold inR at h
  simp only [Bool.and_eq_true, Bool.not_eq_true', decide_eq_false_iff_not] at h
  exact w9_of h.1 (Int32.not_lt.mp h.2)
theorem ask_ok {k a b d w : Int32} (h : okAsk9 k a b d w = true) : ∃ D9 W9, D9 ≤ 9 ∧ W9 ≤ 9 ∧ w = nI W9 ∧ (k = 119 ∨ k = 112 ∨ (k = 110 ∧ d = nI D9)) := by
  unfold okAsk9 okCan at h
  simp only [Bool.or_eq_true, Bool.and_eq_true, decide_eq_true_eq] at h
  obtain ⟨h1, h2⟩ := h
  obtain ⟨W9, hW, eW⟩ := in19 h2
  rcases h1 with ⟨h1, -⟩ | ⟨h1, -⟩ | ⟨h1, -, -, h3⟩
  · exact ⟨0, W9, by omega, hW, eW, Or.inl h1⟩
  · exact ⟨0, W9, by omega, hW, eW, Or.inr (Or.inl h1)⟩
  · obtain ⟨D9, hD, eD⟩ := in19 h3
    exact ⟨D9, W9, hD, hW, eW, Or.inr (Or.inr ⟨h1, eD⟩)⟩
theorem okJ_k {k : Int32} (h : okJ k = true) : k = 97 ∨ k = 111 ∨ k = 120 ∨ k = 105 := by
  unfold okJ at h
  simpa only [Bool.or_eq_true, decide_eq_true_eq] using h
theorem cl_up {f : Nat → Int32} {CL : Nat → Nat} {d tn : Nat} (h : ∀ e, e < 30 → f e = nI (CL e) ∧ CL e ≤ tn) : ∀ e, e < 30 → upd f d (nI (CL d + 1)) e = nI (va_up CL d (CL d + 1) e) ∧ va_up CL d (CL d + 1) e ≤ tn + 1 := by
  intro e he
  unfold upd va_up
  by_cases x : e = d
  · rw [if_pos x, if_pos x]; subst x; exact ⟨rfl, Nat.succ_le_succ (h e he).2⟩
  · rw [if_neg x, if_neg x]; exact ⟨(h e he).1, Nat.le_succ_of_le (h e he).2⟩
theorem ln_up {f : Nat → Int32} {LN : Nat → Nat} {d N : Nat} (h : ∀ e, e < 30 → f e = nI (LN e) ∧ LN e ≤ 96) (hN : N ≤ 96) : ∀ e, e < 30 → upd f d (nI N) e = nI (va_up LN d N e) ∧ va_up LN d N e ≤ 96 := by
  intro e he
  unfold upd va_up
  by_cases x : e = d
  · rw [if_pos x, if_pos x]; exact ⟨rfl, hN⟩
  · rw [if_neg x, if_neg x]; exact h e he
theorem ix_flo {f g : Nat → Int32} {IX : Nat → Nat} {o N : Nat} (h : ∀ k, k < 2880 → f k = nI (IX k) ∧ IX k < 12) (hg : ∀ j, j < N → ∃ v, v < 12 ∧ g j = nI v) : ∀ k, k < 2880 → flo g f o N k = nI ((flo g f o N k).toNatClampNeg) ∧ (flo g f o N k).toNatClampNeg < 12 := by
  intro k hk
  have : ∃ v, v < 12 ∧ flo g f o N k = nI v := by
    unfold flo
    split
    · exact hg _ (by omega)
    · exact ⟨_, (h k hk).2, (h k hk).1⟩
  obtain ⟨v, hv, e⟩ := this
  rw [e, nI_clamp (by omega)]
  exact ⟨rfl, hv⟩
theorem pb_flo {f g : Nat → Int32} {o N : Nat} (h : ∀ k, k < 2880 → -1000 ≤ (f k).toInt ∧ (f k).toInt ≤ 1000) (hg : ∀ j, j < N → -1000 ≤ (g j).toInt ∧ (g j).toInt ≤ 1000) : ∀ k, k < 2880 → -1000 ≤ (flo g f o N k).toInt ∧ (flo g f o N k).toInt ≤ 1000 := by
  intro k hk
  unfold flo
  split
  · exact hg _ (by omega)
  · exact h k hk
theorem TI_pb {k : Nat} {s : TXS} (hk : k ≤ 6) (h : TI k s) : ∀ j, j < s.1 → -1000 ≤ (s.2.2.1 j).toInt ∧ (s.2.2.1 j).toInt ≤ 1000 := by
  obtain ⟨-, -, π, h1, h2⟩ := h
  intro j hj
  obtain ⟨i, hi, e⟩ := h2 j hj
  have := h1 i
  rw [e]
  omega
theorem first_ex {P : Nat → Prop} [DecidablePred P] : ∀ n, (∃ k, k < n ∧ P k ∧ ∀ j, j < k → ¬ P j) ∨ ∀ j, j < n → ¬ P j
  | 0 => Or.inr (fun j h => absurd h (Nat.not_lt_zero j))
  | n + 1 => by
    rcases first_ex (P := P) n with ⟨k, h1, h2, h3⟩ | h
    · exact Or.inl ⟨k, by omega, h2, h3⟩
    · by_cases e : P n
      · exact Or.inl ⟨n, Nat.lt_succ_self n, e, h⟩
      · exact Or.inr (all_succ h e)
theorem lcmp_self (x : Int64) : lg_cmp x x = 0 := by
  unfold lg_cmp
  rw [if_neg (by show ¬ x < x; exact Int64.lt_irrefl), if_pos rfl]
theorem op_t {x : Int32} (h : x = 1) : true = !decide (x = 0) := by subst h; rfl
theorem op_f {x : Int32} (h : x = 0) : false = !decide (x = 0) := by subst h; rfl
theorem op_y {b : Bool} {x : Int32} (h : b = !decide (x = 0)) (hb : b = true) : ¬ x = 0 := by
  rw [hb] at h
  intro e
  rw [decide_eq_true e] at h
  exact absurd h (by decide)
theorem op_n {b : Bool} {x : Int32} (h : b = !decide (x = 0)) (hb : b = false) : x = 0 := by
  rw [hb] at h
  by_cases e : x = 0
  · exact e
  · rw [decide_eq_false e] at h
    exact absurd h (by decide)
theorem op_c {b : Bool} {x : Int32} (h : b = !decide (x = 0)) (e : ¬ x = 0) : b = true := by rw [h, decide_eq_false e]; rfl
theorem ag_up {f g : Nat → Int32} {n : Nat} {x : Int32} (h : ∀ q, q < n → f q = g q) : ∀ q, q < n + 1 → va_up f n x q = upd g n x q := by
  intro q hq
  unfold va_up upd
  by_cases e : q = n
  · rw [if_pos e, if_pos e]
  · rw [if_neg e, if_neg e]; exact h q (by omega)
theorem ag_nI {f : Nat → Int32} {g : Nat → Nat} {n y : Nat} {x : Int32} (h : ∀ q, q < n → f q = nI (g q)) (hx : x = nI y) : ∀ q, q < n + 1 → va_up f n x q = nI (va_up g n y q) := by
  intro q hq
  unfold va_up
  by_cases e : q = n
  · rw [if_pos e, if_pos e]; exact hx
  · rw [if_neg e, if_neg e]; exact h q (by omega)
theorem ag_lt {α : Type} {f g : Nat → α} {n : Nat} {x : α} (h : ∀ q, q < n → f q = g q) : ∀ q, q < n → va_up f n x q = g q := fun q hq => (va_up_ne _ _ (Nat.ne_of_lt hq)).trans (h q hq)
theorem ck_cl {f g : Nat → Int32} {n : Nat} (h : ∀ d, d < n → f d = g d) (h0 : f n = 0) (h1 : ∀ d, n ≤ d → d < 30 → g d = 0) (hn : n < 30) : ∀ d, d < n + 1 → f d = g d := by
  intro d hd
  by_cases e : d = n
  · rw [e, h0, h1 n (Nat.le_refl n) hn]
  · exact h d (by omega)
theorem ck_clk {f g : Nat → Int32} {n d L : Nat} (h : ∀ e, e < n → f e = g e) (hn : n ≤ 1000) (hd : d < n) (hg : g d = nI L) : ∀ e, e < n → upd f (nI d).toNatClampNeg (f (nI d).toNatClampNeg + 1) e = upd g d (nI (L + 1)) e := by
  rw [nI_clamp (by omega)]
  intro e he
  unfold upd
  by_cases x : e = d
  · rw [if_pos x, if_pos x, h d hd, hg]; exact nI_add L 1
  · rw [if_neg x, if_neg x]; exact h e he
theorem ck_ans {f g : Nat → Int32} {n d L : Nat} (h : ∀ e, e < n → f e = g e) (hn : n ≤ 1000) (hd : d < n) (hg : g d = nI L) : f (nI d).toNatClampNeg + 1 = nI (L + 1) := by
  rw [nI_clamp (by omega), h d hd, hg]
  exact nI_add L 1
theorem jn_sum {f : Nat → Int32} {L : Nat → Nat} {a b : Nat} (h1 : f a = nI (L a)) (h2 : f b = nI (L b)) (ha : a < 2 ^ 31) (hb : b < 2 ^ 31) : f (nI a).toNatClampNeg + f (nI b).toNatClampNeg = nI (L a + L b) := by
  rw [nI_clamp ha, nI_clamp hb, h1, h2]
  exact nI_add _ _
theorem jl20 {f : Nat → Int32} {L : Nat → Nat} {a b : Nat} (h1 : f a = nI (L a)) (h2 : f b = nI (L b)) (b1 : L a ≤ 20) (b2 : L b ≤ 20) (ha : a < 2 ^ 31) (hb : b < 2 ^ 31) : f (nI a).toNatClampNeg + f (nI b).toNatClampNeg ≤ 20 ↔ L a + L b ≤ 20 := by
  rw [jn_sum h1 h2 ha hb]
  exact nI_leI (b := 20) (by omega) (by omega)
theorem vi_up {g : Nat → Int32} {n vs : Nat} (h : ∀ i j, i < n → j < n → g i = g j → i = j) (hl : ∀ j, j < n → ∃ v, v < vs ∧ g j = nI v) (hv : vs < 2 ^ 31) : ∀ i j, i < n + 1 → j < n + 1 → upd g n (nI vs) i = upd g n (nI vs) j → i = j := by
  have hk : ∀ j, j < n → ¬ g j = nI vs := fun j hj e => by
    obtain ⟨v, h1, h2⟩ := hl j hj
    have := (nI_eq (a := v) (b := vs) (by omega) hv).mp (h2.symm.trans e)
    omega
  intro i j hi hj e
  unfold upd at e
  by_cases a : i = n
  · by_cases b : j = n
    · rw [a, b]
    · rw [if_pos a, if_neg b] at e; exact absurd e.symm (hk j (by omega))
  · by_cases b : j = n
    · rw [if_neg a, if_pos b] at e; exact absurd e (hk i (by omega))
    · rw [if_neg a, if_neg b] at e; exact h i j (by omega) (by omega) e
theorem vl_up {g : Nat → Int32} {n vs : Nat} (hl : ∀ j, j < n → ∃ v, v < vs ∧ g j = nI v) : ∀ j, j < n + 1 → ∃ v, v < vs + 1 ∧ upd g n (nI vs) j = nI v := by
  intro j hj
  unfold upd
  by_cases e : j = n
  · rw [if_pos e]; exact ⟨vs, Nat.lt_succ_self vs, rfl⟩
  · rw [if_neg e]
    obtain ⟨v, h1, h2⟩ := hl j (by omega)
    exact ⟨v, by omega, h2⟩
theorem shN_rm {g : Nat → Int32} {a n j : Nat} (hj : j < n) : shN g a n 1 j = g (rmI a j) := by
  unfold shN rmI
  by_cases e : j < a
  · rw [if_pos e, if_neg (by omega)]
  · rw [if_neg e, if_pos (by omega)]
theorem cv_vn {f g : Nat → Int32} {a n : Nat} (h : ∀ j, j < n + 1 → f j = g j) (ha : a < n + 1) : ∀ j, j < n → f (rmI a j) = shN g a n 1 j := by
  intro j hj
  rw [shN_rm hj]
  exact h _ (by unfold rmI; split <;> omega)
theorem vi_cl {g : Nat → Int32} {a n : Nat} (h : ∀ i j, i < n + 1 → j < n + 1 → g i = g j → i = j) (ha : a < n + 1) : ∀ i j, i < n → j < n → shN g a n 1 i = shN g a n 1 j → i = j := by
  intro i j hi hj e
  rw [shN_rm hi, shN_rm hj] at e
  have e2 := h _ _ (by unfold rmI; split <;> omega) (by unfold rmI; split <;> omega) e
  unfold rmI at e2
  split at e2 <;> split at e2 <;> omega
theorem vl_cl {g : Nat → Int32} {a n vs : Nat} (h : ∀ j, j < n + 1 → ∃ v, v < vs ∧ g j = nI v) (ha : a < n + 1) : ∀ j, j < n → ∃ v, v < vs ∧ shN g a n 1 j = nI v := by
  intro j hj
  rw [shN_rm hj]
  exact h _ (by unfold rmI; split <;> omega)
theorem vaF_no {f : Nat → Int32} {v : Int32} : ∀ n, n ≤ 1000 → vaF f v n = -1 → ∀ j, j < n → ¬ f j = v
  | 0, _, _, j, h => absurd h (Nat.not_lt_zero j)
  | n + 1, hn, h, j, hj => by
    by_cases e : f n = v
    · exact absurd ((vaF_y e).trans h) (nI_m1 (by omega))
    · by_cases x : j = n
      · rw [x]; exact e
      · exact vaF_no n (by omega) ((vaF_n e).trans h) j (by omega)
theorem vaF_at {f : Nat → Int32} {v : Int32} {a : Nat} : ∀ n, n ≤ 1000 → a < n → vaF f v n = nI a → f a = v
  | 0, _, h, _ => absurd h (Nat.not_lt_zero a)
  | n + 1, hn, ha, h => by
    by_cases e : f n = v
    · have := (nI_eq (by omega) (by omega)).mp ((vaF_y e).trans h)
      rw [← this]; exact e
    · have h2 := (vaF_n e).trans h
      by_cases x : a < n
      · exact vaF_at n (by omega) x h2
      · rcases vaF_ex (f := f) (v := v) n with ⟨b, hb, h3⟩ | h3
        · have := (nI_eq (by omega) (by omega)).mp (h3.symm.trans h2)
          omega
        · exact absurd (h2.symm.trans h3) (nI_m1 (by omega))
theorem ag_uu {f g : Nat → Int32} {n : Nat} {x : Int32} (h : ∀ q, q < n → f q = g q) : ∀ q, q < n + 1 → upd f n x q = upd g n x q := by
  intro q hq
  unfold upd
  by_cases e : q = n
  · rw [if_pos e, if_pos e]
  · rw [if_neg e, if_neg e]; exact h q (by omega)
theorem ag_u1 {f g : Nat → Int32} {n d : Nat} {x : Int32} (h : ∀ q, q < n → f q = g q) : ∀ q, q < n → upd f d x q = upd g d x q := by
  intro q hq
  unfold upd
  by_cases e : q = d
  · rw [if_pos e, if_pos e]
  · rw [if_neg e, if_neg e]; exact h q hq
theorem wrS_c {f g : Nat → Int32} {q : Nat} (h : f q = g q) : wrS f q = wrS g q := by unfold wrS; rw [h]
theorem ag_wrS {f g : Nat → Int32} {n : Nat} (h : ∀ q, q < n → f q = g q) : ∀ q, q < n → fl (wrS f) f n q = fl (wrS g) g n q := fun q hq => by
  rw [fl_in hq, fl_in hq]; exact wrS_c (h q hq)
theorem ag_wrN {f g : Nat → Int32} {n : Nat} (h : ∀ q, q < n → f q = g q) : wrN f n = wrN g n := cn_cong n (fun i hi => by rw [h i hi])
theorem crF_c {kd : Nat} {k k' : Nat → Int32} {x : Int32} {q : Nat} (h : ∀ q, q < kd → k q = k' q) : crF kd k x q = crF kd k' x q := by
  unfold crF
  by_cases e : q < kd
  · rw [if_pos e, if_pos e, h q e]
  · rw [if_neg e, if_neg e]
theorem ag_crS {kd n : Nat} {k k' s s' : Nat → Int32} {x : Int32} (h : ∀ q, q < kd → k q = k' q) : ∀ q, q < n → fl (crF kd k x) s n q = fl (crF kd k' x) s' n q := fun q hq => by
  rw [fl_in hq, fl_in hq]; exact crF_c h
theorem ag_crB {kd n : Nat} {k k' s s' : Nat → Int32} (h : ∀ q, q < kd → k q = k' q) (h2 : ∀ q, q < n → s q = s' q) : cn (crB kd k s) n = cn (crB kd k' s') n := cn_cong n (fun i hi => by unfold crB; rw [h2 i hi, crF_c h])
theorem ag_kS {f g a b : Nat → Int32} {n : Nat} (h : ∀ q, q < n → f q = g q) (hn : n ≤ 30) : ∀ q, q < n → fl (fl (wrS f) f n) a 30 q = fl (fl (wrS g) g n) b n q := fun q hq =>
  (fl_in (show q < 30 by omega)).trans ((ag_wrS h q hq).trans (fl_in hq).symm)
theorem tS_c {f g : Nat → Int32} {n d : Nat} (h : ∀ q, q < n → f q = g q) (hd : d < n) (hn : n ≤ 1000) : f (nI d).toNatClampNeg = g d := by
  rw [nI_clamp (by omega)]; exact h d hd
theorem ag_wrG {s t f g : Nat → Int32} {n m : Nat} (hs : ∀ q, q < n → s q = t q) (h : ∀ q, q < n → f q = g q) : ∀ q, q < n → fl (wrG s f m) f n q = fl (wrG t g m) g n q := fun q hq => by
  rw [fl_in hq, fl_in hq]
  unfold wrG
  rw [hs q hq, h q hq]
theorem ag_kG {s t f g a b : Nat → Int32} {n m : Nat} (hs : ∀ q, q < n → s q = t q) (h : ∀ q, q < n → f q = g q) (hn : n ≤ 30) : ∀ q, q < n → fl (fl (wrG s f m) f n) a 30 q = fl (fl (wrG t g m) g n) b n q := fun q hq =>
  (fl_in (show q < 30 by omega)).trans ((ag_wrG (m := m) hs h q hq).trans (fl_in hq).symm)
theorem cn_zero {f : Nat → Bool} : ∀ n, cn f n = 0 → ∀ i, i < n → f i = false
  | 0, _, i, h => absurd h (Nat.not_lt_zero i)
  | n + 1, h, i, hi => by
    have e : cn f n + (if f n = true then 1 else 0) = 0 := h
    by_cases x : i = n
    · rw [x]
      cases y : f n
      · rfl
      · rw [y, if_pos rfl] at e; omega
    · exact cn_zero n (by omega) i (by omega)
theorem gb_cl {g : Nat → Int32} {n m : Nat} (h : ∀ d, d < n → g d = -1 ∨ ∃ k, k < m ∧ g d = nI k) : ∀ d, d < n + 1 → upd g n (-1) d = -1 ∨ ∃ k, k < m ∧ upd g n (-1) d = nI k := by
  intro d hd
  unfold upd
  by_cases e : d = n
  · rw [if_pos e]; exact Or.inl rfl
  · rw [if_neg e]; exact h d (by omega)
theorem gb_wr {s g : Nat → Int32} {n m u : Nat} (h : ∀ d, d < n → g d = -1 ∨ ∃ k, k < m ∧ g d = nI k) (hu : u = if 0 < wrN s n then 1 else 0) : ∀ d, d < n → fl (wrG s g m) g n d = -1 ∨ ∃ k, k < m + u ∧ fl (wrG s g m) g n d = nI k := by
  intro d hd
  rw [fl_in hd]
  unfold wrG
  by_cases e : s d = 98
  · rw [if_pos e]
    have hp : 0 < wrN s n := by
      rcases Nat.eq_zero_or_pos (wrN s n) with z | z
      · have := cn_zero n z d hd
        rw [decide_eq_true e] at this
        exact absurd this (by decide)
      · exact z
    rw [if_pos hp] at hu
    exact Or.inr ⟨m, by omega, rfl⟩
  · rw [if_neg e]
    rcases h d hd with a | ⟨k, hk, a⟩
    · exact Or.inl a
    · exact Or.inr ⟨k, by omega, a⟩
theorem gb_k {s g a : Nat → Int32} {n m u : Nat} (h : ∀ d, d < n → g d = -1 ∨ ∃ k, k < m ∧ g d = nI k) (hu : u = if 0 < wrN s n then 1 else 0) : ∀ d, d < n → fl (fl (wrG s g m) g n) a n d = -1 ∨ ∃ k, k < m + u ∧ fl (fl (wrG s g m) g n) a n d = nI k := fun d hd => by
  rw [fl_in hd]; exact gb_wr h hu d hd
theorem gb_cr {k g : Nat → Int32} {kd n m : Nat} (h : ∀ d, d < kd → k d = -1 ∨ ∃ j, j < m ∧ k d = nI j) : ∀ d, d < n → fl (crF kd k (-1)) g n d = -1 ∨ ∃ j, j < m ∧ fl (crF kd k (-1)) g n d = nI j := fun d hd => by
  rw [fl_in hd]
  unfold crF
  by_cases e : d < kd
  · rw [if_pos e]; exact h d e
  · rw [if_neg e]; exact Or.inl rfl
theorem m1_leN {n : Nat} (h : n < 2 ^ 31) : (-1 : Int32) ≤ nI n := by
  rw [Int32.le_iff_toInt_le, nI_toInt h, show (-1 : Int32).toInt = -1 by decide]
  omega
theorem m1_nlt {n : Nat} (h : n < 2 ^ 31) : ¬ nI n < (-1 : Int32) := Int32.not_lt.mpr (m1_leN h)
theorem mg_pt {s n2 d : Nat} {st g : Nat → Int32} (hs : s ≤ n2) (hn : n2 ≤ 900) (hb : g d = -1 ∨ ∃ k, k < n2 + 1 + 1 ∧ g d = nI k) : (mgL s st g d = true ∧ mg1 s st g d = nI s ∧ mgA s st g d = nI s) ∨ (mgL s st g d = false ∧ ((mg1 s st g d = -1 ∧ mgA s st g d = -1) ∨ (∃ k, k < s ∧ mg1 s st g d = nI k ∧ mgA s st g d = nI k) ∨ ∃ k, s < k ∧ k < n2 + 1 ∧ mg1 s st g d = nI k ∧ mgA s st g d = nI (k + 1))) := by
  by_cases h : g d = nI s ∨ g d = nI (s + 1)
  · by_cases r : st d = 114
    · exact Or.inr ⟨by unfold mgL; rw [decide_eq_true r]; simp, Or.inl ⟨by unfold mg1; rw [if_pos h, if_pos r], by unfold mgA; rw [if_pos h, if_pos r]⟩⟩
    · refine Or.inl ⟨?_, by unfold mg1; rw [if_pos h, if_neg r], by unfold mgA; rw [if_pos h, if_neg r]⟩
      unfold mgL
      rw [decide_eq_false r]
      rcases h with e | e <;> simp [e]
  · have hL : mgL s st g d = false := by
      unfold mgL
      rw [decide_eq_false (fun e => h (Or.inl e)), decide_eq_false (fun e => h (Or.inr e))]
      rfl
    have hA : mgA s st g d = g d := by unfold mgA; rw [if_neg h]
    have h1 : mg1 s st g d = if g d ≤ nI s then g d else g d - 1 := by unfold mg1; rw [if_neg h]
    refine Or.inr ⟨hL, ?_⟩
    rcases hb with e | ⟨k, hk, e⟩
    · exact Or.inl ⟨by rw [h1, e, if_pos (m1_leN (by omega))], by rw [hA, e]⟩
    · rcases Nat.lt_or_ge k s with hks | hks
      · exact Or.inr (Or.inl ⟨k, hks, by rw [h1, e, if_pos ((nI_leI (by omega) (by omega)).mpr (by omega))], by rw [hA, e]⟩)
      · have n1 : k ≠ s := fun x => h (Or.inl (by rw [e, x]))
        have n3 : k ≠ s + 1 := fun x => h (Or.inr (by rw [e, x]))
        obtain ⟨j, rfl⟩ : ∃ j, k = j + 1 := ⟨k - 1, by omega⟩
        exact Or.inr (Or.inr ⟨j, by omega, by omega, by rw [h1, e, if_neg (fun x => absurd ((nI_leI (by omega) (by omega)).mp x) (by omega)), nI_pred], by rw [hA, e]⟩)
theorem mg_all {sm n2 nd : Nat} {tS tG s g : Nat → Int32} {u : (Nat → Int32) × Nat} (hS : ∀ d, d < nd → tS d = s d) (hG : ∀ d, d < nd → tG d = g d) (hb : ∀ d, d < nd → g d = -1 ∨ ∃ k, k < n2 + 1 + 1 ∧ g d = nI k) (hs : sm ≤ n2) (hn : n2 ≤ 900)
    (hu : (0 < cn (fun d => decide ((fl (mg1 sm s g) g nd) d = (nI sm))) nd ∧ u = (fl (mg1 sm s g) g nd, n2 + 1)) ∨ (cn (fun d => decide ((fl (mg1 sm s g) g nd) d = (nI sm))) nd = 0 ∧ u = (fl (mg2 sm (fl (mg1 sm s g) g nd)) (fl (mg1 sm s g) g nd) nd, n2))) :
    (n2 + 1 + 1) - (if 0 < cn (mgL sm tS tG) nd then 1 else 2) = u.2 ∧ (∀ d, d < nd → (if 0 < cn (mgL sm tS tG) nd then fl (mvF (sm + 1) 1 (fl (mgA sm tS tG) tG nd)) (fl (mgA sm tS tG) tG nd) nd else fl (mvF (sm + 1) 2 (fl (mgA sm tS tG) tG nd)) (fl (mgA sm tS tG) tG nd) nd) d = u.1 d) ∧ (∀ d, d < nd → u.1 d = -1 ∨ ∃ k, k < u.2 ∧ u.1 d = nI k) := by
  have pt := fun d (hd : d < nd) => mg_pt (st := s) hs hn (hb d hd)
  have eL : ∀ d, d < nd → mgL sm tS tG d = mgL sm s g d := fun d hd => by unfold mgL; rw [hS d hd, hG d hd]
  have eA : ∀ d, d < nd → fl (mgA sm tS tG) tG nd d = mgA sm s g d := fun d hd => by rw [fl_in hd]; unfold mgA; rw [hS d hd, hG d hd]
  have hc : cn (mgL sm tS tG) nd = cn (fun d => decide ((fl (mg1 sm s g) g nd) d = (nI sm))) nd := cn_cong nd (fun i hi => by
    rw [eL i hi, fl_in hi]
    rcases pt i hi with ⟨a, b, -⟩ | ⟨a, h⟩
    · rw [a, b, decide_eq_true rfl]
    · rw [a]
      symm
      apply decide_eq_false
      rcases h with ⟨b, -⟩ | ⟨k, hk, b, -⟩ | ⟨k, h1, h2, b, -⟩
      · rw [b]; exact fun e => nI_m1 (n := sm) (by omega) e.symm
      · rw [b]; exact fun e => by have := (nI_eq (a := k) (b := sm) (by omega) (by omega)).mp e; omega
      · rw [b]; exact fun e => by have := (nI_eq (a := k) (b := sm) (by omega) (by omega)).mp e; omega)
  rw [hc]
  rcases hu with ⟨hp, rfl⟩ | ⟨hz, rfl⟩
  · rw [if_pos hp, if_pos hp]
    refine ⟨rfl, fun d hd => ?_, fun d hd => ?_⟩
    · show fl _ _ nd d = fl _ _ nd d
      rw [fl_in hd, fl_in hd]
      unfold mvF
      rw [eA d hd]
      rcases pt d hd with ⟨-, b, c⟩ | ⟨-, ⟨b, c⟩ | ⟨k, hk, b, c⟩ | ⟨k, h1, h2, b, c⟩⟩
      · rw [b, c, if_neg (nI_nlt (by omega) (by omega))]
      · rw [b, c, if_neg (m1_nlt (by omega))]
      · rw [b, c, if_neg (nI_nlt (by omega) (by omega))]
      · rw [b, c, if_pos (nI_lt (by omega) (by omega))]; exact nI_pred k
    · show fl _ _ nd d = -1 ∨ ∃ k, k < n2 + 1 ∧ fl _ _ nd d = nI k
      rw [fl_in hd]
      rcases pt d hd with ⟨-, b, c⟩ | ⟨-, ⟨b, c⟩ | ⟨k, hk, b, c⟩ | ⟨k, h1, h2, b, c⟩⟩
      · exact Or.inr ⟨sm, by omega, b⟩
      · exact Or.inl b
      · exact Or.inr ⟨k, by omega, b⟩
      · exact Or.inr ⟨k, h2, b⟩
  · rw [hz, if_neg (Nat.lt_irrefl 0), if_neg (Nat.lt_irrefl 0)]
    have nol := cn_zero nd hz
    refine ⟨rfl, fun d hd => ?_, fun d hd => ?_⟩
    · show fl _ _ nd d = fl _ _ nd d
      rw [fl_in hd, fl_in hd]
      unfold mvF mg2
      rw [eA d hd, fl_in hd]
      rcases pt d hd with ⟨-, b, c⟩ | ⟨-, ⟨b, c⟩ | ⟨k, hk, b, c⟩ | ⟨k, h1, h2, b, c⟩⟩
      · rw [b, c, if_neg (nI_nlt (by omega) (by omega)), if_pos ((nI_leI (by omega) (by omega)).mpr (by omega))]
      · rw [b, c, if_neg (m1_nlt (by omega)), if_pos (m1_leN (by omega))]
      · rw [b, c, if_neg (nI_nlt (by omega) (by omega)), if_pos ((nI_leI (by omega) (by omega)).mpr (by omega))]
      · rw [b, c, if_pos (nI_lt (by omega) (by omega)), if_neg (fun x => absurd ((nI_leI (by omega) (by omega)).mp x) (by omega))]
        obtain ⟨j, rfl⟩ : ∃ j, k = j + 1 := ⟨k - 1, by omega⟩
        rw [nI_pred]
        exact (pk_sub (a := j + 1 + 1) (b := 2) (by omega)).trans (by rw [show j + 1 + 1 - 2 = j by omega])
    · show fl _ _ nd d = -1 ∨ ∃ k, k < n2 ∧ fl _ _ nd d = nI k
      rw [fl_in hd]
      unfold mg2
      rw [fl_in hd]
      rcases pt d hd with ⟨-, b, c⟩ | ⟨-, ⟨b, c⟩ | ⟨k, hk, b, c⟩ | ⟨k, h1, h2, b, c⟩⟩
      · have := nol d hd
        rw [fl_in hd, b, decide_eq_true rfl] at this
        exact absurd this (by decide)
      · rw [b, if_pos (m1_leN (by omega))]; exact Or.inl rfl
      · rw [b, if_pos ((nI_leI (by omega) (by omega)).mpr (by omega))]; exact Or.inr ⟨k, by omega, rfl⟩
      · rw [b, if_neg (fun x => absurd ((nI_leI (by omega) (by omega)).mp x) (by omega))]
        obtain ⟨j, rfl⟩ : ∃ j, k = j + 1 := ⟨k - 1, by omega⟩
        exact Or.inr ⟨j, by omega, nI_pred j⟩
theorem ag_rP {k g a b : Nat → Int32} {kd : Nat} (h : ∀ q, q < kd → k q = g q) : ∀ d, d < 30 → fl (fun d => bI (decide (k d = 115))) (fl (fun _ => 0) a 30) kd d = fl (fun d => bI (rpB kd g d)) b 30 d := fun d hd => by
  rw [fl_in hd]
  unfold rpB
  by_cases e : d < kd
  · rw [fl_in e, decide_eq_true e, h d e]; rfl
  · rw [fl_out (by omega), fl_in hd, decide_eq_false e]; rfl
theorem ag_rP1 {k b : Nat → Int32} {kd : Nat} : ∀ d, d < 30 → fl (fun d => bI (rpB kd k d)) b 30 d = 0 ∨ fl (fun d => bI (rpB kd k d)) b 30 d = 1 := fun d hd => by
  rw [fl_in hd]
  cases rpB kd k d
  · exact Or.inl rfl
  · exact Or.inr rfl
theorem rp_a {f g : Nat → Int32} {d : Nat} (h : ∀ d, d < 30 → f d = g d) (hd : d < 30) (e : g d = 0) : (if f (nI d).toNatClampNeg = 1 then 1 else 0) = (0 : Int32) := by
  rw [nI_clamp (by omega), h d hd, e]; rfl
theorem rp_b {f g : Nat → Int32} {d : Nat} (h : ∀ d, d < 30 → f d = g d) (h1 : ∀ d, d < 30 → g d = 0 ∨ g d = 1) (hd : d < 30) (e : ¬ g d = 0) : (if f (nI d).toNatClampNeg = 1 then 1 else 0) = (1 : Int32) := by
  rw [nI_clamp (by omega), h d hd, (h1 d hd).resolve_left e]; rfl
theorem ag_va {α : Type} {f g : Nat → α} {n : Nat} {x : α} (h : ∀ q, q < n → f q = g q) : ∀ q, q < n + 1 → va_up f n x q = va_up g n x q := by
  intro q hq
  unfold va_up
  by_cases e : q = n
  · rw [if_pos e, if_pos e]
  · rw [if_neg e, if_neg e]; exact h q (by omega)
theorem gt_cg {a b : TXS} {w p : Nat → Int32} {k x y : Int32} (hk : okStep k x y = true) (h1 : a.1 = b.1) (h2 : ctR a w p) (h3 : ctR b w p) : ∃ w' p', (gtS k x y a).1 = (gtS k x y b).1 ∧ ctR (gtS k x y a) w' p' ∧ ctR (gtS k x y b) w' p' := by
  rcases ok_kinds hk with e | e | e | e | ⟨e, hb⟩
  · subst e
    have x1 := ct_l (a := x) (b := y) h2
    have y1 := ct_l (a := x) (b := y) h3
    rw [← h1] at y1
    exact ⟨_, _, x1.1.trans y1.1.symm, x1.2, y1.2⟩
  · subst e
    have x1 := ct_m (a := x) (b := y) h2
    have y1 := ct_m (a := x) (b := y) h3
    rw [← h1] at y1
    exact ⟨_, _, x1.1.trans y1.1.symm, x1.2, y1.2⟩
  · subst e
    have x1 := ct_s (a := x) (b := y) h2
    have y1 := ct_s (a := x) (b := y) h3
    rw [← h1] at y1
    exact ⟨_, _, x1.1.trans y1.1.symm, x1.2, y1.2⟩
  · subst e
    have x1 := ct_c (a := x) (b := y) h2
    have y1 := ct_c (a := x) (b := y) h3
    rw [← h1] at y1
    exact ⟨_, _, x1.1.trans y1.1.symm, x1.2, y1.2⟩
  · subst e
    have x1 := ct_y (a := x) (b := y) (x := fun _ => 0) h2 hb
    have y1 := ct_y (a := x) (b := y) (x := fun _ => 0) h3 hb
    rw [← h1] at y1
    exact ⟨_, _, x1.1.trans y1.1.symm, x1.2, y1.2⟩
theorem st_cg {K A B K' A' B' : Nat → Int32} {s t : TXS} {n : Nat} (hK : ∀ j, j < n → K j = K' j) (hA : ∀ j, j < n → A j = A' j) (hB : ∀ j, j < n → B j = B' j) (ok : ∀ j, j < n → okStep (K j) (A j) (B j) = true) (h0 : ∃ w p, s.1 = t.1 ∧ ctR s w p ∧ ctR t w p) : ∀ k, k ≤ n → ∃ w p, (stS K A B s k).1 = (stS K' A' B' t k).1 ∧ ctR (stS K A B s k) w p ∧ ctR (stS K' A' B' t k) w p
  | 0, _ => h0
  | k + 1, hk => by
    obtain ⟨w, p, h1, h2, h3⟩ := st_cg hK hA hB ok h0 k (by omega)
    unfold stS
    rw [← hK k (by omega), ← hA k (by omega), ← hB k (by omega)]
    exact gt_cg (ok k (by omega)) h1 h2 h3
theorem tx_cl {SK SA SB K A B f9 tw tp tx W0 P0 W P : Nat → Int32} {nn ns ow : Nat} (hK : ∀ j, j < ns → SK j = K j) (hA : ∀ j, j < ns → SA j = A j) (hB : ∀ j, j < ns → SB j = B j) (ok : ∀ j, j < ns → okStep (SK j) (SA j) (SB j) = true) (ho : ∀ j, j < nn → P0 j = nI j ∧ okW (W0 j) = true) (hn : nn = ow) (hw : ∀ j, j < ow → W0 j = f9 j) (hc : ctR (stS SK SA SB (nn, W0, fl nI P0 nn, fl nI (fun _ => 0) nn) ns) W P) :
    (stS SK SA SB (nn, W0, fl nI P0 nn, fl nI (fun _ => 0) nn) ns).1 = (stS K A B (ow, fl f9 tw ow, fl nI tp ow, fl nI tx ow) ns).1 ∧ (∀ j, j < (stS K A B (ow, fl f9 tw ow, fl nI tp ow, fl nI tx ow) ns).1 → W j = (stS K A B (ow, fl f9 tw ow, fl nI tp ow, fl nI tx ow) ns).2.1 j) ∧ (∀ j, j < (stS K A B (ow, fl f9 tw ow, fl nI tp ow, fl nI tx ow) ns).1 → P j = (stS K A B (ow, fl f9 tw ow, fl nI tp ow, fl nI tx ow) ns).2.2.1 j) := by
  subst hn
  have h2 : ctR (nn, fl f9 tw nn, fl nI tp nn, fl nI tx nn) W0 P0 := fun j hj => ⟨(fl_in hj).trans (hw j hj).symm, (fl_in hj).trans (ho j hj).1.symm, (ho j hj).2⟩
  obtain ⟨w, p, e1, e2, e3⟩ := st_cg (s := (nn, W0, fl nI P0 nn, fl nI (fun _ => 0) nn)) (K' := K) (A' := A) (B' := B) (t := (nn, fl f9 tw nn, fl nI tp nn, fl nI tx nn)) hK hA hB ok ⟨W0, P0, rfl, ct_0 ho, h2⟩ ns (Nat.le_refl ns)
  refine ⟨e1, fun j hj => ?_, fun j hj => ?_⟩
  · have hj2 := e1 ▸ hj
    exact (hc j hj2).1.symm.trans ((e2 j hj2).1.trans (e3 j hj).1.symm)
  · have hj2 := e1 ▸ hj
    exact (hc j hj2).2.1.symm.trans ((e2 j hj2).2.1.trans (e3 j hj).2.1.symm)
theorem ag_lt2 {f : Nat → Nat → Int32} {g : Nat → Int32} {L : Nat → Nat} {n : Nat} {x : Nat → Int32} (h : ∀ d, d < n → ∀ j, j < L d → f d j = g (96 * d + j)) : ∀ d, d < n → ∀ j, j < L d → va_up f n x d j = g (96 * d + j) := fun d hd j hj => by
  rw [va_up_ne _ _ (Nat.ne_of_lt hd)]; exact h d hd j hj
theorem tx_up {f : Nat → Nat → Int32} {g φ W : Nat → Int32} {L : Nat → Nat} {n N : Nat} (h : ∀ d, d < n → ∀ j, j < L d → f d j = g (96 * d + j)) (hL : ∀ e, e < n → L e ≤ 96) (hw : ∀ j, j < N → W j = φ j) : ∀ d, d < n + 1 → ∀ j, j < va_up L n N d → va_up f n W d j = flo φ g (96 * n) N (96 * d + j) := by
  intro d hd j hj
  unfold flo
  by_cases e : d = n
  · subst e
    rw [va_up_self] at hj ⊢
    rw [if_pos ⟨by omega, by omega⟩, Nat.add_sub_cancel_left]
    exact hw j hj
  · rw [va_up_ne _ _ e] at hj ⊢
    have := hL d (by omega)
    rw [if_neg (by omega)]
    exact h d (by omega) j hj
theorem sat_cg {w p w' p' : Nat → Int32} {a t : Int32} : ∀ n, (∀ j, j < n → w j = w' j ∧ p j = p' j) → sat w p a t n = sat w' p' a t n
  | 0, _ => rfl
  | n + 1, h => by
    unfold sat
    rw [sat_cg n (fun j hj => h j (by omega)), (h n (by omega)).1, (h n (by omega)).2]
theorem vw_i {f g : Nat → Int32} {n s a : Nat} {p : Int32} (h1 : ∀ j, j < n → f j = g j) (hi : ∀ i j, i < n → j < n → g i = g j → i = j) (hs : s < n) (e : f s = p) (ha : a < n) (e2 : g a = p) : s = a := hi s a hs ha ((h1 s hs).symm.trans (e.trans e2.symm))
theorem vw_c {f g : Nat → Int32} {vc c : Nat → Nat} {n s a : Nat} {p : Int32} (h1 : ∀ j, j < n → f j = g j) (hi : ∀ i j, i < n → j < n → g i = g j → i = j) (hv : ∀ j, j < n → vc j = c j) (hs : s < n) (e : f s = p) (ha : a < n) (e2 : g a = p) : nI (vc s) = nI (c a) := by
  rw [vw_i h1 hi hs e ha e2, hv a ha]
theorem rs_A {f g : Nat → Int32} {n : Nat} (h : ∀ d, d < n → f d = g d) : cn (fun d => !decide (f d = -1)) n = cn (fun d => !decide (g d = -1)) n := cn_cong n (fun d hd => by rw [h d hd])
theorem rs_R {s t f g : Nat → Int32} {n : Nat} (hs : ∀ d, d < n → s d = t d) (h : ∀ d, d < n → f d = g d) : cn (fun d => !decide (f d = -1) && decide (s d = 114)) n = cn (fun d => !decide (g d = -1) && decide (t d = 114)) n := cn_cong n (fun d hd => by rw [h d hd, hs d hd])
theorem cn_cut {p q : Nat → Bool} {kd : Nat} (h1 : ∀ d, d < kd → p d = q d) (h2 : ∀ d, kd ≤ d → p d = false) : ∀ n, kd ≤ n → cn p n = cn q kd
  | 0, h => by rw [show kd = 0 by omega]; rfl
  | n + 1, h => by
    by_cases e : kd = n + 1
    · rw [← e]; exact cn_cong kd h1
    · have h3 := cn_cut h1 h2 n (by omega)
      show cn p n + _ = _
      rw [h3, h2 n (by omega)]
      rfl
theorem vc_up {vc : Nat → Nat} {g s t : Nat → Int32} {nv nd : Nat} (h : ∀ j, j < nv → vc j = cn (fun d => !decide (g (30 * j + d) = 0)) 30) (hS : ∀ d, d < nd → s d = t d) (hn : nd ≤ 30) : ∀ j, j < nv + 1 → va_up vc nv (cn (fun d => decide (s d = 115)) nd) j = cn (fun d => !decide (flo (fun d => bI (decide (d < nd) && decide (t d = 115))) g (30 * nv) 30 (30 * j + d) = 0)) 30 := by
  intro j hj
  by_cases e : j = nv
  · subst e
    rw [va_up_self]
    have e1 : cn (fun d => !decide (flo (fun d => bI (decide (d < nd) && decide (t d = 115))) g (30 * j) 30 (30 * j + d) = 0)) 30 = cn (fun d => decide (d < nd) && decide (t d = 115)) 30 := cn_cong 30 (fun d hd => by
      unfold flo
      rw [if_pos ⟨by omega, by omega⟩, Nat.add_sub_cancel_left]
      show (!decide (bI (decide (d < nd) && decide (t d = 115)) = 0)) = (decide (d < nd) && decide (t d = 115))
      cases (decide (d < nd) && decide (t d = 115)) <;> rfl)
    rw [e1]
    exact (cn_cut (p := fun d => decide (d < nd) && decide (t d = 115)) (q := fun d => decide (s d = 115)) (fun d hd => by show (decide (d < nd) && decide (t d = 115)) = decide (s d = 115); rw [decide_eq_true hd, hS d hd]; rfl) (fun d hd => by show (decide (d < nd) && decide (t d = 115)) = false; rw [decide_eq_false (show ¬ d < nd by omega)]; rfl) 30 hn).symm
  · rw [va_up_ne _ _ e, h j (by omega)]
    refine cn_cong 30 (fun d hd => ?_)
    unfold flo
    rw [if_neg (by omega)]
theorem vc_cl {vc : Nat → Nat} {g : Nat → Int32} {a n : Nat} (h : ∀ j, j < n + 1 → vc j = cn (fun d => !decide (g (30 * j + d) = 0)) 30) (ha : a < n + 1) : ∀ j, j < n → vc (rmI a j) = cn (fun d => !decide (shN g (30 * a) (30 * n + 0) 30 (30 * j + d) = 0)) 30 := by
  intro j hj
  rw [h _ (by unfold rmI; split <;> omega)]
  refine cn_cong 30 (fun d hd => ?_)
  unfold shN rmI
  by_cases e : j < a
  · rw [if_pos e, if_neg (by omega)]
  · rw [if_neg e, if_pos (by omega), show 30 * (j + 1) + d = 30 * j + d + 30 by omega]
theorem ag_WT {f : Nat → Nat} {g : Nat → Int32} {n x : Nat} {y : Int32} (h : ∀ q, q < n → nI (f q) = g q) (hx : nI x = y) : ∀ q, q < n + 1 → nI (va_up f n x q) = upd g n y q := by
  intro q hq
  unfold va_up upd
  by_cases e : q = n
  · rw [if_pos e, if_pos e]; exact hx
  · rw [if_neg e, if_neg e]; exact h q (by omega)
theorem tg_cl {f g : Nat → Int32} {n : Nat} {x : Int32} (h : ∀ d, d < n → f d = g d) (h0 : f n = x) : ∀ d, d < n + 1 → f d = upd g n x d := by
  intro d hd
  unfold upd
  by_cases e : d = n
  · rw [if_pos e, e]; exact h0
  · rw [if_neg e]; exact h d (by omega)
theorem vp_up {vp : Nat → Nat → Int32} {g s t : Nat → Int32} {nv nd : Nat} (h : ∀ j, j < nv → ∀ d, d < 30 → (vp j d = 1 ↔ ¬ g (30 * j + d) = 0)) (hS : ∀ d, d < nd → s d = t d) (hn : nd ≤ 30) : ∀ j, j < nv + 1 → ∀ d, d < 30 → (va_up vp nv (fl (fun d => bI (decide (s d = 115))) (fl (fun _ => 0) (fun _ => 0) 30) nd) j d = 1 ↔ ¬ flo (fun d => bI (decide (d < nd) && decide (t d = 115))) g (30 * nv) 30 (30 * j + d) = 0) := by
  intro j hj d hd
  by_cases e : j = nv
  · subst e
    rw [va_up_self]
    unfold flo
    rw [if_pos ⟨by omega, by omega⟩, Nat.add_sub_cancel_left]
    by_cases x : d < nd
    · rw [fl_in x]
      show bI (decide (s d = 115)) = 1 ↔ ¬ bI (decide (d < nd) && decide (t d = 115)) = 0
      rw [decide_eq_true x, hS d x]
      cases decide (t d = 115) <;> decide
    · rw [fl_out (by omega), fl_in hd]
      show (0 : Int32) = 1 ↔ ¬ bI (decide (d < nd) && decide (t d = 115)) = 0
      rw [decide_eq_false x]
      cases decide (t d = 115) <;> decide
  · rw [va_up_ne _ _ e]
    unfold flo
    rw [if_neg (by omega)]
    exact h j (by omega) d hd
theorem rm_off {a n j d : Nat} {g : Nat → Int32} (ha : a < n + 1) (hj : j < n) (hd : d < 30) : shN g (30 * a) (30 * n + 0) 30 (30 * j + d) = g (30 * rmI a j + d) := by
  unfold shN rmI
  by_cases e : j < a
  · rw [if_pos e, if_neg (by omega)]
  · rw [if_neg e, if_pos (by omega), show 30 * (j + 1) + d = 30 * j + d + 30 by omega]
theorem vp_cl {vp : Nat → Nat → Int32} {g : Nat → Int32} {a n : Nat} (h : ∀ j, j < n + 1 → ∀ d, d < 30 → (vp j d = 1 ↔ ¬ g (30 * j + d) = 0)) (ha : a < n + 1) : ∀ j, j < n → ∀ d, d < 30 → (vp (rmI a j) d = 1 ↔ ¬ shN g (30 * a) (30 * n + 0) 30 (30 * j + d) = 0) := by
  intro j hj d hd
  rw [rm_off ha hj hd]
  exact h _ (by unfold rmI; split <;> omega) d hd
theorem vd_up {g t : Nat → Int32} {nv nd : Nat} (h : ∀ j, j < nv → ∀ d, d < 30 → nd ≤ d → g (30 * j + d) = 0) : ∀ j, j < nv + 1 → ∀ d, d < 30 → nd ≤ d → flo (fun d => bI (decide (d < nd) && decide (t d = 115))) g (30 * nv) 30 (30 * j + d) = 0 := by
  intro j hj d hd h9
  unfold flo
  by_cases e : j = nv
  · subst e
    rw [if_pos ⟨by omega, by omega⟩, Nat.add_sub_cancel_left]
    show bI (decide (d < nd) && decide (t d = 115)) = 0
    rw [decide_eq_false (by omega)]
    rfl
  · rw [if_neg (by omega)]
    exact h j (by omega) d hd h9
theorem vd_cl {g : Nat → Int32} {a n nd : Nat} (h : ∀ j, j < n + 1 → ∀ d, d < 30 → nd ≤ d → g (30 * j + d) = 0) (ha : a < n + 1) : ∀ j, j < n → ∀ d, d < 30 → nd ≤ d → shN g (30 * a) (30 * n + 0) 30 (30 * j + d) = 0 := by
  intro j hj d hd h9
  rw [rm_off ha hj hd]
  exact h _ (by unfold rmI; split <;> omega) d hd h9
theorem fo_cn {k g : Nat → Int32} {kd : Nat} (h : ∀ q, q < kd → k q = g q) (hk : kd ≤ 30) : cn (fun d => decide (k d = 115)) kd = cn (rpB kd g) 30 :=
  (cn_cut (p := rpB kd g) (q := fun d => decide (k d = 115)) (fun d hd => by show rpB kd g d = decide (k d = 115); unfold rpB; rw [decide_eq_true hd, h d hd]; rfl) (fun d hd => by unfold rpB; rw [decide_eq_false (show ¬ d < kd by omega)]; rfl) 30 hk).symm
set_option maxHeartbeats 4000000 in
set_option maxRecDepth 100000 in
theorem h_scoreAlone_1a9 (l : Launch) (D : va_G) (dA : Nat → ClassId) (E : Nat) (b : Nat → Nat) (I : Nat → Int32) (F : Nat → Nat → Int32) (LN : Nat → Nat) (nd nv : Nat) (p0 p1 : Int32) (a d : Nat)  (sz : Nat) (hendd : I 10 = nI nd) (hendd9 : nd ≤ 30) (henv : I 27 = nI nv) (henv9 : nv ≤ 4) (hnv : nv ≤ 4) (hva : vaF (F 29) p0 nv = nI a) (ha : a < nv) (hd : d < nd)  (hsvd : (svF F a d) = false) : Met l yX9_scoreAlone (wq (.code yX9_scoreAlone cX9_scoreAlone 4 (some .long))) { frames := 3, cells := 0, slots := 0, locals := 65 } (va_Pc [.ref (b 0), .int p0, .int p1, .int (nI d)] (PcB D dA E [(b 0, .inr (12, [.int (I 0), .int (I 1), .ref (b 2), .ref (b 3), .ref (b 4), .int (I 5), .int (I 6), .int (I 7), .int (I 8), .ref (b 9), .int (I 10), .ref (b 11), .ref (b 12), .ref (b 13), .ref (b 14), .ref (b 15), .ref (b 16), .ref (b 17), .ref (b 18), .int (I 19), .ref (b 20), .int (I 21), .int (I 22), .int (I 23), .ref (b 24), .ref (b 25), .ref (b 26), .int (I 27), .int (I 28), .ref (b 29), .ref (b 30), .int (I 31), .ref (b 32), .ref (b 33), .ref (b 34), .ref (b 35), .ref (b 36), .ref (b 37), .int (I 38), .int (I 39), .ref (b 40), .ref (b 41), .ref (b 42), .ref (b 43), .ref (b 44), .int (I 45), .ref (b 46), .ref (b 47), .ref (b 48)])), (b 29, .inl (dA 0, 4, .inl (F 29))), (b 30, .inl (dA 2, 120, .inl (F 30)))] sz)) (va_Ql (fun (r : Int64) (u : Unit) => r = 0) (fun u t => va_P D vwCl [(b 0, .inr (12, [.int 1, .int (I 1), .ref (b 2), .ref (b 3), .ref (b 4), .int (I 5), .int (I 6), .int (I 7), .int (I 8), .ref (b 9), .int (I 10), .ref (b 11), .ref (b 12), .ref (b 13), .ref (b 14), .ref (b 15), .ref (b 16), .ref (b 17), .ref (b 18), .int (I 19), .ref (b 20), .int (I 21), .int (I 22), .int (I 23), .ref (b 24), .ref (b 25), .ref (b 26), .int (I 27), .int (I 28), .ref (b 29), .ref (b 30), .int (I 31), .ref (b 32), .ref (b 33), .ref (b 34), .ref (b 35), .ref (b 36), .ref (b 37), .int (I 38), .int (I 39), .ref (b 40), .ref (b 41), .ref (b 42), .ref (b 43), .ref (b 44), .int (I 45), .ref (b 46), .ref (b 47), .ref (b 48)])), (b 29, .inl (dA 0, 4, .inl (F 29))), (b 30, .inl (dA 2, 120, .inl (F 30)))] t.heap ∧ va_D (va_A [(b 0, .inr (12, [.int (I 0), .int (I 1), .ref (b 2), .ref (b 3), .ref (b 4), .int (I 5), .int (I 6), .int (I 7), .int (I 8), .ref (b 9), .int (I 10), .ref (b 11), .ref (b 12), .ref (b 13), .ref (b 14), .ref (b 15), .ref (b 16), .ref (b 17), .ref (b 18), .int (I 19), .ref (b 20), .int (I 21), .int (I 22), .int (I 23), .ref (b 24), .ref (b 25), .ref (b 26), .int (I 27), .int (I 28), .ref (b 29), .ref (b 30), .int (I 31), .ref (b 32), .ref (b 33), .ref (b 34), .ref (b 35), .ref (b 36), .ref (b 37), .int (I 38), .int (I 39), .ref (b 40), .ref (b 41), .ref (b 42), .ref (b 43), .ref (b 44), .int (I 45), .ref (b 46), .ref (b 47), .ref (b 48)])), (b 29, .inl (dA 0, 4, .inl (F 29))), (b 30, .inl (dA 2, 120, .inl (F 30)))] sz) [(b 0, .inr (12, [.int 1, .int (I 1), .ref (b 2), .ref (b 3), .ref (b 4), .int (I 5), .int (I 6), .int (I 7), .int (I 8), .ref (b 9), .int (I 10), .ref (b 11), .ref (b 12), .ref (b 13), .ref (b 14), .ref (b 15), .ref (b 16), .ref (b 17), .ref (b 18), .int (I 19), .ref (b 20), .int (I 21), .int (I 22), .int (I 23), .ref (b 24), .ref (b 25), .ref (b 26), .int (I 27), .int (I 28), .ref (b 29), .ref (b 30), .int (I 31), .ref (b 32), .ref (b 33), .ref (b 34), .ref (b 35), .ref (b 36), .ref (b 37), .int (I 38), .int (I 39), .ref (b 40), .ref (b 41), .ref (b 42), .ref (b 43), .ref (b 44), .int (I 45), .ref (b 46), .ref (b 47), .ref (b 48)])), (b 29, .inl (dA 0, 4, .inl (F 29))), (b 30, .inl (dA 2, 120, .inl (F 30)))]) (va_A [(b 0, .inr (12, [.int (I 0), .int (I 1), .ref (b 2), .ref (b 3), .ref (b 4), .int (I 5), .int (I 6), .int (I 7), .int (I 8), .ref (b 9), .int (I 10), .ref (b 11), .ref (b 12), .ref (b 13), .ref (b 14), .ref (b 15), .ref (b 16), .ref (b 17), .ref (b 18), .int (I 19), .ref (b 20), .int (I 21), .int (I 22), .int (I 23), .ref (b 24), .ref (b 25), .ref (b 26), .int (I 27), .int (I 28), .ref (b 29), .ref (b 30), .int (I 31), .ref (b 32), .ref (b 33), .ref (b 34), .ref (b 35), .ref (b 36), .ref (b 37), .int (I 38), .int (I 39), .ref (b 40), .ref (b 41), .ref (b 42), .ref (b 43), .ref (b 44), .int (I 45), .ref (b 46), .ref (b 47), .ref (b 48)])), (b 29, .inl (dA 0, 4, .inl (F 29))), (b 30, .inl (dA 2, 120, .inl (F 30)))] sz)) 0 0 (va_A [(b 0, .inr (12, [.int (I 0), .int (I 1), .ref (b 2), .ref (b 3), .ref (b 4), .int (I 5), .int (I 6), .int (I 7), .int (I 8), .ref (b 9), .int (I 10), .ref (b 11), .ref (b 12), .ref (b 13), .ref (b 14), .ref (b 15), .ref (b 16), .ref (b 17), .ref (b 18), .int (I 19), .ref (b 20), .int (I 21), .int (I 22), .int (I 23), .ref (b 24), .ref (b 25), .ref (b 26), .int (I 27), .int (I 28), .ref (b 29), .ref (b 30), .int (I 31), .ref (b 32), .ref (b 33), .ref (b 34), .ref (b 35), .ref (b 36), .ref (b 37), .int (I 38), .int (I 39), .ref (b 40), .ref (b 41), .ref (b 42), .ref (b 43), .ref (b 44), .int (I 45), .ref (b 46), .ref (b 47), .ref (b 48)])), (b 29, .inl (dA 0, 4, .inl (F 29))), (b 30, .inl (dA 2, 120, .inl (F 30)))] sz) := by
  refine mb_of (y := yX9_scoreAlone) (av := [.ref (b 0), .int p0, .int p1, .int (nI d)]) (maxL := 4) (Qc := fun A => va_Ql (fun (r : Int64) (u : Unit) => r = 0) (fun u t => va_P D vwCl [(b 0, .inr (12, [.int 1, .int (I 1), .ref (b 2), .ref (b 3), .ref (b 4), .int (I 5), .int (I 6), .int (I 7), .int (I 8), .ref (b 9), .int (I 10), .ref (b 11), .ref (b 12), .ref (b 13), .ref (b 14), .ref (b 15), .ref (b 16), .ref (b 17), .ref (b 18), .int (I 19), .ref (b 20), .int (I 21), .int (I 22), .int (I 23), .ref (b 24), .ref (b 25), .ref (b 26), .int (I 27), .int (I 28), .ref (b 29), .ref (b 30), .int (I 31), .ref (b 32), .ref (b 33), .ref (b 34), .ref (b 35), .ref (b 36), .ref (b 37), .int (I 38), .int (I 39), .ref (b 40), .ref (b 41), .ref (b 42), .ref (b 43), .ref (b 44), .int (I 45), .ref (b 46), .ref (b 47), .ref (b 48)])), (b 29, .inl (dA 0, 4, .inl (F 29))), (b 30, .inl (dA 2, 120, .inl (F 30)))] t.heap ∧ va_D A [(b 0, .inr (12, [.int 1, .int (I 1), .ref (b 2), .ref (b 3), .ref (b 4), .int (I 5), .int (I 6), .int (I 7), .int (I 8), .ref (b 9), .int (I 10), .ref (b 11), .ref (b 12), .ref (b 13), .ref (b 14), .ref (b 15), .ref (b 16), .ref (b 17), .ref (b 18), .int (I 19), .ref (b 20), .int (I 21), .int (I 22), .int (I 23), .ref (b 24), .ref (b 25), .ref (b 26), .int (I 27), .int (I 28), .ref (b 29), .ref (b 30), .int (I 31), .ref (b 32), .ref (b 33), .ref (b 34), .ref (b 35), .ref (b 36), .ref (b 37), .int (I 38), .int (I 39), .ref (b 40), .ref (b 41), .ref (b 42), .ref (b 43), .ref (b 44), .int (I 45), .ref (b 46), .ref (b 47), .ref (b 48)])), (b 29, .inl (dA 0, 4, .inl (F 29))), (b 30, .inl (dA 2, 120, .inl (F 30)))]) A) RX9 rfl (by decide) (Nat.le_of_ble_eq_true rfl) ?_
  intro p e s m args below meth c hae hx hb hr hts hown hlocks hml hnm hP hK A hAe hD hZ hS hA ls hl
  replace hl : lv_has ls 4 [(0, .ref (b 0)), (1, .int p0), (2, .int p1), (3, .int (nI d))] := hl
  have hdn : (inR 0 (nI nd - 1) (nI d)) = true := inT (by omega) hd
  refine lv_aload_n hx hb dX9_scoreAlone_0 rfl (lv_at hl 0 rfl) ?_
  refine lv_aload_n hx hb dX9_scoreAlone_1 rfl (lv_at hl 0 rfl) ?_
  refine lv_iload_n hx hb dX9_scoreAlone_2 rfl (lv_at hl 1 rfl) ?_
  refine lv_iload_n hx hb dX9_scoreAlone_3 rfl (lv_at hl 3 rfl) ?_
  replace hPc := hP.sub (ws' := [(b 0, .inr (12, [.int (I 0), .int (I 1), .ref (b 2), .ref (b 3), .ref (b 4), .int (I 5), .int (I 6), .int (I 7), .int (I 8), .ref (b 9), .int (I 10), .ref (b 11), .ref (b 12), .ref (b 13), .ref (b 14), .ref (b 15), .ref (b 16), .ref (b 17), .ref (b 18), .int (I 19), .ref (b 20), .int (I 21), .int (I 22), .int (I 23), .ref (b 24), .ref (b 25), .ref (b 26), .int (I 27), .int (I 28), .ref (b 29), .ref (b 30), .int (I 31), .ref (b 32), .ref (b 33), .ref (b 34), .ref (b 35), .ref (b 36), .ref (b 37), .int (I 38), .int (I 39), .ref (b 40), .ref (b 41), .ref (b 42), .ref (b 43), .ref (b 44), .int (I 45), .ref (b 46), .ref (b 47), .ref (b 48)])), (b 29, .inl (dA 0, 4, .inl (F 29))), (b 30, .inl (dA 2, 120, .inl (F 30)))]) [0, 1, 2] rfl
  replace hDc := hD.sub (ws' := [(b 0, .inr (12, [.int (I 0), .int (I 1), .ref (b 2), .ref (b 3), .ref (b 4), .int (I 5), .int (I 6), .int (I 7), .int (I 8), .ref (b 9), .int (I 10), .ref (b 11), .ref (b 12), .ref (b 13), .ref (b 14), .ref (b 15), .ref (b 16), .ref (b 17), .ref (b 18), .int (I 19), .ref (b 20), .int (I 21), .int (I 22), .int (I 23), .ref (b 24), .ref (b 25), .ref (b 26), .int (I 27), .int (I 28), .ref (b 29), .ref (b 30), .int (I 31), .ref (b 32), .ref (b 33), .ref (b 34), .ref (b 35), .ref (b 36), .ref (b 37), .int (I 38), .int (I 39), .ref (b 40), .ref (b 41), .ref (b 42), .ref (b 43), .ref (b 44), .int (I 45), .ref (b 46), .ref (b 47), .ref (b 48)])), (b 29, .inl (dA 0, 4, .inl (F 29))), (b 30, .inl (dA 2, 120, .inl (F 30)))]) [0, 1, 2] (by decide) rfl
  replace hFc := va_free (wc := [(b 0, .inr (12, [.int (I 0), .int (I 1), .ref (b 2), .ref (b 3), .ref (b 4), .int (I 5), .int (I 6), .int (I 7), .int (I 8), .ref (b 9), .int (I 10), .ref (b 11), .ref (b 12), .ref (b 13), .ref (b 14), .ref (b 15), .ref (b 16), .ref (b 17), .ref (b 18), .int (I 19), .ref (b 20), .int (I 21), .int (I 22), .int (I 23), .ref (b 24), .ref (b 25), .ref (b 26), .int (I 27), .int (I 28), .ref (b 29), .ref (b 30), .int (I 31), .ref (b 32), .ref (b 33), .ref (b 34), .ref (b 35), .ref (b 36), .ref (b 37), .int (I 38), .int (I 39), .ref (b 40), .ref (b 41), .ref (b 42), .ref (b 43), .ref (b 44), .int (I 45), .ref (b 46), .ref (b 47), .ref (b 48)])), (b 29, .inl (dA 0, 4, .inl (F 29))), (b 30, .inl (dA 2, 120, .inl (F 30)))]) hD hS hA [0, 1, 2] rfl
  refine va_calli (va_runV (As := [.int p0, .int (nI d)]) (rest := [.ref (b 0)]) ⟨hx, hb, hml, hown, hts⟩ (h_isIn_0 l D dA E b I F LN nd nv p0 a d s.heap.size  hendd (by omega) henv (by omega) hnv hva ha (by omega)) (cwV 2 hts (ga_V q188 q189 q186 q14 q187) rfl rfl rfl (by decide +kernel) ⟨(Nat.le_of_ble_eq_true rfl), (Nat.le_of_ble_eq_true rfl)⟩) ⟨pb_blind, va_recv hK hPc (ci := 12) (q0 := 0) rfl rfl, pb_pre hK hPc hDc hZ hS hFc _⟩ rfl rfl hl.1 rfl (lv_room (Nat.le_of_ble_eq_true rfl)) dX9_scoreAlone_4 ⟨(Nat.le_of_ble_eq_true rfl), (Nat.le_of_ble_eq_true rfl)⟩) hS (fun q _ h => hFc q h) hFc (fun r u t H1 locs ht hvm hw hB hz1 hk1 hS => ?_)
  refine W.widen (k := 0) (n := 0) (Nat.le_of_ble_eq_true rfl) (Nat.le_of_ble_eq_true rfl) ?_
  obtain ⟨r1, rfl⟩ : ∃ z, z = r := ⟨_, rfl⟩
  obtain ⟨u2, rfl⟩ : ∃ z, z = u := ⟨_, rfl⟩
  have hw3 := hw
  clear hw
  obtain ⟨hP1, hD1⟩ := hB
  rw [ht] at hP1
  obtain ⟨hP, hD⟩ := va_join (wr := []) (w1 := [(b 0, .inr (12, [.int (I 0), .int (I 1), .ref (b 2), .ref (b 3), .ref (b 4), .int (I 5), .int (I 6), .int (I 7), .int (I 8), .ref (b 9), .int (I 10), .ref (b 11), .ref (b 12), .ref (b 13), .ref (b 14), .ref (b 15), .ref (b 16), .ref (b 17), .ref (b 18), .int (I 19), .ref (b 20), .int (I 21), .int (I 22), .int (I 23), .ref (b 24), .ref (b 25), .ref (b 26), .int (I 27), .int (I 28), .ref (b 29), .ref (b 30), .int (I 31), .ref (b 32), .ref (b 33), .ref (b 34), .ref (b 35), .ref (b 36), .ref (b 37), .int (I 38), .int (I 39), .ref (b 40), .ref (b 41), .ref (b 42), .ref (b 43), .ref (b 44), .int (I 45), .ref (b 46), .ref (b 47), .ref (b 48)])), (b 29, .inl (dA 0, 4, .inl (F 29))), (b 30, .inl (dA 2, 120, .inl (F 30)))]) hP hD [0, 1, 2] [] rfl rfl (by decide) (by decide) hk1 hFc hP1 hD1
  generalize H1 = H at hP hS ⊢
  replace hP : va_P D vwCl [(b 0, .inr (12, [.int (I 0), .int (I 1), .ref (b 2), .ref (b 3), .ref (b 4), .int (I 5), .int (I 6), .int (I 7), .int (I 8), .ref (b 9), .int (I 10), .ref (b 11), .ref (b 12), .ref (b 13), .ref (b 14), .ref (b 15), .ref (b 16), .ref (b 17), .ref (b 18), .int (I 19), .ref (b 20), .int (I 21), .int (I 22), .int (I 23), .ref (b 24), .ref (b 25), .ref (b 26), .int (I 27), .int (I 28), .ref (b 29), .ref (b 30), .int (I 31), .ref (b 32), .ref (b 33), .ref (b 34), .ref (b 35), .ref (b 36), .ref (b 37), .int (I 38), .int (I 39), .ref (b 40), .ref (b 41), .ref (b 42), .ref (b 43), .ref (b 44), .int (I 45), .ref (b 46), .ref (b 47), .ref (b 48)])), (b 29, .inl (dA 0, 4, .inl (F 29))), (b 30, .inl (dA 2, 120, .inl (F 30)))] H := hP
  replace hD : va_D A [(b 0, .inr (12, [.int (I 0), .int (I 1), .ref (b 2), .ref (b 3), .ref (b 4), .int (I 5), .int (I 6), .int (I 7), .int (I 8), .ref (b 9), .int (I 10), .ref (b 11), .ref (b 12), .ref (b 13), .ref (b 14), .ref (b 15), .ref (b 16), .ref (b 17), .ref (b 18), .int (I 19), .ref (b 20), .int (I 21), .int (I 22), .int (I 23), .ref (b 24), .ref (b 25), .ref (b 26), .int (I 27), .int (I 28), .ref (b 29), .ref (b 30), .int (I 31), .ref (b 32), .ref (b 33), .ref (b 34), .ref (b 35), .ref (b 36), .ref (b 37), .int (I 38), .int (I 39), .ref (b 40), .ref (b 41), .ref (b 42), .ref (b 43), .ref (b 44), .int (I 45), .ref (b 46), .ref (b 47), .ref (b 48)])), (b 29, .inl (dA 0, 4, .inl (F 29))), (b 30, .inl (dA 2, 120, .inl (F 30)))] := hD
  obtain rfl : r1 = 0 := hw3.trans (by rw [hsvd]; rfl)
  refine lv_if_eq (tgt := 22) hx hb dX9_scoreAlone_7 (by decide) (fun _ => ?_) (fun c4 => absurd (by decide) c4)
  refine lv_iconst (v := 1) hx hb dX9_scoreAlone_22 (by decide) ?_
  replace hPc := hP.sub (ws' := [(b 0, .inr (12, [.int (I 0), .int (I 1), .ref (b 2), .ref (b 3), .ref (b 4), .int (I 5), .int (I 6), .int (I 7), .int (I 8), .ref (b 9), .int (I 10), .ref (b 11), .ref (b 12), .ref (b 13), .ref (b 14), .ref (b 15), .ref (b 16), .ref (b 17), .ref (b 18), .int (I 19), .ref (b 20), .int (I 21), .int (I 22), .int (I 23), .ref (b 24), .ref (b 25), .ref (b 26), .int (I 27), .int (I 28), .ref (b 29), .ref (b 30), .int (I 31), .ref (b 32), .ref (b 33), .ref (b 34), .ref (b 35), .ref (b 36), .ref (b 37), .int (I 38), .int (I 39), .ref (b 40), .ref (b 41), .ref (b 42), .ref (b 43), .ref (b 44), .int (I 45), .ref (b 46), .ref (b 47), .ref (b 48)]))]) [0] rfl
  replace hDc := hD.sub (ws' := [(b 0, .inr (12, [.int (I 0), .int (I 1), .ref (b 2), .ref (b 3), .ref (b 4), .int (I 5), .int (I 6), .int (I 7), .int (I 8), .ref (b 9), .int (I 10), .ref (b 11), .ref (b 12), .ref (b 13), .ref (b 14), .ref (b 15), .ref (b 16), .ref (b 17), .ref (b 18), .int (I 19), .ref (b 20), .int (I 21), .int (I 22), .int (I 23), .ref (b 24), .ref (b 25), .ref (b 26), .int (I 27), .int (I 28), .ref (b 29), .ref (b 30), .int (I 31), .ref (b 32), .ref (b 33), .ref (b 34), .ref (b 35), .ref (b 36), .ref (b 37), .int (I 38), .int (I 39), .ref (b 40), .ref (b 41), .ref (b 42), .ref (b 43), .ref (b 44), .int (I 45), .ref (b 46), .ref (b 47), .ref (b 48)]))]) [0] (by decide) rfl
  replace hFc := va_free (wc := [(b 0, .inr (12, [.int (I 0), .int (I 1), .ref (b 2), .ref (b 3), .ref (b 4), .int (I 5), .int (I 6), .int (I 7), .int (I 8), .ref (b 9), .int (I 10), .ref (b 11), .ref (b 12), .ref (b 13), .ref (b 14), .ref (b 15), .ref (b 16), .ref (b 17), .ref (b 18), .int (I 19), .ref (b 20), .int (I 21), .int (I 22), .int (I 23), .ref (b 24), .ref (b 25), .ref (b 26), .int (I 27), .int (I 28), .ref (b 29), .ref (b 30), .int (I 31), .ref (b 32), .ref (b 33), .ref (b 34), .ref (b 35), .ref (b 36), .ref (b 37), .int (I 38), .int (I 39), .ref (b 40), .ref (b 41), .ref (b 42), .ref (b 43), .ref (b 44), .int (I 45), .ref (b 46), .ref (b 47), .ref (b 48)]))]) hD hS hA [0] rfl
  refine va_calli (va_runV (As := [.int 1]) (rest := []) ⟨hx, hb, hml, hown, hts⟩ (g_goesOn l D dA E (b 0) (I 0) [.int (I 1), .ref (b 2), .ref (b 3), .ref (b 4), .int (I 5), .int (I 6), .int (I 7), .int (I 8), .ref (b 9), .int (I 10), .ref (b 11), .ref (b 12), .ref (b 13), .ref (b 14), .ref (b 15), .ref (b 16), .ref (b 17), .ref (b 18), .int (I 19), .ref (b 20), .int (I 21), .int (I 22), .int (I 23), .ref (b 24), .ref (b 25), .ref (b 26), .int (I 27), .int (I 28), .ref (b 29), .ref (b 30), .int (I 31), .ref (b 32), .ref (b 33), .ref (b 34), .ref (b 35), .ref (b 36), .ref (b 37), .int (I 38), .int (I 39), .ref (b 40), .ref (b 41), .ref (b 42), .ref (b 43), .ref (b 44), .int (I 45), .ref (b 46), .ref (b 47), .ref (b 48)] 1 H.size ) (cwV 1 hts (ga_V q139 q140 q137 q14 q138) rfl rfl rfl (by decide +kernel) ⟨(Nat.le_of_ble_eq_true rfl), (Nat.le_of_ble_eq_true rfl)⟩) ⟨pb_blind, va_recv hK hPc (ci := 12) (q0 := 0) rfl rfl, pb_pre hK hPc hDc hZ hS hFc _⟩ rfl rfl hl.1 rfl (lv_room (Nat.le_of_ble_eq_true rfl)) dX9_scoreAlone_23 ⟨(Nat.le_of_ble_eq_true rfl), (Nat.le_of_ble_eq_true rfl)⟩) hS (fun q _ h => hFc q h) hFc (fun r u t H1 locs ht hvm hw hB hz1 hk1 hS => ?_)
  refine W.widen (k := 0) (n := 0) (Nat.le_of_ble_eq_true rfl) (Nat.le_of_ble_eq_true rfl) ?_
  obtain ⟨r5, rfl⟩ : ∃ z, z = r := ⟨_, rfl⟩
  obtain ⟨u6, rfl⟩ : ∃ z, z = u := ⟨_, rfl⟩
  have hw7 := hw
  clear hw
  obtain ⟨hP1, hD1⟩ := hB
  rw [ht] at hP1
  obtain ⟨hP, hD⟩ := va_join (wr := [(b 29, .inl (dA 0, 4, .inl (F 29))), (b 30, .inl (dA 2, 120, .inl (F 30)))]) (w1 := [(b 0, .inr (12, [.int 1, .int (I 1), .ref (b 2), .ref (b 3), .ref (b 4), .int (I 5), .int (I 6), .int (I 7), .int (I 8), .ref (b 9), .int (I 10), .ref (b 11), .ref (b 12), .ref (b 13), .ref (b 14), .ref (b 15), .ref (b 16), .ref (b 17), .ref (b 18), .int (I 19), .ref (b 20), .int (I 21), .int (I 22), .int (I 23), .ref (b 24), .ref (b 25), .ref (b 26), .int (I 27), .int (I 28), .ref (b 29), .ref (b 30), .int (I 31), .ref (b 32), .ref (b 33), .ref (b 34), .ref (b 35), .ref (b 36), .ref (b 37), .int (I 38), .int (I 39), .ref (b 40), .ref (b 41), .ref (b 42), .ref (b 43), .ref (b 44), .int (I 45), .ref (b 46), .ref (b 47), .ref (b 48)]))]) hP hD [0] [1, 2] rfl rfl (by decide) (by decide) hk1 hFc hP1 hD1
  generalize H1 = H at hP hS ⊢
  replace hP : va_P D vwCl [(b 29, .inl (dA 0, 4, .inl (F 29))), (b 30, .inl (dA 2, 120, .inl (F 30))), (b 0, .inr (12, [.int 1, .int (I 1), .ref (b 2), .ref (b 3), .ref (b 4), .int (I 5), .int (I 6), .int (I 7), .int (I 8), .ref (b 9), .int (I 10), .ref (b 11), .ref (b 12), .ref (b 13), .ref (b 14), .ref (b 15), .ref (b 16), .ref (b 17), .ref (b 18), .int (I 19), .ref (b 20), .int (I 21), .int (I 22), .int (I 23), .ref (b 24), .ref (b 25), .ref (b 26), .int (I 27), .int (I 28), .ref (b 29), .ref (b 30), .int (I 31), .ref (b 32), .ref (b 33), .ref (b 34), .ref (b 35), .ref (b 36), .ref (b 37), .int (I 38), .int (I 39), .ref (b 40), .ref (b 41), .ref (b 42), .ref (b 43), .ref (b 44), .int (I 45), .ref (b 46), .ref (b 47), .ref (b 48)]))] H := hP
  replace hD : va_D A [(b 29, .inl (dA 0, 4, .inl (F 29))), (b 30, .inl (dA 2, 120, .inl (F 30))), (b 0, .inr (12, [.int 1, .int (I 1), .ref (b 2), .ref (b 3), .ref (b 4), .int (I 5), .int (I 6), .int (I 7), .int (I 8), .ref (b 9), .int (I 10), .ref (b 11), .ref (b 12), .ref (b 13), .ref (b 14), .ref (b 15), .ref (b 16), .ref (b 17), .ref (b 18), .int (I 19), .ref (b 20), .int (I 21), .int (I 22), .int (I 23), .ref (b 24), .ref (b 25), .ref (b 26), .int (I 27), .int (I 28), .ref (b 29), .ref (b 30), .int (I 31), .ref (b 32), .ref (b 33), .ref (b 34), .ref (b 35), .ref (b 36), .ref (b 37), .int (I 38), .int (I 39), .ref (b 40), .ref (b 41), .ref (b 42), .ref (b 43), .ref (b 44), .int (I 45), .ref (b 46), .ref (b 47), .ref (b 48)]))] := hD
  obtain rfl : r5 = 0 := hw7.trans (by decide)
  refine lv_if_ne (tgt := 31) hx hb dX9_scoreAlone_26 (by decide) (fun c8 => absurd (by decide) c8) (fun _ => ?_)
  refine lv_lconst (v := 0) hx hb dX9_scoreAlone_29 (by decide) ?_
  refine W.widen (k := 0) (n := 0) (Nat.le_of_ble_eq_true rfl) (Nat.le_of_ble_eq_true rfl) ?_
  have hP9 := hP.sub (ws' := [(b 0, .inr (12, [.int 1, .int (I 1), .ref (b 2), .ref (b 3), .ref (b 4), .int (I 5), .int (I 6), .int (I 7), .int (I 8), .ref (b 9), .int (I 10), .ref (b 11), .ref (b 12), .ref (b 13), .ref (b 14), .ref (b 15), .ref (b 16), .ref (b 17), .ref (b 18), .int (I 19), .ref (b 20), .int (I 21), .int (I 22), .int (I 23), .ref (b 24), .ref (b 25), .ref (b 26), .int (I 27), .int (I 28), .ref (b 29), .ref (b 30), .int (I 31), .ref (b 32), .ref (b 33), .ref (b 34), .ref (b 35), .ref (b 36), .ref (b 37), .int (I 38), .int (I 39), .ref (b 40), .ref (b 41), .ref (b 42), .ref (b 43), .ref (b 44), .int (I 45), .ref (b 46), .ref (b 47), .ref (b 48)])), (b 29, .inl (dA 0, 4, .inl (F 29))), (b 30, .inl (dA 2, 120, .inl (F 30)))]) [2, 0, 1] rfl
  have hD9 := hD.sub (ws' := [(b 0, .inr (12, [.int 1, .int (I 1), .ref (b 2), .ref (b 3), .ref (b 4), .int (I 5), .int (I 6), .int (I 7), .int (I 8), .ref (b 9), .int (I 10), .ref (b 11), .ref (b 12), .ref (b 13), .ref (b 14), .ref (b 15), .ref (b 16), .ref (b 17), .ref (b 18), .int (I 19), .ref (b 20), .int (I 21), .int (I 22), .int (I 23), .ref (b 24), .ref (b 25), .ref (b 26), .int (I 27), .int (I 28), .ref (b 29), .ref (b 30), .int (I 31), .ref (b 32), .ref (b 33), .ref (b 34), .ref (b 35), .ref (b 36), .ref (b 37), .int (I 38), .int (I 39), .ref (b 40), .ref (b 41), .ref (b 42), .ref (b 43), .ref (b 44), .int (I 45), .ref (b 46), .ref (b 47), .ref (b 48)])), (b 29, .inl (dA 0, 4, .inl (F 29))), (b 30, .inl (dA 2, 120, .inl (F 30)))]) [2, 0, 1] (by decide) rfl
  exact W.lret (v := 0) hx hb hr (fun t ht hW => ⟨⟨0, (), rfl, rfl, ⟨by rw [ht]; exact hP9, hD9⟩⟩, hS.F ht⟩) hS.2.2 dX9_scoreAlone_30

set_option maxHeartbeats 4000000 in
set_option maxRecDepth 100000 in
theorem h_scoreAlone_1b9 (l : Launch) (D : va_G) (dA : Nat → ClassId) (E : Nat) (b : Nat → Nat) (I : Nat → Int32) (F : Nat → Nat → Int32) (LN : Nat → Nat) (nd nv : Nat) (p0 p1 p2 : Int32) (a : Nat)  (sz : Nat) (hendd : I 10 = nI nd) (hendd9 : nd ≤ 30) (henv : I 27 = nI nv) (henv9 : nv ≤ 4) (hnv : nv ≤ 4) (hva : vaF (F 29) p0 nv = nI a) (ha : a < nv)  (hdn : (inR 0 (nI nd - 1) p2) = false) : Met l yX9_scoreAlone (wq (.code yX9_scoreAlone cX9_scoreAlone 4 (some .long))) { frames := 3, cells := 0, slots := 0, locals := 65 } (va_Pc [.ref (b 0), .int p0, .int p1, .int p2] (PcB D dA E [(b 0, .inr (12, [.int (I 0), .int (I 1), .ref (b 2), .ref (b 3), .ref (b 4), .int (I 5), .int (I 6), .int (I 7), .int (I 8), .ref (b 9), .int (I 10), .ref (b 11), .ref (b 12), .ref (b 13), .ref (b 14), .ref (b 15), .ref (b 16), .ref (b 17), .ref (b 18), .int (I 19), .ref (b 20), .int (I 21), .int (I 22), .int (I 23), .ref (b 24), .ref (b 25), .ref (b 26), .int (I 27), .int (I 28), .ref (b 29), .ref (b 30), .int (I 31), .ref (b 32), .ref (b 33), .ref (b 34), .ref (b 35), .ref (b 36), .ref (b 37), .int (I 38), .int (I 39), .ref (b 40), .ref (b 41), .ref (b 42), .ref (b 43), .ref (b 44), .int (I 45), .ref (b 46), .ref (b 47), .ref (b 48)])), (b 29, .inl (dA 0, 4, .inl (F 29))), (b 30, .inl (dA 2, 120, .inl (F 30)))] sz)) (va_Ql (fun (r : Int64) (u : Unit) => r = 0) (fun u t => va_P D vwCl [(b 0, .inr (12, [.int 1, .int (I 1), .ref (b 2), .ref (b 3), .ref (b 4), .int (I 5), .int (I 6), .int (I 7), .int (I 8), .ref (b 9), .int (I 10), .ref (b 11), .ref (b 12), .ref (b 13), .ref (b 14), .ref (b 15), .ref (b 16), .ref (b 17), .ref (b 18), .int (I 19), .ref (b 20), .int (I 21), .int (I 22), .int (I 23), .ref (b 24), .ref (b 25), .ref (b 26), .int (I 27), .int (I 28), .ref (b 29), .ref (b 30), .int (I 31), .ref (b 32), .ref (b 33), .ref (b 34), .ref (b 35), .ref (b 36), .ref (b 37), .int (I 38), .int (I 39), .ref (b 40), .ref (b 41), .ref (b 42), .ref (b 43), .ref (b 44), .int (I 45), .ref (b 46), .ref (b 47), .ref (b 48)])), (b 29, .inl (dA 0, 4, .inl (F 29))), (b 30, .inl (dA 2, 120, .inl (F 30)))] t.heap ∧ va_D (va_A [(b 0, .inr (12, [.int (I 0), .int (I 1), .ref (b 2), .ref (b 3), .ref (b 4), .int (I 5), .int (I 6), .int (I 7), .int (I 8), .ref (b 9), .int (I 10), .ref (b 11), .ref (b 12), .ref (b 13), .ref (b 14), .ref (b 15), .ref (b 16), .ref (b 17), .ref (b 18), .int (I 19), .ref (b 20), .int (I 21), .int (I 22), .int (I 23), .ref (b 24), .ref (b 25), .ref (b 26), .int (I 27), .int (I 28), .ref (b 29), .ref (b 30), .int (I 31), .ref (b 32), .ref (b 33), .ref (b 34), .ref (b 35), .ref (b 36), .ref (b 37), .int (I 38), .int (I 39), .ref (b 40), .ref (b 41), .ref (b 42), .ref (b 43), .ref (b 44), .int (I 45), .ref (b 46), .ref (b 47), .ref (b 48)])), (b 29, .inl (dA 0, 4, .inl (F 29))), (b 30, .inl (dA 2, 120, .inl (F 30)))] sz) [(b 0, .inr (12, [.int 1, .int (I 1), .ref (b 2), .ref (b 3), .ref (b 4), .int (I 5), .int (I 6), .int (I 7), .int (I 8), .ref (b 9), .int (I 10), .ref (b 11), .ref (b 12), .ref (b 13), .ref (b 14), .ref (b 15), .ref (b 16), .ref (b 17), .ref (b 18), .int (I 19), .ref (b 20), .int (I 21), .int (I 22), .int (I 23), .ref (b 24), .ref (b 25), .ref (b 26), .int (I 27), .int (I 28), .ref (b 29), .ref (b 30), .int (I 31), .ref (b 32), .ref (b 33), .ref (b 34), .ref (b 35), .ref (b 36), .ref (b 37), .int (I 38), .int (I 39), .ref (b 40), .ref (b 41), .ref (b 42), .ref (b 43), .ref (b 44), .int (I 45), .ref (b 46), .ref (b 47), .ref (b 48)])), (b 29, .inl (dA 0, 4, .inl (F 29))), (b 30, .inl (dA 2, 120, .inl (F 30)))]) (va_A [(b 0, .inr (12, [.int (I 0), .int (I 1), .ref (b 2), .ref (b 3), .ref (b 4), .int (I 5), .int (I 6), .int (I 7), .int (I 8), .ref (b 9), .int (I 10), .ref (b 11), .ref (b 12), .ref (b 13), .ref (b 14), .ref (b 15), .ref (b 16), .ref (b 17), .ref (b 18), .int (I 19), .ref (b 20), .int (I 21), .int (I 22), .int (I 23), .ref (b 24), .ref (b 25), .ref (b 26), .int (I 27), .int (I 28), .ref (b 29), .ref (b 30), .int (I 31), .ref (b 32), .ref (b 33), .ref (b 34), .ref (b 35), .ref (b 36), .ref (b 37), .int (I 38), .int (I 39), .ref (b 40), .ref (b 41), .ref (b 42), .ref (b 43), .ref (b 44), .int (I 45), .ref (b 46), .ref (b 47), .ref (b 48)])), (b 29, .inl (dA 0, 4, .inl (F 29))), (b 30, .inl (dA 2, 120, .inl (F 30)))] sz)) 0 0 (va_A [(b 0, .inr (12, [.int (I 0), .int (I 1), .ref (b 2), .ref (b 3), .ref (b 4), .int (I 5), .int (I 6), .int (I 7), .int (I 8), .ref (b 9), .int (I 10), .ref (b 11), .ref (b 12), .ref (b 13), .ref (b 14), .ref (b 15), .ref (b 16), .ref (b 17), .ref (b 18), .int (I 19), .ref (b 20), .int (I 21), .int (I 22), .int (I 23), .ref (b 24), .ref (b 25), .ref (b 26), .int (I 27), .int (I 28), .ref (b 29), .ref (b 30), .int (I 31), .ref (b 32), .ref (b 33), .ref (b 34), .ref (b 35), .ref (b 36), .ref (b 37), .int (I 38), .int (I 39), .ref (b 40), .ref (b 41), .ref (b 42), .ref (b 43), .ref (b 44), .int (I 45), .ref (b 46), .ref (b 47), .ref (b 48)])), (b 29, .inl (dA 0, 4, .inl (F 29))), (b 30, .inl (dA 2, 120, .inl (F 30)))] sz) := by
  refine mb_of (y := yX9_scoreAlone) (av := [.ref (b 0), .int p0, .int p1, .int p2]) (maxL := 4) (Qc := fun A => va_Ql (fun (r : Int64) (u : Unit) => r = 0) (fun u t => va_P D vwCl [(b 0, .inr (12, [.int 1, .int (I 1), .ref (b 2), .ref (b 3), .ref (b 4), .int (I 5), .int (I 6), .int (I 7), .int (I 8), .ref (b 9), .int (I 10), .ref (b 11), .ref (b 12), .ref (b 13), .ref (b 14), .ref (b 15), .ref (b 16), .ref (b 17), .ref (b 18), .int (I 19), .ref (b 20), .int (I 21), .int (I 22), .int (I 23), .ref (b 24), .ref (b 25), .ref (b 26), .int (I 27), .int (I 28), .ref (b 29), .ref (b 30), .int (I 31), .ref (b 32), .ref (b 33), .ref (b 34), .ref (b 35), .ref (b 36), .ref (b 37), .int (I 38), .int (I 39), .ref (b 40), .ref (b 41), .ref (b 42), .ref (b 43), .ref (b 44), .int (I 45), .ref (b 46), .ref (b 47), .ref (b 48)])), (b 29, .inl (dA 0, 4, .inl (F 29))), (b 30, .inl (dA 2, 120, .inl (F 30)))] t.heap ∧ va_D A [(b 0, .inr (12, [.int 1, .int (I 1), .ref (b 2), .ref (b 3), .ref (b 4), .int (I 5), .int (I 6), .int (I 7), .int (I 8), .ref (b 9), .int (I 10), .ref (b 11), .ref (b 12), .ref (b 13), .ref (b 14), .ref (b 15), .ref (b 16), .ref (b 17), .ref (b 18), .int (I 19), .ref (b 20), .int (I 21), .int (I 22), .int (I 23), .ref (b 24), .ref (b 25), .ref (b 26), .int (I 27), .int (I 28), .ref (b 29), .ref (b 30), .int (I 31), .ref (b 32), .ref (b 33), .ref (b 34), .ref (b 35), .ref (b 36), .ref (b 37), .int (I 38), .int (I 39), .ref (b 40), .ref (b 41), .ref (b 42), .ref (b 43), .ref (b 44), .int (I 45), .ref (b 46), .ref (b 47), .ref (b 48)])), (b 29, .inl (dA 0, 4, .inl (F 29))), (b 30, .inl (dA 2, 120, .inl (F 30)))]) A) RX9 rfl (by decide) (Nat.le_of_ble_eq_true rfl) ?_
  intro p e s m args below meth c hae hx hb hr hts hown hlocks hml hnm hP hK A hAe hD hZ hS hA ls hl
  replace hl : lv_has ls 4 [(0, .ref (b 0)), (1, .int p0), (2, .int p1), (3, .int p2)] := hl
  refine lv_aload_n hx hb dX9_scoreAlone_0 rfl (lv_at hl 0 rfl) ?_
  refine lv_aload_n hx hb dX9_scoreAlone_1 rfl (lv_at hl 0 rfl) ?_
  refine lv_iload_n hx hb dX9_scoreAlone_2 rfl (lv_at hl 1 rfl) ?_
  refine lv_iload_n hx hb dX9_scoreAlone_3 rfl (lv_at hl 3 rfl) ?_
  replace hPc := hP.sub (ws' := [(b 0, .inr (12, [.int (I 0), .int (I 1), .ref (b 2), .ref (b 3), .ref (b 4), .int (I 5), .int (I 6), .int (I 7), .int (I 8), .ref (b 9), .int (I 10), .ref (b 11), .ref (b 12), .ref (b 13), .ref (b 14), .ref (b 15), .ref (b 16), .ref (b 17), .ref (b 18), .int (I 19), .ref (b 20), .int (I 21), .int (I 22), .int (I 23), .ref (b 24), .ref (b 25), .ref (b 26), .int (I 27), .int (I 28), .ref (b 29), .ref (b 30), .int (I 31), .ref (b 32), .ref (b 33), .ref (b 34), .ref (b 35), .ref (b 36), .ref (b 37), .int (I 38), .int (I 39), .ref (b 40), .ref (b 41), .ref (b 42), .ref (b 43), .ref (b 44), .int (I 45), .ref (b 46), .ref (b 47), .ref (b 48)])), (b 29, .inl (dA 0, 4, .inl (F 29))), (b 30, .inl (dA 2, 120, .inl (F 30)))]) [0, 1, 2] rfl
  replace hDc := hD.sub (ws' := [(b 0, .inr (12, [.int (I 0), .int (I 1), .ref (b 2), .ref (b 3), .ref (b 4), .int (I 5), .int (I 6), .int (I 7), .int (I 8), .ref (b 9), .int (I 10), .ref (b 11), .ref (b 12), .ref (b 13), .ref (b 14), .ref (b 15), .ref (b 16), .ref (b 17), .ref (b 18), .int (I 19), .ref (b 20), .int (I 21), .int (I 22), .int (I 23), .ref (b 24), .ref (b 25), .ref (b 26), .int (I 27), .int (I 28), .ref (b 29), .ref (b 30), .int (I 31), .ref (b 32), .ref (b 33), .ref (b 34), .ref (b 35), .ref (b 36), .ref (b 37), .int (I 38), .int (I 39), .ref (b 40), .ref (b 41), .ref (b 42), .ref (b 43), .ref (b 44), .int (I 45), .ref (b 46), .ref (b 47), .ref (b 48)])), (b 29, .inl (dA 0, 4, .inl (F 29))), (b 30, .inl (dA 2, 120, .inl (F 30)))]) [0, 1, 2] (by decide) rfl
  replace hFc := va_free (wc := [(b 0, .inr (12, [.int (I 0), .int (I 1), .ref (b 2), .ref (b 3), .ref (b 4), .int (I 5), .int (I 6), .int (I 7), .int (I 8), .ref (b 9), .int (I 10), .ref (b 11), .ref (b 12), .ref (b 13), .ref (b 14), .ref (b 15), .ref (b 16), .ref (b 17), .ref (b 18), .int (I 19), .ref (b 20), .int (I 21), .int (I 22), .int (I 23), .ref (b 24), .ref (b 25), .ref (b 26), .int (I 27), .int (I 28), .ref (b 29), .ref (b 30), .int (I 31), .ref (b 32), .ref (b 33), .ref (b 34), .ref (b 35), .ref (b 36), .ref (b 37), .int (I 38), .int (I 39), .ref (b 40), .ref (b 41), .ref (b 42), .ref (b 43), .ref (b 44), .int (I 45), .ref (b 46), .ref (b 47), .ref (b 48)])), (b 29, .inl (dA 0, 4, .inl (F 29))), (b 30, .inl (dA 2, 120, .inl (F 30)))]) hD hS hA [0, 1, 2] rfl
  refine va_calli (va_runV (As := [.int p0, .int p2]) (rest := [.ref (b 0)]) ⟨hx, hb, hml, hown, hts⟩ (h_isIn_1 l D dA E b I F LN nd nv p0 a p2 s.heap.size  hendd (by omega) henv (by omega) hnv hva ha hdn) (cwV 2 hts (ga_V q188 q189 q186 q14 q187) rfl rfl rfl (by decide +kernel) ⟨(Nat.le_of_ble_eq_true rfl), (Nat.le_of_ble_eq_true rfl)⟩) ⟨pb_blind, va_recv hK hPc (ci := 12) (q0 := 0) rfl rfl, pb_pre hK hPc hDc hZ hS hFc _⟩ rfl rfl hl.1 rfl (lv_room (Nat.le_of_ble_eq_true rfl)) dX9_scoreAlone_4 ⟨(Nat.le_of_ble_eq_true rfl), (Nat.le_of_ble_eq_true rfl)⟩) hS (fun q _ h => hFc q h) hFc (fun r u t H1 locs ht hvm hw hB hz1 hk1 hS => ?_)
  refine W.widen (k := 0) (n := 0) (Nat.le_of_ble_eq_true rfl) (Nat.le_of_ble_eq_true rfl) ?_
  obtain ⟨r1, rfl⟩ : ∃ z, z = r := ⟨_, rfl⟩
  obtain ⟨u2, rfl⟩ : ∃ z, z = u := ⟨_, rfl⟩
  have hw3 := hw
  clear hw
  obtain ⟨hP1, hD1⟩ := hB
  rw [ht] at hP1
  obtain ⟨hP, hD⟩ := va_join (wr := []) (w1 := [(b 0, .inr (12, [.int (I 0), .int (I 1), .ref (b 2), .ref (b 3), .ref (b 4), .int (I 5), .int (I 6), .int (I 7), .int (I 8), .ref (b 9), .int (I 10), .ref (b 11), .ref (b 12), .ref (b 13), .ref (b 14), .ref (b 15), .ref (b 16), .ref (b 17), .ref (b 18), .int (I 19), .ref (b 20), .int (I 21), .int (I 22), .int (I 23), .ref (b 24), .ref (b 25), .ref (b 26), .int (I 27), .int (I 28), .ref (b 29), .ref (b 30), .int (I 31), .ref (b 32), .ref (b 33), .ref (b 34), .ref (b 35), .ref (b 36), .ref (b 37), .int (I 38), .int (I 39), .ref (b 40), .ref (b 41), .ref (b 42), .ref (b 43), .ref (b 44), .int (I 45), .ref (b 46), .ref (b 47), .ref (b 48)])), (b 29, .inl (dA 0, 4, .inl (F 29))), (b 30, .inl (dA 2, 120, .inl (F 30)))]) hP hD [0, 1, 2] [] rfl rfl (by decide) (by decide) hk1 hFc hP1 hD1
  generalize H1 = H at hP hS ⊢
  replace hP : va_P D vwCl [(b 0, .inr (12, [.int (I 0), .int (I 1), .ref (b 2), .ref (b 3), .ref (b 4), .int (I 5), .int (I 6), .int (I 7), .int (I 8), .ref (b 9), .int (I 10), .ref (b 11), .ref (b 12), .ref (b 13), .ref (b 14), .ref (b 15), .ref (b 16), .ref (b 17), .ref (b 18), .int (I 19), .ref (b 20), .int (I 21), .int (I 22), .int (I 23), .ref (b 24), .ref (b 25), .ref (b 26), .int (I 27), .int (I 28), .ref (b 29), .ref (b 30), .int (I 31), .ref (b 32), .ref (b 33), .ref (b 34), .ref (b 35), .ref (b 36), .ref (b 37), .int (I 38), .int (I 39), .ref (b 40), .ref (b 41), .ref (b 42), .ref (b 43), .ref (b 44), .int (I 45), .ref (b 46), .ref (b 47), .ref (b 48)])), (b 29, .inl (dA 0, 4, .inl (F 29))), (b 30, .inl (dA 2, 120, .inl (F 30)))] H := hP
  replace hD : va_D A [(b 0, .inr (12, [.int (I 0), .int (I 1), .ref (b 2), .ref (b 3), .ref (b 4), .int (I 5), .int (I 6), .int (I 7), .int (I 8), .ref (b 9), .int (I 10), .ref (b 11), .ref (b 12), .ref (b 13), .ref (b 14), .ref (b 15), .ref (b 16), .ref (b 17), .ref (b 18), .int (I 19), .ref (b 20), .int (I 21), .int (I 22), .int (I 23), .ref (b 24), .ref (b 25), .ref (b 26), .int (I 27), .int (I 28), .ref (b 29), .ref (b 30), .int (I 31), .ref (b 32), .ref (b 33), .ref (b 34), .ref (b 35), .ref (b 36), .ref (b 37), .int (I 38), .int (I 39), .ref (b 40), .ref (b 41), .ref (b 42), .ref (b 43), .ref (b 44), .int (I 45), .ref (b 46), .ref (b 47), .ref (b 48)])), (b 29, .inl (dA 0, 4, .inl (F 29))), (b 30, .inl (dA 2, 120, .inl (F 30)))] := hD
  obtain rfl : r1 = 0 := hw3
  refine lv_if_eq (tgt := 22) hx hb dX9_scoreAlone_7 (by decide) (fun _ => ?_) (fun c4 => absurd (by decide) c4)
  refine lv_iconst (v := 1) hx hb dX9_scoreAlone_22 (by decide) ?_
  replace hPc := hP.sub (ws' := [(b 0, .inr (12, [.int (I 0), .int (I 1), .ref (b 2), .ref (b 3), .ref (b 4), .int (I 5), .int (I 6), .int (I 7), .int (I 8), .ref (b 9), .int (I 10), .ref (b 11), .ref (b 12), .ref (b 13), .ref (b 14), .ref (b 15), .ref (b 16), .ref (b 17), .ref (b 18), .int (I 19), .ref (b 20), .int (I 21), .int (I 22), .int (I 23), .ref (b 24), .ref (b 25), .ref (b 26), .int (I 27), .int (I 28), .ref (b 29), .ref (b 30), .int (I 31), .ref (b 32), .ref (b 33), .ref (b 34), .ref (b 35), .ref (b 36), .ref (b 37), .int (I 38), .int (I 39), .ref (b 40), .ref (b 41), .ref (b 42), .ref (b 43), .ref (b 44), .int (I 45), .ref (b 46), .ref (b 47), .ref (b 48)]))]) [0] rfl
  replace hDc := hD.sub (ws' := [(b 0, .inr (12, [.int (I 0), .int (I 1), .ref (b 2), .ref (b 3), .ref (b 4), .int (I 5), .int (I 6), .int (I 7), .int (I 8), .ref (b 9), .int (I 10), .ref (b 11), .ref (b 12), .ref (b 13), .ref (b 14), .ref (b 15), .ref (b 16), .ref (b 17), .ref (b 18), .int (I 19), .ref (b 20), .int (I 21), .int (I 22), .int (I 23), .ref (b 24), .ref (b 25), .ref (b 26), .int (I 27), .int (I 28), .ref (b 29), .ref (b 30), .int (I 31), .ref (b 32), .ref (b 33), .ref (b 34), .ref (b 35), .ref (b 36), .ref (b 37), .int (I 38), .int (I 39), .ref (b 40), .ref (b 41), .ref (b 42), .ref (b 43), .ref (b 44), .int (I 45), .ref (b 46), .ref (b 47), .ref (b 48)]))]) [0] (by decide) rfl
  replace hFc := va_free (wc := [(b 0, .inr (12, [.int (I 0), .int (I 1), .ref (b 2), .ref (b 3), .ref (b 4), .int (I 5), .int (I 6), .int (I 7), .int (I 8), .ref (b 9), .int (I 10), .ref (b 11), .ref (b 12), .ref (b 13), .ref (b 14), .ref (b 15), .ref (b 16), .ref (b 17), .ref (b 18), .int (I 19), .ref (b 20), .int (I 21), .int (I 22), .int (I 23), .ref (b 24), .ref (b 25), .ref (b 26), .int (I 27), .int (I 28), .ref (b 29), .ref (b 30), .int (I 31), .ref (b 32), .ref (b 33), .ref (b 34), .ref (b 35), .ref (b 36), .ref (b 37), .int (I 38), .int (I 39), .ref (b 40), .ref (b 41), .ref (b 42), .ref (b 43), .ref (b 44), .int (I 45), .ref (b 46), .ref (b 47), .ref (b 48)]))]) hD hS hA [0] rfl
  refine va_calli (va_runV (As := [.int 1]) (rest := []) ⟨hx, hb, hml, hown, hts⟩ (g_goesOn l D dA E (b 0) (I 0) [.int (I 1), .ref (b 2), .ref (b 3), .ref (b 4), .int (I 5), .int (I 6), .int (I 7), .int (I 8), .ref (b 9), .int (I 10), .ref (b 11), .ref (b 12), .ref (b 13), .ref (b 14), .ref (b 15), .ref (b 16), .ref (b 17), .ref (b 18), .int (I 19), .ref (b 20), .int (I 21), .int (I 22), .int (I 23), .ref (b 24), .ref (b 25), .ref (b 26), .int (I 27), .int (I 28), .ref (b 29), .ref (b 30), .int (I 31), .ref (b 32), .ref (b 33), .ref (b 34), .ref (b 35), .ref (b 36), .ref (b 37), .int (I 38), .int (I 39), .ref (b 40), .ref (b 41), .ref (b 42), .ref (b 43), .ref (b 44), .int (I 45), .ref (b 46), .ref (b 47), .ref (b 48)] 1 H.size ) (cwV 1 hts (ga_V q139 q140 q137 q14 q138) rfl rfl rfl (by decide +kernel) ⟨(Nat.le_of_ble_eq_true rfl), (Nat.le_of_ble_eq_true rfl)⟩) ⟨pb_blind, va_recv hK hPc (ci := 12) (q0 := 0) rfl rfl, pb_pre hK hPc hDc hZ hS hFc _⟩ rfl rfl hl.1 rfl (lv_room (Nat.le_of_ble_eq_true rfl)) dX9_scoreAlone_23 ⟨(Nat.le_of_ble_eq_true rfl), (Nat.le_of_ble_eq_true rfl)⟩) hS (fun q _ h => hFc q h) hFc (fun r u t H1 locs ht hvm hw hB hz1 hk1 hS => ?_)
  refine W.widen (k := 0) (n := 0) (Nat.le_of_ble_eq_true rfl) (Nat.le_of_ble_eq_true rfl) ?_
  obtain ⟨r5, rfl⟩ : ∃ z, z = r := ⟨_, rfl⟩
  obtain ⟨u6, rfl⟩ : ∃ z, z = u := ⟨_, rfl⟩
  have hw7 := hw
  clear hw
  obtain ⟨hP1, hD1⟩ := hB
  rw [ht] at hP1
  obtain ⟨hP, hD⟩ := va_join (wr := [(b 29, .inl (dA 0, 4, .inl (F 29))), (b 30, .inl (dA 2, 120, .inl (F 30)))]) (w1 := [(b 0, .inr (12, [.int 1, .int (I 1), .ref (b 2), .ref (b 3), .ref (b 4), .int (I 5), .int (I 6), .int (I 7), .int (I 8), .ref (b 9), .int (I 10), .ref (b 11), .ref (b 12), .ref (b 13), .ref (b 14), .ref (b 15), .ref (b 16), .ref (b 17), .ref (b 18), .int (I 19), .ref (b 20), .int (I 21), .int (I 22), .int (I 23), .ref (b 24), .ref (b 25), .ref (b 26), .int (I 27), .int (I 28), .ref (b 29), .ref (b 30), .int (I 31), .ref (b 32), .ref (b 33), .ref (b 34), .ref (b 35), .ref (b 36), .ref (b 37), .int (I 38), .int (I 39), .ref (b 40), .ref (b 41), .ref (b 42), .ref (b 43), .ref (b 44), .int (I 45), .ref (b 46), .ref (b 47), .ref (b 48)]))]) hP hD [0] [1, 2] rfl rfl (by decide) (by decide) hk1 hFc hP1 hD1
  generalize H1 = H at hP hS ⊢
  replace hP : va_P D vwCl [(b 29, .inl (dA 0, 4, .inl (F 29))), (b 30, .inl (dA 2, 120, .inl (F 30))), (b 0, .inr (12, [.int 1, .int (I 1), .ref (b 2), .ref (b 3), .ref (b 4), .int (I 5), .int (I 6), .int (I 7), .int (I 8), .ref (b 9), .int (I 10), .ref (b 11), .ref (b 12), .ref (b 13), .ref (b 14), .ref (b 15), .ref (b 16), .ref (b 17), .ref (b 18), .int (I 19), .ref (b 20), .int (I 21), .int (I 22), .int (I 23), .ref (b 24), .ref (b 25), .ref (b 26), .int (I 27), .int (I 28), .ref (b 29), .ref (b 30), .int (I 31), .ref (b 32), .ref (b 33), .ref (b 34), .ref (b 35), .ref (b 36), .ref (b 37), .int (I 38), .int (I 39), .ref (b 40), .ref (b 41), .ref (b 42), .ref (b 43), .ref (b 44), .int (I 45), .ref (b 46), .ref (b 47), .ref (b 48)]))] H := hP
  replace hD : va_D A [(b 29, .inl (dA 0, 4, .inl (F 29))), (b 30, .inl (dA 2, 120, .inl (F 30))), (b 0, .inr (12, [.int 1, .int (I 1), .ref (b 2), .ref (b 3), .ref (b 4), .int (I 5), .int (I 6), .int (I 7), .int (I 8), .ref (b 9), .int (I 10), .ref (b 11), .ref (b 12), .ref (b 13), .ref (b 14), .ref (b 15), .ref (b 16), .ref (b 17), .ref (b 18), .int (I 19), .ref (b 20), .int (I 21), .int (I 22), .int (I 23), .ref (b 24), .ref (b 25), .ref (b 26), .int (I 27), .int (I 28), .ref (b 29), .ref (b 30), .int (I 31), .ref (b 32), .ref (b 33), .ref (b 34), .ref (b 35), .ref (b 36), .ref (b 37), .int (I 38), .int (I 39), .ref (b 40), .ref (b 41), .ref (b 42), .ref (b 43), .ref (b 44), .int (I 45), .ref (b 46), .ref (b 47), .ref (b 48)]))] := hD
  obtain rfl : r5 = 0 := hw7.trans (by decide)
  refine lv_if_ne (tgt := 31) hx hb dX9_scoreAlone_26 (by decide) (fun c8 => absurd (by decide) c8) (fun _ => ?_)
  refine lv_lconst (v := 0) hx hb dX9_scoreAlone_29 (by decide) ?_
  refine W.widen (k := 0) (n := 0) (Nat.le_of_ble_eq_true rfl) (Nat.le_of_ble_eq_true rfl) ?_
  have hP9 := hP.sub (ws' := [(b 0, .inr (12, [.int 1, .int (I 1), .ref (b 2), .ref (b 3), .ref (b 4), .int (I 5), .int (I 6), .int (I 7), .int (I 8), .ref (b 9), .int (I 10), .ref (b 11), .ref (b 12), .ref (b 13), .ref (b 14), .ref (b 15), .ref (b 16), .ref (b 17), .ref (b 18), .int (I 19), .ref (b 20), .int (I 21), .int (I 22), .int (I 23), .ref (b 24), .ref (b 25), .ref (b 26), .int (I 27), .int (I 28), .ref (b 29), .ref (b 30), .int (I 31), .ref (b 32), .ref (b 33), .ref (b 34), .ref (b 35), .ref (b 36), .ref (b 37), .int (I 38), .int (I 39), .ref (b 40), .ref (b 41), .ref (b 42), .ref (b 43), .ref (b 44), .int (I 45), .ref (b 46), .ref (b 47), .ref (b 48)])), (b 29, .inl (dA 0, 4, .inl (F 29))), (b 30, .inl (dA 2, 120, .inl (F 30)))]) [2, 0, 1] rfl
  have hD9 := hD.sub (ws' := [(b 0, .inr (12, [.int 1, .int (I 1), .ref (b 2), .ref (b 3), .ref (b 4), .int (I 5), .int (I 6), .int (I 7), .int (I 8), .ref (b 9), .int (I 10), .ref (b 11), .ref (b 12), .ref (b 13), .ref (b 14), .ref (b 15), .ref (b 16), .ref (b 17), .ref (b 18), .int (I 19), .ref (b 20), .int (I 21), .int (I 22), .int (I 23), .ref (b 24), .ref (b 25), .ref (b 26), .int (I 27), .int (I 28), .ref (b 29), .ref (b 30), .int (I 31), .ref (b 32), .ref (b 33), .ref (b 34), .ref (b 35), .ref (b 36), .ref (b 37), .int (I 38), .int (I 39), .ref (b 40), .ref (b 41), .ref (b 42), .ref (b 43), .ref (b 44), .int (I 45), .ref (b 46), .ref (b 47), .ref (b 48)])), (b 29, .inl (dA 0, 4, .inl (F 29))), (b 30, .inl (dA 2, 120, .inl (F 30)))]) [2, 0, 1] (by decide) rfl
  exact W.lret (v := 0) hx hb hr (fun t ht hW => ⟨⟨0, (), rfl, rfl, ⟨by rw [ht]; exact hP9, hD9⟩⟩, hS.F ht⟩) hS.2.2 dX9_scoreAlone_30

set_option maxHeartbeats 4000000 in
set_option maxRecDepth 100000 in
theorem h_scoreAlone_1c9 (l : Launch) (D : va_G) (dA : Nat → ClassId) (E : Nat) (b : Nat → Nat) (I : Nat → Int32) (F : Nat → Nat → Int32) (LN : Nat → Nat) (nd nv nq : Nat) (p0 p1 : Int32) (a d : Nat)  (sz : Nat) (hendd : I 10 = nI nd) (hendd9 : nd ≤ 30) (henv : I 27 = nI nv) (henv9 : nv ≤ 4) (henq : I 31 = nI nq) (henq9 : nq ≤ 40) (hnv : nv ≤ 4) (hva : vaF (F 29) p0 nv = nI a) (ha : a < nv) (hd : d < nd)  (hsvd : (svF F a d) = true) (hqb : (inR 0 (nI nq - 1) p1) = false) : Met l yX9_scoreAlone (wq (.code yX9_scoreAlone cX9_scoreAlone 4 (some .long))) { frames := 3, cells := 0, slots := 0, locals := 65 } (va_Pc [.ref (b 0), .int p0, .int p1, .int (nI d)] (PcB D dA E [(b 0, .inr (12, [.int (I 0), .int (I 1), .ref (b 2), .ref (b 3), .ref (b 4), .int (I 5), .int (I 6), .int (I 7), .int (I 8), .ref (b 9), .int (I 10), .ref (b 11), .ref (b 12), .ref (b 13), .ref (b 14), .ref (b 15), .ref (b 16), .ref (b 17), .ref (b 18), .int (I 19), .ref (b 20), .int (I 21), .int (I 22), .int (I 23), .ref (b 24), .ref (b 25), .ref (b 26), .int (I 27), .int (I 28), .ref (b 29), .ref (b 30), .int (I 31), .ref (b 32), .ref (b 33), .ref (b 34), .ref (b 35), .ref (b 36), .ref (b 37), .int (I 38), .int (I 39), .ref (b 40), .ref (b 41), .ref (b 42), .ref (b 43), .ref (b 44), .int (I 45), .ref (b 46), .ref (b 47), .ref (b 48)])), (b 29, .inl (dA 0, 4, .inl (F 29))), (b 30, .inl (dA 2, 120, .inl (F 30)))] sz)) (va_Ql (fun (r : Int64) (u : Unit) => r = 0) (fun u t => va_P D vwCl [(b 0, .inr (12, [.int 1, .int (I 1), .ref (b 2), .ref (b 3), .ref (b 4), .int (I 5), .int (I 6), .int (I 7), .int (I 8), .ref (b 9), .int (I 10), .ref (b 11), .ref (b 12), .ref (b 13), .ref (b 14), .ref (b 15), .ref (b 16), .ref (b 17), .ref (b 18), .int (I 19), .ref (b 20), .int (I 21), .int (I 22), .int (I 23), .ref (b 24), .ref (b 25), .ref (b 26), .int (I 27), .int (I 28), .ref (b 29), .ref (b 30), .int (I 31), .ref (b 32), .ref (b 33), .ref (b 34), .ref (b 35), .ref (b 36), .ref (b 37), .int (I 38), .int (I 39), .ref (b 40), .ref (b 41), .ref (b 42), .ref (b 43), .ref (b 44), .int (I 45), .ref (b 46), .ref (b 47), .ref (b 48)])), (b 29, .inl (dA 0, 4, .inl (F 29))), (b 30, .inl (dA 2, 120, .inl (F 30)))] t.heap ∧ va_D (va_A [(b 0, .inr (12, [.int (I 0), .int (I 1), .ref (b 2), .ref (b 3), .ref (b 4), .int (I 5), .int (I 6), .int (I 7), .int (I 8), .ref (b 9), .int (I 10), .ref (b 11), .ref (b 12), .ref (b 13), .ref (b 14), .ref (b 15), .ref (b 16), .ref (b 17), .ref (b 18), .int (I 19), .ref (b 20), .int (I 21), .int (I 22), .int (I 23), .ref (b 24), .ref (b 25), .ref (b 26), .int (I 27), .int (I 28), .ref (b 29), .ref (b 30), .int (I 31), .ref (b 32), .ref (b 33), .ref (b 34), .ref (b 35), .ref (b 36), .ref (b 37), .int (I 38), .int (I 39), .ref (b 40), .ref (b 41), .ref (b 42), .ref (b 43), .ref (b 44), .int (I 45), .ref (b 46), .ref (b 47), .ref (b 48)])), (b 29, .inl (dA 0, 4, .inl (F 29))), (b 30, .inl (dA 2, 120, .inl (F 30)))] sz) [(b 0, .inr (12, [.int 1, .int (I 1), .ref (b 2), .ref (b 3), .ref (b 4), .int (I 5), .int (I 6), .int (I 7), .int (I 8), .ref (b 9), .int (I 10), .ref (b 11), .ref (b 12), .ref (b 13), .ref (b 14), .ref (b 15), .ref (b 16), .ref (b 17), .ref (b 18), .int (I 19), .ref (b 20), .int (I 21), .int (I 22), .int (I 23), .ref (b 24), .ref (b 25), .ref (b 26), .int (I 27), .int (I 28), .ref (b 29), .ref (b 30), .int (I 31), .ref (b 32), .ref (b 33), .ref (b 34), .ref (b 35), .ref (b 36), .ref (b 37), .int (I 38), .int (I 39), .ref (b 40), .ref (b 41), .ref (b 42), .ref (b 43), .ref (b 44), .int (I 45), .ref (b 46), .ref (b 47), .ref (b 48)])), (b 29, .inl (dA 0, 4, .inl (F 29))), (b 30, .inl (dA 2, 120, .inl (F 30)))]) (va_A [(b 0, .inr (12, [.int (I 0), .int (I 1), .ref (b 2), .ref (b 3), .ref (b 4), .int (I 5), .int (I 6), .int (I 7), .int (I 8), .ref (b 9), .int (I 10), .ref (b 11), .ref (b 12), .ref (b 13), .ref (b 14), .ref (b 15), .ref (b 16), .ref (b 17), .ref (b 18), .int (I 19), .ref (b 20), .int (I 21), .int (I 22), .int (I 23), .ref (b 24), .ref (b 25), .ref (b 26), .int (I 27), .int (I 28), .ref (b 29), .ref (b 30), .int (I 31), .ref (b 32), .ref (b 33), .ref (b 34), .ref (b 35), .ref (b 36), .ref (b 37), .int (I 38), .int (I 39), .ref (b 40), .ref (b 41), .ref (b 42), .ref (b 43), .ref (b 44), .int (I 45), .ref (b 46), .ref (b 47), .ref (b 48)])), (b 29, .inl (dA 0, 4, .inl (F 29))), (b 30, .inl (dA 2, 120, .inl (F 30)))] sz)) 0 0 (va_A [(b 0, .inr (12, [.int (I 0), .int (I 1), .ref (b 2), .ref (b 3), .ref (b 4), .int (I 5), .int (I 6), .int (I 7), .int (I 8), .ref (b 9), .int (I 10), .ref (b 11), .ref (b 12), .ref (b 13), .ref (b 14), .ref (b 15), .ref (b 16), .ref (b 17), .ref (b 18), .int (I 19), .ref (b 20), .int (I 21), .int (I 22), .int (I 23), .ref (b 24), .ref (b 25), .ref (b 26), .int (I 27), .int (I 28), .ref (b 29), .ref (b 30), .int (I 31), .ref (b 32), .ref (b 33), .ref (b 34), .ref (b 35), .ref (b 36), .ref (b 37), .int (I 38), .int (I 39), .ref (b 40), .ref (b 41), .ref (b 42), .ref (b 43), .ref (b 44), .int (I 45), .ref (b 46), .ref (b 47), .ref (b 48)])), (b 29, .inl (dA 0, 4, .inl (F 29))), (b 30, .inl (dA 2, 120, .inl (F 30)))] sz) := by
  refine mb_of (y := yX9_scoreAlone) (av := [.ref (b 0), .int p0, .int p1, .int (nI d)]) (maxL := 4) (Qc := fun A => va_Ql (fun (r : Int64) (u : Unit) => r = 0) (fun u t => va_P D vwCl [(b 0, .inr (12, [.int 1, .int (I 1), .ref (b 2), .ref (b 3), .ref (b 4), .int (I 5), .int (I 6), .int (I 7), .int (I 8), .ref (b 9), .int (I 10), .ref (b 11), .ref (b 12), .ref (b 13), .ref (b 14), .ref (b 15), .ref (b 16), .ref (b 17), .ref (b 18), .int (I 19), .ref (b 20), .int (I 21), .int (I 22), .int (I 23), .ref (b 24), .ref (b 25), .ref (b 26), .int (I 27), .int (I 28), .ref (b 29), .ref (b 30), .int (I 31), .ref (b 32), .ref (b 33), .ref (b 34), .ref (b 35), .ref (b 36), .ref (b 37), .int (I 38), .int (I 39), .ref (b 40), .ref (b 41), .ref (b 42), .ref (b 43), .ref (b 44), .int (I 45), .ref (b 46), .ref (b 47), .ref (b 48)])), (b 29, .inl (dA 0, 4, .inl (F 29))), (b 30, .inl (dA 2, 120, .inl (F 30)))] t.heap ∧ va_D A [(b 0, .inr (12, [.int 1, .int (I 1), .ref (b 2), .ref (b 3), .ref (b 4), .int (I 5), .int (I 6), .int (I 7), .int (I 8), .ref (b 9), .int (I 10), .ref (b 11), .ref (b 12), .ref (b 13), .ref (b 14), .ref (b 15), .ref (b 16), .ref (b 17), .ref (b 18), .int (I 19), .ref (b 20), .int (I 21), .int (I 22), .int (I 23), .ref (b 24), .ref (b 25), .ref (b 26), .int (I 27), .int (I 28), .ref (b 29), .ref (b 30), .int (I 31), .ref (b 32), .ref (b 33), .ref (b 34), .ref (b 35), .ref (b 36), .ref (b 37), .int (I 38), .int (I 39), .ref (b 40), .ref (b 41), .ref (b 42), .ref (b 43), .ref (b 44), .int (I 45), .ref (b 46), .ref (b 47), .ref (b 48)])), (b 29, .inl (dA 0, 4, .inl (F 29))), (b 30, .inl (dA 2, 120, .inl (F 30)))]) A) RX9 rfl (by decide) (Nat.le_of_ble_eq_true rfl) ?_
  intro p e s m args below meth c hae hx hb hr hts hown hlocks hml hnm hP hK A hAe hD hZ hS hA ls hl
  replace hl : lv_has ls 4 [(0, .ref (b 0)), (1, .int p0), (2, .int p1), (3, .int (nI d))] := hl
  have hdn : (inR 0 (nI nd - 1) (nI d)) = true := inT (by omega) hd
  refine lv_aload_n hx hb dX9_scoreAlone_0 rfl (lv_at hl 0 rfl) ?_
  refine lv_aload_n hx hb dX9_scoreAlone_1 rfl (lv_at hl 0 rfl) ?_
  refine lv_iload_n hx hb dX9_scoreAlone_2 rfl (lv_at hl 1 rfl) ?_
  refine lv_iload_n hx hb dX9_scoreAlone_3 rfl (lv_at hl 3 rfl) ?_
  replace hPc := hP.sub (ws' := [(b 0, .inr (12, [.int (I 0), .int (I 1), .ref (b 2), .ref (b 3), .ref (b 4), .int (I 5), .int (I 6), .int (I 7), .int (I 8), .ref (b 9), .int (I 10), .ref (b 11), .ref (b 12), .ref (b 13), .ref (b 14), .ref (b 15), .ref (b 16), .ref (b 17), .ref (b 18), .int (I 19), .ref (b 20), .int (I 21), .int (I 22), .int (I 23), .ref (b 24), .ref (b 25), .ref (b 26), .int (I 27), .int (I 28), .ref (b 29), .ref (b 30), .int (I 31), .ref (b 32), .ref (b 33), .ref (b 34), .ref (b 35), .ref (b 36), .ref (b 37), .int (I 38), .int (I 39), .ref (b 40), .ref (b 41), .ref (b 42), .ref (b 43), .ref (b 44), .int (I 45), .ref (b 46), .ref (b 47), .ref (b 48)])), (b 29, .inl (dA 0, 4, .inl (F 29))), (b 30, .inl (dA 2, 120, .inl (F 30)))]) [0, 1, 2] rfl
  replace hDc := hD.sub (ws' := [(b 0, .inr (12, [.int (I 0), .int (I 1), .ref (b 2), .ref (b 3), .ref (b 4), .int (I 5), .int (I 6), .int (I 7), .int (I 8), .ref (b 9), .int (I 10), .ref (b 11), .ref (b 12), .ref (b 13), .ref (b 14), .ref (b 15), .ref (b 16), .ref (b 17), .ref (b 18), .int (I 19), .ref (b 20), .int (I 21), .int (I 22), .int (I 23), .ref (b 24), .ref (b 25), .ref (b 26), .int (I 27), .int (I 28), .ref (b 29), .ref (b 30), .int (I 31), .ref (b 32), .ref (b 33), .ref (b 34), .ref (b 35), .ref (b 36), .ref (b 37), .int (I 38), .int (I 39), .ref (b 40), .ref (b 41), .ref (b 42), .ref (b 43), .ref (b 44), .int (I 45), .ref (b 46), .ref (b 47), .ref (b 48)])), (b 29, .inl (dA 0, 4, .inl (F 29))), (b 30, .inl (dA 2, 120, .inl (F 30)))]) [0, 1, 2] (by decide) rfl
  replace hFc := va_free (wc := [(b 0, .inr (12, [.int (I 0), .int (I 1), .ref (b 2), .ref (b 3), .ref (b 4), .int (I 5), .int (I 6), .int (I 7), .int (I 8), .ref (b 9), .int (I 10), .ref (b 11), .ref (b 12), .ref (b 13), .ref (b 14), .ref (b 15), .ref (b 16), .ref (b 17), .ref (b 18), .int (I 19), .ref (b 20), .int (I 21), .int (I 22), .int (I 23), .ref (b 24), .ref (b 25), .ref (b 26), .int (I 27), .int (I 28), .ref (b 29), .ref (b 30), .int (I 31), .ref (b 32), .ref (b 33), .ref (b 34), .ref (b 35), .ref (b 36), .ref (b 37), .int (I 38), .int (I 39), .ref (b 40), .ref (b 41), .ref (b 42), .ref (b 43), .ref (b 44), .int (I 45), .ref (b 46), .ref (b 47), .ref (b 48)])), (b 29, .inl (dA 0, 4, .inl (F 29))), (b 30, .inl (dA 2, 120, .inl (F 30)))]) hD hS hA [0, 1, 2] rfl
  refine va_calli (va_runV (As := [.int p0, .int (nI d)]) (rest := [.ref (b 0)]) ⟨hx, hb, hml, hown, hts⟩ (h_isIn_0 l D dA E b I F LN nd nv p0 a d s.heap.size  hendd (by omega) henv (by omega) hnv hva ha (by omega)) (cwV 2 hts (ga_V q188 q189 q186 q14 q187) rfl rfl rfl (by decide +kernel) ⟨(Nat.le_of_ble_eq_true rfl), (Nat.le_of_ble_eq_true rfl)⟩) ⟨pb_blind, va_recv hK hPc (ci := 12) (q0 := 0) rfl rfl, pb_pre hK hPc hDc hZ hS hFc _⟩ rfl rfl hl.1 rfl (lv_room (Nat.le_of_ble_eq_true rfl)) dX9_scoreAlone_4 ⟨(Nat.le_of_ble_eq_true rfl), (Nat.le_of_ble_eq_true rfl)⟩) hS (fun q _ h => hFc q h) hFc (fun r u t H1 locs ht hvm hw hB hz1 hk1 hS => ?_)
  refine W.widen (k := 0) (n := 0) (Nat.le_of_ble_eq_true rfl) (Nat.le_of_ble_eq_true rfl) ?_
  obtain ⟨r1, rfl⟩ : ∃ z, z = r := ⟨_, rfl⟩
  obtain ⟨u2, rfl⟩ : ∃ z, z = u := ⟨_, rfl⟩
  have hw3 := hw
  clear hw
  obtain ⟨hP1, hD1⟩ := hB
  rw [ht] at hP1
  obtain ⟨hP, hD⟩ := va_join (wr := []) (w1 := [(b 0, .inr (12, [.int (I 0), .int (I 1), .ref (b 2), .ref (b 3), .ref (b 4), .int (I 5), .int (I 6), .int (I 7), .int (I 8), .ref (b 9), .int (I 10), .ref (b 11), .ref (b 12), .ref (b 13), .ref (b 14), .ref (b 15), .ref (b 16), .ref (b 17), .ref (b 18), .int (I 19), .ref (b 20), .int (I 21), .int (I 22), .int (I 23), .ref (b 24), .ref (b 25), .ref (b 26), .int (I 27), .int (I 28), .ref (b 29), .ref (b 30), .int (I 31), .ref (b 32), .ref (b 33), .ref (b 34), .ref (b 35), .ref (b 36), .ref (b 37), .int (I 38), .int (I 39), .ref (b 40), .ref (b 41), .ref (b 42), .ref (b 43), .ref (b 44), .int (I 45), .ref (b 46), .ref (b 47), .ref (b 48)])), (b 29, .inl (dA 0, 4, .inl (F 29))), (b 30, .inl (dA 2, 120, .inl (F 30)))]) hP hD [0, 1, 2] [] rfl rfl (by decide) (by decide) hk1 hFc hP1 hD1
  generalize H1 = H at hP hS ⊢
  replace hP : va_P D vwCl [(b 0, .inr (12, [.int (I 0), .int (I 1), .ref (b 2), .ref (b 3), .ref (b 4), .int (I 5), .int (I 6), .int (I 7), .int (I 8), .ref (b 9), .int (I 10), .ref (b 11), .ref (b 12), .ref (b 13), .ref (b 14), .ref (b 15), .ref (b 16), .ref (b 17), .ref (b 18), .int (I 19), .ref (b 20), .int (I 21), .int (I 22), .int (I 23), .ref (b 24), .ref (b 25), .ref (b 26), .int (I 27), .int (I 28), .ref (b 29), .ref (b 30), .int (I 31), .ref (b 32), .ref (b 33), .ref (b 34), .ref (b 35), .ref (b 36), .ref (b 37), .int (I 38), .int (I 39), .ref (b 40), .ref (b 41), .ref (b 42), .ref (b 43), .ref (b 44), .int (I 45), .ref (b 46), .ref (b 47), .ref (b 48)])), (b 29, .inl (dA 0, 4, .inl (F 29))), (b 30, .inl (dA 2, 120, .inl (F 30)))] H := hP
  replace hD : va_D A [(b 0, .inr (12, [.int (I 0), .int (I 1), .ref (b 2), .ref (b 3), .ref (b 4), .int (I 5), .int (I 6), .int (I 7), .int (I 8), .ref (b 9), .int (I 10), .ref (b 11), .ref (b 12), .ref (b 13), .ref (b 14), .ref (b 15), .ref (b 16), .ref (b 17), .ref (b 18), .int (I 19), .ref (b 20), .int (I 21), .int (I 22), .int (I 23), .ref (b 24), .ref (b 25), .ref (b 26), .int (I 27), .int (I 28), .ref (b 29), .ref (b 30), .int (I 31), .ref (b 32), .ref (b 33), .ref (b 34), .ref (b 35), .ref (b 36), .ref (b 37), .int (I 38), .int (I 39), .ref (b 40), .ref (b 41), .ref (b 42), .ref (b 43), .ref (b 44), .int (I 45), .ref (b 46), .ref (b 47), .ref (b 48)])), (b 29, .inl (dA 0, 4, .inl (F 29))), (b 30, .inl (dA 2, 120, .inl (F 30)))] := hD
  obtain rfl : r1 = 1 := hw3.trans (by rw [hsvd]; rfl)
  refine lv_if_eq (tgt := 22) hx hb dX9_scoreAlone_7 (by decide) (fun c4 => absurd c4 (by decide)) (fun _ => ?_)
  refine lv_aload_n hx hb dX9_scoreAlone_10 rfl (lv_at hl 0 rfl) ?_
  refine lv_iload_n hx hb dX9_scoreAlone_11 rfl (lv_at hl 2 rfl) ?_
  replace hPc := hP.sub (ws' := [(b 0, .inr (12, [.int (I 0), .int (I 1), .ref (b 2), .ref (b 3), .ref (b 4), .int (I 5), .int (I 6), .int (I 7), .int (I 8), .ref (b 9), .int (I 10), .ref (b 11), .ref (b 12), .ref (b 13), .ref (b 14), .ref (b 15), .ref (b 16), .ref (b 17), .ref (b 18), .int (I 19), .ref (b 20), .int (I 21), .int (I 22), .int (I 23), .ref (b 24), .ref (b 25), .ref (b 26), .int (I 27), .int (I 28), .ref (b 29), .ref (b 30), .int (I 31), .ref (b 32), .ref (b 33), .ref (b 34), .ref (b 35), .ref (b 36), .ref (b 37), .int (I 38), .int (I 39), .ref (b 40), .ref (b 41), .ref (b 42), .ref (b 43), .ref (b 44), .int (I 45), .ref (b 46), .ref (b 47), .ref (b 48)]))]) [0] rfl
  replace hDc := hD.sub (ws' := [(b 0, .inr (12, [.int (I 0), .int (I 1), .ref (b 2), .ref (b 3), .ref (b 4), .int (I 5), .int (I 6), .int (I 7), .int (I 8), .ref (b 9), .int (I 10), .ref (b 11), .ref (b 12), .ref (b 13), .ref (b 14), .ref (b 15), .ref (b 16), .ref (b 17), .ref (b 18), .int (I 19), .ref (b 20), .int (I 21), .int (I 22), .int (I 23), .ref (b 24), .ref (b 25), .ref (b 26), .int (I 27), .int (I 28), .ref (b 29), .ref (b 30), .int (I 31), .ref (b 32), .ref (b 33), .ref (b 34), .ref (b 35), .ref (b 36), .ref (b 37), .int (I 38), .int (I 39), .ref (b 40), .ref (b 41), .ref (b 42), .ref (b 43), .ref (b 44), .int (I 45), .ref (b 46), .ref (b 47), .ref (b 48)]))]) [0] (by decide) rfl
  replace hFc := va_free (wc := [(b 0, .inr (12, [.int (I 0), .int (I 1), .ref (b 2), .ref (b 3), .ref (b 4), .int (I 5), .int (I 6), .int (I 7), .int (I 8), .ref (b 9), .int (I 10), .ref (b 11), .ref (b 12), .ref (b 13), .ref (b 14), .ref (b 15), .ref (b 16), .ref (b 17), .ref (b 18), .int (I 19), .ref (b 20), .int (I 21), .int (I 22), .int (I 23), .ref (b 24), .ref (b 25), .ref (b 26), .int (I 27), .int (I 28), .ref (b 29), .ref (b 30), .int (I 31), .ref (b 32), .ref (b 33), .ref (b 34), .ref (b 35), .ref (b 36), .ref (b 37), .int (I 38), .int (I 39), .ref (b 40), .ref (b 41), .ref (b 42), .ref (b 43), .ref (b 44), .int (I 45), .ref (b 46), .ref (b 47), .ref (b 48)]))]) hD hS hA [0] rfl
  refine va_calli (va_runV (As := [.int p1]) (rest := [.ref (b 0)]) ⟨hx, hb, hml, hown, hts⟩ (g_isQuery l D dA E b I F (fun _ => 0) nq p1 H.size  (by omega) henq) (cwV 1 hts (ga_V q112 q113 q110 q14 q111) rfl rfl rfl (by decide +kernel) ⟨(Nat.le_of_ble_eq_true rfl), (Nat.le_of_ble_eq_true rfl)⟩) ⟨pb_blind, va_recv hK hPc (ci := 12) (q0 := 0) rfl rfl, pb_pre hK hPc hDc hZ hS hFc _⟩ rfl rfl hl.1 rfl (lv_room (Nat.le_of_ble_eq_true rfl)) dX9_scoreAlone_12 ⟨(Nat.le_of_ble_eq_true rfl), (Nat.le_of_ble_eq_true rfl)⟩) hS (fun q _ h => hFc q h) hFc (fun r u t H1 locs ht hvm hw hB hz1 hk1 hS => ?_)
  refine W.widen (k := 0) (n := 0) (Nat.le_of_ble_eq_true rfl) (Nat.le_of_ble_eq_true rfl) ?_
  obtain ⟨r5, rfl⟩ : ∃ z, z = r := ⟨_, rfl⟩
  obtain ⟨u6, rfl⟩ : ∃ z, z = u := ⟨_, rfl⟩
  have hw7 := hw
  clear hw
  obtain ⟨hP1, hD1⟩ := hB
  rw [ht] at hP1
  obtain ⟨hP, hD⟩ := va_join (wr := [(b 29, .inl (dA 0, 4, .inl (F 29))), (b 30, .inl (dA 2, 120, .inl (F 30)))]) (w1 := [(b 0, .inr (12, [.int (I 0), .int (I 1), .ref (b 2), .ref (b 3), .ref (b 4), .int (I 5), .int (I 6), .int (I 7), .int (I 8), .ref (b 9), .int (I 10), .ref (b 11), .ref (b 12), .ref (b 13), .ref (b 14), .ref (b 15), .ref (b 16), .ref (b 17), .ref (b 18), .int (I 19), .ref (b 20), .int (I 21), .int (I 22), .int (I 23), .ref (b 24), .ref (b 25), .ref (b 26), .int (I 27), .int (I 28), .ref (b 29), .ref (b 30), .int (I 31), .ref (b 32), .ref (b 33), .ref (b 34), .ref (b 35), .ref (b 36), .ref (b 37), .int (I 38), .int (I 39), .ref (b 40), .ref (b 41), .ref (b 42), .ref (b 43), .ref (b 44), .int (I 45), .ref (b 46), .ref (b 47), .ref (b 48)]))]) hP hD [0] [1, 2] rfl rfl (by decide) (by decide) hk1 hFc hP1 hD1
  generalize H1 = H at hP hS ⊢
  replace hP : va_P D vwCl [(b 29, .inl (dA 0, 4, .inl (F 29))), (b 30, .inl (dA 2, 120, .inl (F 30))), (b 0, .inr (12, [.int (I 0), .int (I 1), .ref (b 2), .ref (b 3), .ref (b 4), .int (I 5), .int (I 6), .int (I 7), .int (I 8), .ref (b 9), .int (I 10), .ref (b 11), .ref (b 12), .ref (b 13), .ref (b 14), .ref (b 15), .ref (b 16), .ref (b 17), .ref (b 18), .int (I 19), .ref (b 20), .int (I 21), .int (I 22), .int (I 23), .ref (b 24), .ref (b 25), .ref (b 26), .int (I 27), .int (I 28), .ref (b 29), .ref (b 30), .int (I 31), .ref (b 32), .ref (b 33), .ref (b 34), .ref (b 35), .ref (b 36), .ref (b 37), .int (I 38), .int (I 39), .ref (b 40), .ref (b 41), .ref (b 42), .ref (b 43), .ref (b 44), .int (I 45), .ref (b 46), .ref (b 47), .ref (b 48)]))] H := hP
  replace hD : va_D A [(b 29, .inl (dA 0, 4, .inl (F 29))), (b 30, .inl (dA 2, 120, .inl (F 30))), (b 0, .inr (12, [.int (I 0), .int (I 1), .ref (b 2), .ref (b 3), .ref (b 4), .int (I 5), .int (I 6), .int (I 7), .int (I 8), .ref (b 9), .int (I 10), .ref (b 11), .ref (b 12), .ref (b 13), .ref (b 14), .ref (b 15), .ref (b 16), .ref (b 17), .ref (b 18), .int (I 19), .ref (b 20), .int (I 21), .int (I 22), .int (I 23), .ref (b 24), .ref (b 25), .ref (b 26), .int (I 27), .int (I 28), .ref (b 29), .ref (b 30), .int (I 31), .ref (b 32), .ref (b 33), .ref (b 34), .ref (b 35), .ref (b 36), .ref (b 37), .int (I 38), .int (I 39), .ref (b 40), .ref (b 41), .ref (b 42), .ref (b 43), .ref (b 44), .int (I 45), .ref (b 46), .ref (b 47), .ref (b 48)]))] := hD
  obtain rfl : r5 = 0 := hw7.trans (by rw [hqb]; rfl)
  refine lv_if_eq (tgt := 22) hx hb dX9_scoreAlone_15 (by decide) (fun _ => ?_) (fun c8 => absurd (by decide) c8)
  refine lv_iconst (v := 1) hx hb dX9_scoreAlone_22 (by decide) ?_
  replace hPc := hP.sub (ws' := [(b 0, .inr (12, [.int (I 0), .int (I 1), .ref (b 2), .ref (b 3), .ref (b 4), .int (I 5), .int (I 6), .int (I 7), .int (I 8), .ref (b 9), .int (I 10), .ref (b 11), .ref (b 12), .ref (b 13), .ref (b 14), .ref (b 15), .ref (b 16), .ref (b 17), .ref (b 18), .int (I 19), .ref (b 20), .int (I 21), .int (I 22), .int (I 23), .ref (b 24), .ref (b 25), .ref (b 26), .int (I 27), .int (I 28), .ref (b 29), .ref (b 30), .int (I 31), .ref (b 32), .ref (b 33), .ref (b 34), .ref (b 35), .ref (b 36), .ref (b 37), .int (I 38), .int (I 39), .ref (b 40), .ref (b 41), .ref (b 42), .ref (b 43), .ref (b 44), .int (I 45), .ref (b 46), .ref (b 47), .ref (b 48)]))]) [2] rfl
  replace hDc := hD.sub (ws' := [(b 0, .inr (12, [.int (I 0), .int (I 1), .ref (b 2), .ref (b 3), .ref (b 4), .int (I 5), .int (I 6), .int (I 7), .int (I 8), .ref (b 9), .int (I 10), .ref (b 11), .ref (b 12), .ref (b 13), .ref (b 14), .ref (b 15), .ref (b 16), .ref (b 17), .ref (b 18), .int (I 19), .ref (b 20), .int (I 21), .int (I 22), .int (I 23), .ref (b 24), .ref (b 25), .ref (b 26), .int (I 27), .int (I 28), .ref (b 29), .ref (b 30), .int (I 31), .ref (b 32), .ref (b 33), .ref (b 34), .ref (b 35), .ref (b 36), .ref (b 37), .int (I 38), .int (I 39), .ref (b 40), .ref (b 41), .ref (b 42), .ref (b 43), .ref (b 44), .int (I 45), .ref (b 46), .ref (b 47), .ref (b 48)]))]) [2] (by decide) rfl
  replace hFc := va_free (wc := [(b 0, .inr (12, [.int (I 0), .int (I 1), .ref (b 2), .ref (b 3), .ref (b 4), .int (I 5), .int (I 6), .int (I 7), .int (I 8), .ref (b 9), .int (I 10), .ref (b 11), .ref (b 12), .ref (b 13), .ref (b 14), .ref (b 15), .ref (b 16), .ref (b 17), .ref (b 18), .int (I 19), .ref (b 20), .int (I 21), .int (I 22), .int (I 23), .ref (b 24), .ref (b 25), .ref (b 26), .int (I 27), .int (I 28), .ref (b 29), .ref (b 30), .int (I 31), .ref (b 32), .ref (b 33), .ref (b 34), .ref (b 35), .ref (b 36), .ref (b 37), .int (I 38), .int (I 39), .ref (b 40), .ref (b 41), .ref (b 42), .ref (b 43), .ref (b 44), .int (I 45), .ref (b 46), .ref (b 47), .ref (b 48)]))]) hD hS hA [2] rfl
  refine va_calli (va_runV (As := [.int 1]) (rest := []) ⟨hx, hb, hml, hown, hts⟩ (g_goesOn l D dA E (b 0) (I 0) [.int (I 1), .ref (b 2), .ref (b 3), .ref (b 4), .int (I 5), .int (I 6), .int (I 7), .int (I 8), .ref (b 9), .int (I 10), .ref (b 11), .ref (b 12), .ref (b 13), .ref (b 14), .ref (b 15), .ref (b 16), .ref (b 17), .ref (b 18), .int (I 19), .ref (b 20), .int (I 21), .int (I 22), .int (I 23), .ref (b 24), .ref (b 25), .ref (b 26), .int (I 27), .int (I 28), .ref (b 29), .ref (b 30), .int (I 31), .ref (b 32), .ref (b 33), .ref (b 34), .ref (b 35), .ref (b 36), .ref (b 37), .int (I 38), .int (I 39), .ref (b 40), .ref (b 41), .ref (b 42), .ref (b 43), .ref (b 44), .int (I 45), .ref (b 46), .ref (b 47), .ref (b 48)] 1 H.size ) (cwV 1 hts (ga_V q139 q140 q137 q14 q138) rfl rfl rfl (by decide +kernel) ⟨(Nat.le_of_ble_eq_true rfl), (Nat.le_of_ble_eq_true rfl)⟩) ⟨pb_blind, va_recv hK hPc (ci := 12) (q0 := 0) rfl rfl, pb_pre hK hPc hDc hZ hS hFc _⟩ rfl rfl hl.1 rfl (lv_room (Nat.le_of_ble_eq_true rfl)) dX9_scoreAlone_23 ⟨(Nat.le_of_ble_eq_true rfl), (Nat.le_of_ble_eq_true rfl)⟩) hS (fun q _ h => hFc q h) hFc (fun r u t H1 locs ht hvm hw hB hz1 hk1 hS => ?_)
  refine W.widen (k := 0) (n := 0) (Nat.le_of_ble_eq_true rfl) (Nat.le_of_ble_eq_true rfl) ?_
  obtain ⟨r9, rfl⟩ : ∃ z, z = r := ⟨_, rfl⟩
  obtain ⟨u10, rfl⟩ : ∃ z, z = u := ⟨_, rfl⟩
  have hw11 := hw
  clear hw
  obtain ⟨hP1, hD1⟩ := hB
  rw [ht] at hP1
  obtain ⟨hP, hD⟩ := va_join (wr := [(b 29, .inl (dA 0, 4, .inl (F 29))), (b 30, .inl (dA 2, 120, .inl (F 30)))]) (w1 := [(b 0, .inr (12, [.int 1, .int (I 1), .ref (b 2), .ref (b 3), .ref (b 4), .int (I 5), .int (I 6), .int (I 7), .int (I 8), .ref (b 9), .int (I 10), .ref (b 11), .ref (b 12), .ref (b 13), .ref (b 14), .ref (b 15), .ref (b 16), .ref (b 17), .ref (b 18), .int (I 19), .ref (b 20), .int (I 21), .int (I 22), .int (I 23), .ref (b 24), .ref (b 25), .ref (b 26), .int (I 27), .int (I 28), .ref (b 29), .ref (b 30), .int (I 31), .ref (b 32), .ref (b 33), .ref (b 34), .ref (b 35), .ref (b 36), .ref (b 37), .int (I 38), .int (I 39), .ref (b 40), .ref (b 41), .ref (b 42), .ref (b 43), .ref (b 44), .int (I 45), .ref (b 46), .ref (b 47), .ref (b 48)]))]) hP hD [2] [0, 1] rfl rfl (by decide) (by decide) hk1 hFc hP1 hD1
  generalize H1 = H at hP hS ⊢
  replace hP : va_P D vwCl [(b 29, .inl (dA 0, 4, .inl (F 29))), (b 30, .inl (dA 2, 120, .inl (F 30))), (b 0, .inr (12, [.int 1, .int (I 1), .ref (b 2), .ref (b 3), .ref (b 4), .int (I 5), .int (I 6), .int (I 7), .int (I 8), .ref (b 9), .int (I 10), .ref (b 11), .ref (b 12), .ref (b 13), .ref (b 14), .ref (b 15), .ref (b 16), .ref (b 17), .ref (b 18), .int (I 19), .ref (b 20), .int (I 21), .int (I 22), .int (I 23), .ref (b 24), .ref (b 25), .ref (b 26), .int (I 27), .int (I 28), .ref (b 29), .ref (b 30), .int (I 31), .ref (b 32), .ref (b 33), .ref (b 34), .ref (b 35), .ref (b 36), .ref (b 37), .int (I 38), .int (I 39), .ref (b 40), .ref (b 41), .ref (b 42), .ref (b 43), .ref (b 44), .int (I 45), .ref (b 46), .ref (b 47), .ref (b 48)]))] H := hP
  replace hD : va_D A [(b 29, .inl (dA 0, 4, .inl (F 29))), (b 30, .inl (dA 2, 120, .inl (F 30))), (b 0, .inr (12, [.int 1, .int (I 1), .ref (b 2), .ref (b 3), .ref (b 4), .int (I 5), .int (I 6), .int (I 7), .int (I 8), .ref (b 9), .int (I 10), .ref (b 11), .ref (b 12), .ref (b 13), .ref (b 14), .ref (b 15), .ref (b 16), .ref (b 17), .ref (b 18), .int (I 19), .ref (b 20), .int (I 21), .int (I 22), .int (I 23), .ref (b 24), .ref (b 25), .ref (b 26), .int (I 27), .int (I 28), .ref (b 29), .ref (b 30), .int (I 31), .ref (b 32), .ref (b 33), .ref (b 34), .ref (b 35), .ref (b 36), .ref (b 37), .int (I 38), .int (I 39), .ref (b 40), .ref (b 41), .ref (b 42), .ref (b 43), .ref (b 44), .int (I 45), .ref (b 46), .ref (b 47), .ref (b 48)]))] := hD
  obtain rfl : r9 = 0 := hw11.trans (by decide)
  refine lv_if_ne (tgt := 31) hx hb dX9_scoreAlone_26 (by decide) (fun c12 => absurd (by decide) c12) (fun _ => ?_)
  refine lv_lconst (v := 0) hx hb dX9_scoreAlone_29 (by decide) ?_
  refine W.widen (k := 0) (n := 0) (Nat.le_of_ble_eq_true rfl) (Nat.le_of_ble_eq_true rfl) ?_
  have hP9 := hP.sub (ws' := [(b 0, .inr (12, [.int 1, .int (I 1), .ref (b 2), .ref (b 3), .ref (b 4), .int (I 5), .int (I 6), .int (I 7), .int (I 8), .ref (b 9), .int (I 10), .ref (b 11), .ref (b 12), .ref (b 13), .ref (b 14), .ref (b 15), .ref (b 16), .ref (b 17), .ref (b 18), .int (I 19), .ref (b 20), .int (I 21), .int (I 22), .int (I 23), .ref (b 24), .ref (b 25), .ref (b 26), .int (I 27), .int (I 28), .ref (b 29), .ref (b 30), .int (I 31), .ref (b 32), .ref (b 33), .ref (b 34), .ref (b 35), .ref (b 36), .ref (b 37), .int (I 38), .int (I 39), .ref (b 40), .ref (b 41), .ref (b 42), .ref (b 43), .ref (b 44), .int (I 45), .ref (b 46), .ref (b 47), .ref (b 48)])), (b 29, .inl (dA 0, 4, .inl (F 29))), (b 30, .inl (dA 2, 120, .inl (F 30)))]) [2, 0, 1] rfl
  have hD9 := hD.sub (ws' := [(b 0, .inr (12, [.int 1, .int (I 1), .ref (b 2), .ref (b 3), .ref (b 4), .int (I 5), .int (I 6), .int (I 7), .int (I 8), .ref (b 9), .int (I 10), .ref (b 11), .ref (b 12), .ref (b 13), .ref (b 14), .ref (b 15), .ref (b 16), .ref (b 17), .ref (b 18), .int (I 19), .ref (b 20), .int (I 21), .int (I 22), .int (I 23), .ref (b 24), .ref (b 25), .ref (b 26), .int (I 27), .int (I 28), .ref (b 29), .ref (b 30), .int (I 31), .ref (b 32), .ref (b 33), .ref (b 34), .ref (b 35), .ref (b 36), .ref (b 37), .int (I 38), .int (I 39), .ref (b 40), .ref (b 41), .ref (b 42), .ref (b 43), .ref (b 44), .int (I 45), .ref (b 46), .ref (b 47), .ref (b 48)])), (b 29, .inl (dA 0, 4, .inl (F 29))), (b 30, .inl (dA 2, 120, .inl (F 30)))]) [2, 0, 1] (by decide) rfl
  exact W.lret (v := 0) hx hb hr (fun t ht hW => ⟨⟨0, (), rfl, rfl, ⟨by rw [ht]; exact hP9, hD9⟩⟩, hS.F ht⟩) hS.2.2 dX9_scoreAlone_30
