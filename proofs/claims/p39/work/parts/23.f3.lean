/-! p39: the class's state against the store's -/
theorem cn_zero9 {f : Nat → Bool} : ∀ n, cn f n = 0 → ∀ i, i < n → f i = false
  | 0, _, i, h => absurd h (Nat.not_lt_zero i)
  | n + 1, h, i, hi => by
    have e : cn f n + (if f n = true then 1 else 0) = 0 := h
    by_cases x : i = n
    · rw [x]
      cases y : f n
      · rfl
      · rw [y, if_pos rfl] at e; omega
    · exact cn_zero9 n (by omega) i (by omega)
/-- a document's state and its segment, of n -/
def DG (n : Nat) (x g : Int32) : Prop := ((x = 98 ∨ x = 108 ∨ x = 114) ∧ g = -1) ∨ ((x = 115 ∨ x = 114) ∧ ∃ k, k < n ∧ g = nI k)
theorem DG_mono {n m : Nat} {x g : Int32} (h : DG n x g) (hm : n ≤ m) : DG m x g := by
  rcases h with h | ⟨h, k, hk, e⟩
  · exact Or.inl h
  · exact Or.inr ⟨h, k, by omega, e⟩
theorem DG_98 {n : Nat} {x g : Int32} (h : DG n x g) (e : x = 98) : g = -1 := by
  rcases h with ⟨-, h⟩ | ⟨h | h, -⟩
  · exact h
  · rw [e] at h; exact absurd h (by decide)
  · rw [e] at h; exact absurd h (by decide)
theorem DG_seg {n k : Nat} {x g : Int32} (h : DG n x g) (hk : k < 1000) (e : g = nI k) : (x = 115 ∨ x = 114) ∧ k < n := by
  rcases h with ⟨-, h⟩ | ⟨h, j, hj, ej⟩
  · exact absurd (e.symm.trans h) (nI_m1 (by omega))
  · rcases Nat.lt_or_ge j (2 ^ 31) with l | l
    · have := (nI_eq (a := j) (b := k) l (by omega)).mp (ej.symm.trans e)
      exact ⟨h, by omega⟩
    · exact ⟨h, by omega⟩
/-- the store's rows are the class's segments -/
def RW (nd n m : Nat) (rw : Nat → Option Nat) (ra rl : Nat → Nat) (rf : Nat → Nat → Nat) (tG : Nat → Int32) : Prop := ∀ k, k < n → ∃ i, i < m ∧ rw k = some (ra i) ∧ (lst (rl i) (rf i)).Perm (idn (fun d => decide (tG d = nI k)) nd)
theorem RW_pool {nd n m q N : Nat} {rw : Nat → Option Nat} {ra rl : Nat → Nat} {rf : Nat → Nat → Nat} {tG : Nat → Int32} {L : Nat → Nat} (h : RW nd n m rw ra rl rf tG) : RW nd n (m + 1) rw (va_up ra m q) (va_up rl m N) (va_up rf m L) tG := by
  intro k hk
  obtain ⟨i, h1, h2, h3⟩ := h k hk
  refine ⟨i, by omega, ?_, ?_⟩
  · rw [va_up_ne _ _ (Nat.ne_of_lt h1)]; exact h2
  · rw [va_up_ne _ _ (Nat.ne_of_lt h1), va_up_ne _ _ (Nat.ne_of_lt h1)]; exact h3
theorem RW_tag {nd n m : Nat} {rw : Nat → Option Nat} {ra rl : Nat → Nat} {rf : Nat → Nat → Nat} {tG tG' : Nat → Int32} (h : RW nd n m rw ra rl rf tG) (e : ∀ d, d < nd → tG d = tG' d) : RW nd n m rw ra rl rf tG' := by
  intro k hk
  obtain ⟨i, h1, h2, h3⟩ := h k hk
  refine ⟨i, h1, h2, h3.trans (List.Perm.of_eq (idn_cg nd (fun d hd => ?_)))⟩
  rw [e d hd]
/-- a document more, in the buffer -/
theorem RW_doc {nd n m : Nat} {rw : Nat → Option Nat} {ra rl : Nat → Nat} {rf : Nat → Nat → Nat} {tG : Nat → Int32} (h : RW nd n m rw ra rl rf tG) (hn : n ≤ 100) : RW (nd + 1) n m rw ra rl rf (upd tG nd (-1)) := by
  intro k hk
  obtain ⟨i, h1, h2, h3⟩ := h k hk
  refine ⟨i, h1, h2, h3.trans (List.Perm.of_eq ?_)⟩
  rw [idn_s, if_neg, List.append_nil]
  · refine idn_cg nd (fun d hd => ?_)
    show decide (tG d = nI k) = decide (upd tG nd (-1) d = nI k)
    unfold upd
    rw [if_neg (Nat.ne_of_lt hd)]
  · show ¬ decide (upd tG nd (-1) nd = nI k) = true
    unfold upd
    rw [if_pos rfl]
    intro e
    exact nI_m1 (n := k) (by omega) (of_decide_eq_true e).symm
theorem RW_val {nd n m k i : Nat} {rw : Nat → Option Nat} {ra rl : Nat → Nat} {rf : Nat → Nat → Nat} {tG : Nat → Int32} (h3 : (lst (rl i) (rf i)).Perm (idn (fun d => decide (tG d = nI k)) nd)) : ∀ j, j < rl i → rf i j < nd ∧ tG (rf i j) = nI k := by
  intro j hj
  have := mem_idn.mp (h3.mem_iff.mp (mem_lst.mpr ⟨j, hj, rfl⟩))
  exact ⟨this.1, of_decide_eq_true this.2⟩
theorem RW_len {nd k l : Nat} {f : Nat → Nat} {tG : Nat → Int32} (h3 : (lst l f).Perm (idn (fun d => decide (tG d = nI k)) nd)) : l = cn (fun d => decide (tG d = nI k)) nd := by
  have := h3.length_eq
  rw [lst_len, idn_len] at this
  exact this
theorem cn_98 {st tS : Nat → Int32} {nd : Nat} (h : ∀ d, d < nd → st d = tS d) : cn (stC st 98) nd = wrN tS nd := cn_cong nd (fun d hd => by show decide (st d = 98) = decide (tS d = 98); rw [h d hd])
/-- the buffer is written -/
theorem RW_wr {nd n m q : Nat} {rw rw' : Nat → Option Nat} {ra rl : Nat → Nat} {rf : Nat → Nat → Nat} {st tS tG : Nat → Int32} {L : Nat → Nat} {u : Nat} (h : RW nd n m rw ra rl rf tG) (hst : ∀ d, d < nd → st d = tS d) (hT : ∀ d, d < nd → DG n (tS d) (tG d)) (hn : n ≤ 100)
    (hL : lst (cn (stC st 98) nd) L = idn (stC st 98) nd) (hu : (0 < cn (stC st 98) nd ∧ u = n + 1 ∧ rw' = va_up rw n (some q)) ∨ (cn (stC st 98) nd = 0 ∧ u = n ∧ rw' = rw)) : RW nd u (m + 1) rw' (va_up ra m q) (va_up rl m (cn (stC st 98) nd)) (va_up rf m L) (fl (wrG tS tG n) tG nd) := by
  have h0 := RW_pool (q := q) (N := cn (stC st 98) nd) (L := L) h
  have tg : ∀ k, k < n → ∀ d, d < nd → (decide (tG d = nI k) = decide (fl (wrG tS tG n) tG nd d = nI k)) := by
    intro k hk d hd
    rw [fl_in hd]
    unfold wrG
    by_cases e : tS d = 98
    · rw [if_pos e, DG_98 (hT d hd) e, decide_eq_false (fun x => nI_m1 (n := k) (by omega) x.symm), decide_eq_false (fun x => by have := (nI_eq (a := n) (b := k) (by omega) (by omega)).mp x; omega)]
    · rw [if_neg e]
  have old : ∀ k, k < n → ∃ i, i < m + 1 ∧ rw k = some (va_up ra m q i) ∧ (lst (va_up rl m (cn (stC st 98) nd) i) (va_up rf m L i)).Perm (idn (fun d => decide (fl (wrG tS tG n) tG nd d = nI k)) nd) := by
    intro k hk
    obtain ⟨i, h1, h2, h3⟩ := h0 k hk
    exact ⟨i, h1, h2, h3.trans (List.Perm.of_eq (idn_cg nd (tg k hk)))⟩
  rcases hu with ⟨-, rfl, rfl⟩ | ⟨-, rfl, rfl⟩
  · intro k hk
    by_cases e : k = n
    · subst e
      refine ⟨m, Nat.lt_succ_self m, by rw [va_up_self, va_up_self], ?_⟩
      rw [va_up_self, va_up_self, hL]
      refine List.Perm.of_eq (idn_cg nd (fun d hd => ?_))
      show decide (st d = 98) = decide (fl (wrG tS tG k) tG nd d = nI k)
      rw [fl_in hd, hst d hd]
      unfold wrG
      by_cases e : tS d = 98
      · rw [if_pos e, decide_eq_true e, decide_eq_true rfl]
      · rw [if_neg e, decide_eq_false e, decide_eq_false (fun x => by have := (DG_seg (hT d hd) (by omega) x).2; omega)]
    · obtain ⟨i, h1, h2, h3⟩ := old k (by omega)
      exact ⟨i, h1, by rw [va_up_ne _ _ e]; exact h2, h3⟩
  · exact old
theorem DG_wr {nd n u : Nat} {tS tG : Nat → Int32} (hT : ∀ d, d < nd → DG n (tS d) (tG d)) (hu : u = n + (if 0 < wrN tS nd then 1 else 0)) : ∀ d, d < nd → DG u (fl (wrS tS) tS nd d) (fl (wrG tS tG n) tG nd d) := by
  intro d hd
  rw [fl_in hd, fl_in hd]
  unfold wrS wrG
  by_cases e : tS d = 98
  · rw [if_pos e, if_pos e]
    have hp : 0 < wrN tS nd := by
      rcases Nat.eq_zero_or_pos (wrN tS nd) with z | z
      · have := cn_zero9 nd z d hd
        rw [decide_eq_true e] at this
        exact absurd this (by decide)
      · exact z
    rw [if_pos hp] at hu
    exact Or.inr ⟨Or.inl rfl, n, by omega, rfl⟩
  · rw [if_neg e, if_neg e]
    exact DG_mono (hT d hd) (by omega)
theorem st_wr {nd : Nat} {st tS : Nat → Int32} {L : Nat → Nat} (hst : ∀ d, d < nd → st d = tS d) (hL : lst (cn (stC st 98) nd) L = idn (stC st 98) nd) : ∀ d, d < nd → swF L st (cn (stC st 98) nd) d = fl (wrS tS) tS nd d := by
  intro d hd
  rw [fl_in hd]
  unfold wrS
  by_cases e : tS d = 98
  · rw [if_pos e]
    refine sw_in _ ?_
    rw [hL]
    exact mem_idn.mpr ⟨hd, decide_eq_true ((hst d hd).trans e)⟩
  · rw [if_neg e, sw_out]
    · exact hst d hd
    · rw [hL]
      intro x
      exact e ((hst d hd).symm.trans (of_decide_eq_true (mem_idn.mp x).2))
theorem lst_L9 {P : Nat → Bool} {g : Nat → Nat} {nd : Nat} : lst (cn P nd) (cpN (lvG P g nd) (cn P nd)) = idn P nd := lst_cp.trans (lst_lv nd)
/-! commits, crashes -/
theorem idn_cut {P : Nat → Bool} {kd : Nat} (h : ∀ d, kd ≤ d → P d = false) : ∀ nd, kd ≤ nd → idn P nd = idn P kd
  | 0, hk => by rw [Nat.le_zero.mp hk]
  | nd + 1, hk => by
    by_cases e : kd = nd + 1
    · rw [e]
    · rw [idn_s, if_neg (by rw [h nd (by omega)]; decide), List.append_nil]
      exact idn_cut h nd (by omega)
theorem RW_cr {nd kd n m : Nat} {rw : Nat → Option Nat} {ra rl : Nat → Nat} {rf : Nat → Nat → Nat} {kG g : Nat → Int32} (h : RW kd n m rw ra rl rf kG) (hk : kd ≤ nd) (hn : n ≤ 100) : RW nd n m rw ra rl rf (fl (crF kd kG (-1)) g nd) := by
  intro k hk2
  obtain ⟨i, h1, h2, h3⟩ := h k hk2
  refine ⟨i, h1, h2, h3.trans (List.Perm.of_eq ?_)⟩
  have e1 : idn (fun d => decide (crF kd kG (-1) d = nI k)) nd = idn (fun d => decide (crF kd kG (-1) d = nI k)) kd := idn_cut (fun d hd => by
    show decide (crF kd kG (-1) d = nI k) = false
    unfold crF
    rw [if_neg (by omega)]
    exact decide_eq_false (fun x => nI_m1 (n := k) (by omega) x.symm)) nd hk
  have e2 : idn (fun d => decide (crF kd kG (-1) d = nI k)) kd = idn (fun d => decide (kG d = nI k)) kd := idn_cg kd (fun d hd => by
    show decide (crF kd kG (-1) d = nI k) = decide (kG d = nI k)
    unfold crF
    rw [if_pos hd])
  have e3 : idn (fun d => decide (fl (crF kd kG (-1)) g nd d = nI k)) nd = idn (fun d => decide (crF kd kG (-1) d = nI k)) nd := idn_cg nd (fun d hd => by
    show decide (fl (crF kd kG (-1)) g nd d = nI k) = decide (crF kd kG (-1) d = nI k)
    rw [fl_in hd])
  rw [e3, e1, e2]
theorem DG_cr {nd kd n : Nat} {kS kG s g : Nat → Int32} (h : ∀ d, d < kd → DG n (kS d) (kG d)) : ∀ d, d < nd → DG n (fl (crF kd kS 108) s nd d) (fl (crF kd kG (-1)) g nd d) := by
  intro d hd
  rw [fl_in hd, fl_in hd]
  unfold crF
  by_cases e : d < kd
  · rw [if_pos e, if_pos e]; exact h d e
  · rw [if_neg e, if_neg e]; exact Or.inl ⟨Or.inr (Or.inl rfl), rfl⟩
theorem st_cr {nd kd : Nat} {kS kst s st : Nat → Int32} (h : ∀ d, d < kd → kst d = kS d) : ∀ d, d < nd → fl (crG kd kst) st nd d = fl (crF kd kS 108) s nd d := by
  intro d hd
  rw [fl_in hd, fl_in hd]
  unfold crG crF
  by_cases e : d < kd
  · rw [if_pos e, if_pos e]; exact h d e
  · rw [if_neg e, if_neg e]
theorem cn_cr {nd kd : Nat} {kS kst tS st : Nat → Int32} (h : ∀ d, d < kd → kst d = kS d) (h2 : ∀ d, d < nd → st d = tS d) (h3 : ∀ d, d < kd → ¬ kS d = 98) : cn (crX kd kst st) nd = cn (crB kd kS tS) nd := cn_cong nd (fun d hd => by
  unfold crX crB thB
  rw [h2 d hd]
  have e : crG kd kst d = crF kd kS 108 d := by
    unfold crG crF
    by_cases e : d < kd
    · rw [if_pos e, if_pos e]; exact h d e
    · rw [if_neg e, if_neg e]
  rw [e]
  have e9 : ¬ crF kd kS 108 d = 98 := by
    unfold crF
    by_cases x : d < kd
    · rw [if_pos x]; exact h3 d x
    · rw [if_neg x]; decide
  rw [decide_eq_false e9]
  rfl)
/-! a merge -/
theorem idn_or {A B : Nat → Bool} (h : ∀ d, A d = true → B d = false) : ∀ n, (idn A n ++ idn B n).Perm (idn (fun d => A d || B d) n)
  | 0 => List.Perm.refl _
  | n + 1 => by
    have ih := idn_or h n
    rw [idn_s, idn_s, idn_s]
    by_cases a : A n = true
    · have b := h n a
      rw [if_pos a, if_neg (by rw [b]; decide), if_pos (by show (A n || B n) = true; rw [a]; rfl), List.append_nil]
      have e1 : (idn A n ++ [n]) ++ idn B n = idn A n ++ ([n] ++ idn B n) := List.append_assoc _ _ _
      rw [e1]
      refine (List.Perm.append_left _ List.perm_append_comm).trans ?_
      rw [← List.append_assoc]
      exact List.Perm.append_right _ ih
    · have a2 : A n = false := Bool.eq_false_iff.mpr a
      rw [if_neg a, List.append_nil]
      by_cases b : B n = true
      · rw [if_pos b, if_pos (by show (A n || B n) = true; rw [a2, b]; rfl), ← List.append_assoc]
        exact List.Perm.append_right _ ih
      · rw [if_neg b, if_neg (by show ¬ (A n || B n) = true; rw [a2, Bool.eq_false_iff.mpr b]; decide), List.append_nil, List.append_nil]
        exact ih
theorem idn_fil {P Q : Nat → Bool} {n : Nat} : (idn P n).filter Q = idn (fun d => P d && Q d) n := by
  unfold idn
  rw [List.filter_filter]
  congr 1
  funext d
  exact Bool.and_comm _ _
theorem cn_or {A B : Nat → Bool} (h : ∀ d, A d = true → B d = false) (n : Nat) : cn (fun d => A d || B d) n = cn A n + cn B n := by
  have := (idn_or h n).length_eq
  rw [List.length_append, idn_len, idn_len, idn_len] at this
  exact this.symm
theorem cn_sp {P Q : Nat → Bool} (n : Nat) : cn P n = cn (fun d => P d && Q d) n + cn (fun d => P d && !Q d) n := by
  rw [← cn_or (A := fun d => P d && Q d) (B := fun d => P d && !Q d)]
  · refine cn_cong n (fun d _ => ?_)
    show P d = (P d && Q d || P d && !Q d)
    cases P d <;> cases Q d <;> rfl
  · intro d hd
    show (P d && !Q d) = false
    have h2 : (P d && Q d) = true := hd
    revert h2
    cases P d <;> cases Q d <;> decide
/-- both rows together, without the removed ones -/
theorem mg_row {nd s l1 l2 : Nat} {f1 f2 : Nat → Nat} {st tS tG : Nat → Int32} {n : Nat} (hs : s ≤ 100) (hst : ∀ d, d < nd → st d = tS d) (hT : ∀ d, d < nd → DG n (tS d) (tG d)) (h1 : (lst l1 f1).Perm (idn (fun d => decide (tG d = nI s)) nd)) (h2 : (lst l2 f2).Perm (idn (fun d => decide (tG d = nI (s + 1))) nd)) :
    ((lst (l1 + l2) (ap2 l1 f1 f2)).filter (stC st 115)).Perm (idn (mgL s tS tG) nd) ∧ l1 + l2 = cn (mgL s tS tG) nd + cn (mgB s tS tG) nd := by
  have dj : ∀ d, (fun d => decide (tG d = nI s)) d = true → (fun d => decide (tG d = nI (s + 1))) d = false := fun d hd => decide_eq_false (fun x => by have := (nI_eq (a := s) (b := s + 1) (by omega) (by omega)).mp ((of_decide_eq_true hd).symm.trans x); omega)
  have st9 : ∀ d, d < nd → (decide (tG d = nI s) || decide (tG d = nI (s + 1))) = true → (stC st 115 d = !decide (tS d = 114)) := by
    intro d hd hx
    have hx2 : tG d = nI s ∨ tG d = nI (s + 1) := by simpa using hx
    have hc : tS d = 115 ∨ tS d = 114 := by
      rcases hx2 with e | e
      · exact (DG_seg (hT d hd) (by omega) e).1
      · exact (DG_seg (hT d hd) (by omega) e).1
    unfold stC
    rw [hst d hd]
    rcases hc with e | e <;> rw [e] <;> decide
  have e1 : ∀ d, d < nd → ((decide (tG d = nI s) || decide (tG d = nI (s + 1))) && stC st 115 d) = mgL s tS tG d := by
    intro d hd
    unfold mgL
    cases hx : (decide (tG d = nI s) || decide (tG d = nI (s + 1)))
    · rfl
    · rw [st9 d hd hx]
  refine ⟨?_, ?_⟩
  · rw [lst_ap2]
    have h3 := (h1.append h2).trans (idn_or dj nd)
    have h4 := h3.filter (stC st 115)
    rw [idn_fil] at h4
    exact h4.trans (List.Perm.of_eq (idn_cg nd e1))
  · rw [RW_len h1, RW_len h2, ← cn_or dj nd, cn_sp (Q := fun d => !decide (tS d = 114)) nd]
    congr 1
    refine cn_cong nd (fun d _ => ?_)
    show ((decide (tG d = nI s) || decide (tG d = nI (s + 1))) && !!decide (tS d = 114)) = mgB s tS tG d
    unfold mgB
    rw [Bool.not_not]
/-- where a document's segment goes to -/
theorem mg_tag {nd n2 s d b : Nat} {tS tG : Nat → Int32} (hd : d < nd) (hs : s ≤ n2) (hn : n2 ≤ 90) (hT : DG (n2 + 2) (tS d) (tG d)) (hb : b = 1 ∨ b = 2) : (mgL s tS tG d = true ∧ fl (mvF (s + 1) b (fl (mgA s tS tG) tG nd)) (fl (mgA s tS tG) tG nd) nd d = nI s) ∨ (mgL s tS tG d = false ∧ (fl (mvF (s + 1) b (fl (mgA s tS tG) tG nd)) (fl (mgA s tS tG) tG nd) nd d = -1 ∧ (tG d = -1 ∨ tG d = nI s ∨ tG d = nI (s + 1)))) ∨ (mgL s tS tG d = false ∧ ∃ k, k < s ∧ tG d = nI k ∧ fl (mvF (s + 1) b (fl (mgA s tS tG) tG nd)) (fl (mgA s tS tG) tG nd) nd d = nI k) ∨ (mgL s tS tG d = false ∧ ∃ k, s ≤ k ∧ k < n2 ∧ tG d = nI (k + 2) ∧ fl (mvF (s + 1) b (fl (mgA s tS tG) tG nd)) (fl (mgA s tS tG) tG nd) nd d = nI (k + 2 - b)) := by
  have eg : fl (mvF (s + 1) b (fl (mgA s tS tG) tG nd)) (fl (mgA s tS tG) tG nd) nd d = if nI (s + 1) < mgA s tS tG d then mgA s tS tG d - nI b else mgA s tS tG d := by
    rw [fl_in hd]
    unfold mvF
    rw [fl_in hd]
  rw [eg]
  have notin : ∀ {k : Nat}, k < 1000 → k ≠ s → k ≠ s + 1 → tG d = nI k → mgA s tS tG d = nI k ∧ mgL s tS tG d = false := by
    intro k hk h1 h2 e
    have a1 : ¬ tG d = nI s := fun x => h1 ((nI_eq (by omega) (by omega)).mp (e.symm.trans x))
    have a2 : ¬ tG d = nI (s + 1) := fun x => h2 ((nI_eq (by omega) (by omega)).mp (e.symm.trans x))
    refine ⟨?_, ?_⟩
    · unfold mgA
      rw [if_neg (fun x => x.elim a1 a2)]
      exact e
    · unfold mgL
      rw [decide_eq_false a1, decide_eq_false a2]
      rfl
  have isin : (tG d = nI s ∨ tG d = nI (s + 1)) → (mgL s tS tG d = true ∧ mgA s tS tG d = nI s) ∨ (mgL s tS tG d = false ∧ mgA s tS tG d = -1) := by
    intro h
    have hx : (decide (tG d = nI s) || decide (tG d = nI (s + 1))) = true := by simpa using h
    unfold mgL mgA
    rw [hx, if_pos h]
    by_cases r : tS d = 114
    · right
      rw [if_pos r, decide_eq_true r]
      exact ⟨rfl, rfl⟩
    · left
      rw [if_neg r, decide_eq_false r]
      exact ⟨rfl, rfl⟩
  have lt_m1 : ¬ nI (s + 1) < (-1 : Int32) := by
    intro h
    rw [Int32.lt_iff_toInt_lt, nI_toInt (by omega)] at h
    have : (-1 : Int32).toInt = -1 := by decide
    omega
  rcases hT with ⟨-, e⟩ | ⟨-, k, hk, e⟩
  · right; left
    have a1 : ¬ tG d = nI s := fun x => nI_m1 (n := s) (by omega) (x.symm.trans e)
    have a2 : ¬ tG d = nI (s + 1) := fun x => nI_m1 (n := s + 1) (by omega) (x.symm.trans e)
    have b1 : mgA s tS tG d = -1 := by
      unfold mgA
      rw [if_neg (fun x => x.elim a1 a2)]
      exact e
    have b2 : mgL s tS tG d = false := by
      unfold mgL
      rw [decide_eq_false a1, decide_eq_false a2]
      rfl
    refine ⟨b2, ?_, Or.inl e⟩
    rw [b1, if_neg lt_m1]
  · rcases Nat.lt_or_ge k s with h1 | h1
    · right; right; left
      obtain ⟨b1, b2⟩ := notin (by omega) (by omega) (by omega) e
      refine ⟨b2, k, h1, e, ?_⟩
      rw [b1, if_neg (nI_nlt (by omega) (by omega))]
    · by_cases h2 : k = s ∨ k = s + 1
      · have h3 : tG d = nI s ∨ tG d = nI (s + 1) := h2.elim (fun (x : k = s) => Or.inl (by rw [← x]; exact e)) (fun (x : k = s + 1) => Or.inr (by rw [← x]; exact e))
        rcases isin h3 with ⟨b2, b1⟩ | ⟨b2, b1⟩
        · left
          refine ⟨b2, ?_⟩
          rw [b1, if_neg (nI_nlt (by omega) (by omega))]
        · right; left
          refine ⟨b2, ?_, Or.inr h3⟩
          rw [b1, if_neg lt_m1]
      · right; right; right
        obtain ⟨b1, b2⟩ := notin (k := k) (by omega) (by omega) (by omega) e
        obtain ⟨j, rfl⟩ : ∃ j, k = j + 2 := ⟨k - 2, by omega⟩
        refine ⟨b2, j, by omega, by omega, e, ?_⟩
        rw [b1, if_pos (nI_lt (by omega) (by omega))]
        exact pk_sub (by omega)
theorem mgL_no {nd n2 s : Nat} {tS tG : Nat → Int32} (h : ¬ 0 < cn (mgL s tS tG) nd) : ∀ d, d < nd → mgL s tS tG d = false := cn_zero9 nd (by omega)
/-- the rows behind a merge -/
theorem RW_mg {nd n2 s m q N b u lo hi : Nat} {rw rw' : Nat → Option Nat} {ra rl : Nat → Nat} {rf : Nat → Nat → Nat} {tS tG : Nat → Int32} {L : Nat → Nat} (h : RW nd (n2 + 2) m rw ra rl rf tG) (hT : ∀ d, d < nd → DG (n2 + 2) (tS d) (tG d)) (hs : s ≤ n2) (hn : n2 ≤ 90)
    (hL : (lst N L).Perm (idn (mgL s tS tG) nd)) (hN : N = cn (mgL s tS tG) nd) (hc : (0 < N ∧ b = 1 ∧ u = n2 + 1 ∧ lo = s + 1 ∧ hi = n2 + 1) ∨ (N = 0 ∧ b = 2 ∧ u = n2 ∧ lo = s ∧ hi = n2)) (hr : rw' = shO lo hi b (va_up rw s (some q))) :
    RW nd u (m + 1) rw' (va_up ra m q) (va_up rl m N) (va_up rf m L) (fl (mvF (s + 1) b (fl (mgA s tS tG) tG nd)) (fl (mgA s tS tG) tG nd) nd) ∧ ∀ d, d < nd → DG u (tS d) (fl (mvF (s + 1) b (fl (mgA s tS tG) tG nd)) (fl (mgA s tS tG) tG nd) nd d) := by
  have hb : b = 1 ∨ b = 2 := by omega
  have tg := fun d (hd : d < nd) => mg_tag (b := b) hd hs hn (hT d hd) hb
  have h0 := RW_pool (q := q) (N := N) (L := L) h
  have nI_ne : ∀ {a c : Nat}, a < 1000 → c < 1000 → a ≠ c → ¬ nI a = nI c := fun h1 h2 h3 e => h3 ((nI_eq (by omega) (by omega)).mp e)
  have zero : N = 0 → ∀ d, d < nd → mgL s tS tG d = false := fun e => cn_zero9 nd (hN ▸ e)
  -- an older row, by its old number j, stands at k now
  have move : ∀ k j : Nat, j < n2 + 2 → k < 1000 → rw' k = rw j → (∀ d, d < nd → (fl (mvF (s + 1) b (fl (mgA s tS tG) tG nd)) (fl (mgA s tS tG) tG nd) nd d = nI k ↔ tG d = nI j)) → ∃ i, i < m + 1 ∧ rw' k = some (va_up ra m q i) ∧ (lst (va_up rl m N i) (va_up rf m L i)).Perm (idn (fun d => decide (fl (mvF (s + 1) b (fl (mgA s tS tG) tG nd)) (fl (mgA s tS tG) tG nd) nd d = nI k)) nd) := by
    intro k j hj hk e1 e2
    obtain ⟨i, i1, i2, i3⟩ := h0 j hj
    refine ⟨i, i1, e1.trans i2, i3.trans (List.Perm.of_eq (idn_cg nd (fun d hd => ?_)))⟩
    exact decide_eq_decide.mpr (e2 d hd).symm
  refine ⟨fun k hk => ?_, fun d hd => ?_⟩
  · rcases Nat.lt_or_ge k s with hks | hks
    · refine move k k (by omega) (by omega) ?_ (fun d hd => ?_)
      · rw [hr]
        unfold shO
        rw [if_neg (by omega), va_up_ne _ _ (by omega)]
      · rcases tg d hd with ⟨a, e⟩ | ⟨a, e, e2⟩ | ⟨a, j, j1, j2, e⟩ | ⟨a, j, j1, j2, j3, e⟩
        · rw [e]
          refine ⟨fun x => absurd x (nI_ne (by omega) (by omega) (by omega)), fun x => ?_⟩
          have h9 : mgL s tS tG d = false := by
            unfold mgL
            rw [x, decide_eq_false (nI_ne (a := k) (c := s) (by omega) (by omega) (by omega)), decide_eq_false (nI_ne (a := k) (c := s + 1) (by omega) (by omega) (by omega))]
            rfl
          rw [h9] at a
          exact absurd a (by decide)
        · rw [e]
          refine ⟨fun x => absurd x.symm (nI_m1 (by omega)), fun x => ?_⟩
          rcases e2 with y | y | y
          · exact absurd (x.symm.trans y) (nI_m1 (by omega))
          · exact absurd (x.symm.trans y) (nI_ne (by omega) (by omega) (by omega))
          · exact absurd (x.symm.trans y) (nI_ne (by omega) (by omega) (by omega))
        · rw [e, j2]
        · rw [e, j3]
          exact ⟨fun x => absurd x (nI_ne (by omega) (by omega) (by omega)), fun x => absurd x (nI_ne (by omega) (by omega) (by omega))⟩
    · by_cases hk2 : k = s ∧ 0 < N
      · obtain ⟨rfl, hp⟩ := hk2
        refine ⟨m, Nat.lt_succ_self m, ?_, ?_⟩
        · rw [hr, va_up_self]
          unfold shO
          rw [if_neg (by omega), va_up_self]
        · rw [va_up_self, va_up_self]
          refine hL.trans (List.Perm.of_eq (idn_cg nd (fun d hd => ?_)))
          rcases tg d hd with ⟨a, e⟩ | ⟨a, e, -⟩ | ⟨a, j, j1, -, e⟩ | ⟨a, j, j1, j2, -, e⟩
          · rw [a, e, decide_eq_true rfl]
          · rw [a, e, decide_eq_false (fun x => nI_m1 (n := k) (by omega) x.symm)]
          · rw [a, e, decide_eq_false (nI_ne (by omega) (by omega) (by omega))]
          · rw [a, e, decide_eq_false (nI_ne (by omega) (by omega) (by omega))]
      · have hlo : lo ≤ k := by omega
        refine move k (k + b) (by omega) (by omega) ?_ (fun d hd => ?_)
        · rw [hr]
          unfold shO
          rw [if_pos (by omega), va_up_ne _ _ (by omega)]
        · rcases tg d hd with ⟨a, e⟩ | ⟨a, e, e2⟩ | ⟨a, j, j1, j2, e⟩ | ⟨a, j, j1, j2, j3, e⟩
          · have hp : 0 < N := by
              rcases Nat.eq_zero_or_pos N with z | z
              · rw [zero z d hd] at a; exact absurd a (by decide)
              · exact z
            rw [e]
            refine ⟨fun x => absurd x (nI_ne (by omega) (by omega) (by omega)), fun x => ?_⟩
            have h9 : mgL s tS tG d = false := by
              unfold mgL
              rw [x, decide_eq_false (nI_ne (a := k + b) (c := s) (by omega) (by omega) (by omega)), decide_eq_false (nI_ne (a := k + b) (c := s + 1) (by omega) (by omega) (by omega))]
              rfl
            rw [h9] at a
            exact absurd a (by decide)
          · rw [e]
            refine ⟨fun x => absurd x.symm (nI_m1 (by omega)), fun x => ?_⟩
            rcases e2 with y | y | y
            · exact absurd (x.symm.trans y) (nI_m1 (by omega))
            · exact absurd (x.symm.trans y) (nI_ne (by omega) (by omega) (by omega))
            · exact absurd (x.symm.trans y) (nI_ne (by omega) (by omega) (by omega))
          · rw [e, j2]
            exact ⟨fun x => absurd x (nI_ne (by omega) (by omega) (by omega)), fun x => absurd x (nI_ne (by omega) (by omega) (by omega))⟩
          · rw [e, j3]
            constructor
            · intro x
              have := (nI_eq (a := j + 2 - b) (b := k) (by omega) (by omega)).mp x
              rw [show j + 2 = k + b by omega]
            · intro x
              have := (nI_eq (a := j + 2) (b := k + b) (by omega) (by omega)).mp x
              rw [show j + 2 - b = k by omega]
  · rcases tg d hd with ⟨a, e⟩ | ⟨a, e, e2⟩ | ⟨a, j, j1, j2, e⟩ | ⟨a, j, j1, j2, j3, e⟩
    · have hp : 0 < N := by
        rcases Nat.eq_zero_or_pos N with z | z
        · rw [zero z d hd] at a; exact absurd a (by decide)
        · exact z
      rw [e]
      have hc9 : tS d = 115 ∨ tS d = 114 := by
        have hx : tG d = nI s ∨ tG d = nI (s + 1) := by
          unfold mgL at a
          have := (Bool.and_eq_true _ _ ▸ a).1
          simpa using this
        rcases hx with x | x
        · exact (DG_seg (hT d hd) (by omega) x).1
        · exact (DG_seg (hT d hd) (by omega) x).1
      exact Or.inr ⟨hc9, s, by omega, rfl⟩
    · rw [e]
      refine Or.inl ⟨?_, rfl⟩
      rcases e2 with y | y | y
      · rcases hT d hd with ⟨h1, -⟩ | ⟨-, k, hk, ek⟩
        · exact h1
        · exact absurd (ek.symm.trans y) (nI_m1 (by omega))
      · rcases (DG_seg (hT d hd) (by omega) y).1 with z | z
        · exfalso
          unfold mgL at a
          rw [decide_eq_true y, decide_eq_false (show ¬ tS d = 114 by rw [z]; decide)] at a
          exact absurd a (by simp)
        · exact Or.inr (Or.inr z)
      · rcases (DG_seg (hT d hd) (by omega) y).1 with z | z
        · exfalso
          unfold mgL at a
          rw [decide_eq_true y, decide_eq_false (show ¬ tS d = 114 by rw [z]; decide)] at a
          exact absurd a (by simp)
        · exact Or.inr (Or.inr z)
    · rw [e]; exact Or.inr ⟨(DG_seg (hT d hd) (by omega) j2).1, j, by omega, rfl⟩
    · rw [e]; exact Or.inr ⟨(DG_seg (hT d hd) (by omega) j3).1, j + 2 - b, by omega, rfl⟩
/-! sums over the segments -/
def sumN (f : Nat → Nat) : Nat → Nat
  | 0 => 0
  | k + 1 => sumN f k + f k
theorem sumN_cg {f g : Nat → Nat} : ∀ n, (∀ k, k < n → f k = g k) → sumN f n = sumN g n
  | 0, _ => rfl
  | n + 1, h => by
    show sumN f n + f n = sumN g n + g n
    rw [sumN_cg n (fun k hk => h k (by omega)), h n (by omega)]
theorem sumN_add {f g : Nat → Nat} : ∀ n, sumN (fun k => f k + g k) n = sumN f n + sumN g n
  | 0 => rfl
  | n + 1 => by
    show sumN (fun k => f k + g k) n + (f n + g n) = (sumN f n + f n) + (sumN g n + g n)
    rw [sumN_add n]
    omega
theorem sumN_z {f : Nat → Nat} : ∀ n, (∀ k, k < n → f k = 0) → sumN f n = 0
  | 0, _ => rfl
  | n + 1, h => by
    show sumN f n + f n = 0
    rw [sumN_z n (fun k hk => h k (by omega)), h n (by omega)]
theorem sumN_1 {f : Nat → Nat} {j : Nat} (hj : f j = 1) (h : ∀ k, k ≠ j → f k = 0) : ∀ n, j < n → sumN f n = 1
  | 0, hn => absurd hn (Nat.not_lt_zero j)
  | n + 1, hn => by
    show sumN f n + f n = 1
    by_cases e : n = j
    · subst e
      rw [sumN_z n (fun k hk => h k (by omega)), hj]
    · rw [sumN_1 hj h n (by omega), h n e]
/-- every document that is in a segment is in one -/
theorem sum_seg {n : Nat} {tG : Nat → Int32} {R : Nat → Bool} (hn : n ≤ 1000) : ∀ nd, (∀ d, d < nd → tG d = -1 ∨ ∃ k, k < n ∧ tG d = nI k) → sumN (fun k => cn (fun d => decide (tG d = nI k) && R d) nd) n = cn (fun d => !decide (tG d = -1) && R d) nd
  | 0, _ => sumN_z n (fun _ _ => rfl)
  | nd + 1, h => by
    have ih := sum_seg (R := R) hn nd (fun d hd => h d (by omega))
    have e1 : sumN (fun k => cn (fun d => decide (tG d = nI k) && R d) (nd + 1)) n = sumN (fun k => cn (fun d => decide (tG d = nI k) && R d) nd) n + sumN (fun k => if (decide (tG nd = nI k) && R nd) = true then 1 else 0) n := sumN_add n
    rw [e1, ih]
    show _ = cn (fun d => !decide (tG d = -1) && R d) nd + (if (!decide (tG nd = -1) && R nd) = true then 1 else 0)
    congr 1
    cases hR : R nd
    · rw [sumN_z n (fun k _ => by rw [Bool.and_false]; rfl), Bool.and_false]; rfl
    · rcases h nd (Nat.lt_succ_self nd) with e | ⟨j, hj, e⟩
      · rw [decide_eq_true e, sumN_z n (fun k hk => by
          rw [e, decide_eq_false (fun x => nI_m1 (n := k) (by omega) x.symm)]; rfl)]
        rfl
      · rw [decide_eq_false (show ¬ tG nd = -1 from fun x => nI_m1 (n := j) (by omega) (e.symm.trans x))]
        have e9 : sumN (fun k => if (decide (tG nd = nI k) && true) = true then 1 else 0) n = sumN (fun k => if k = j then 1 else 0) n := sumN_cg n (fun k hk => by
          show (if (decide (tG nd = nI k) && true) = true then 1 else 0) = (if k = j then 1 else 0)
          by_cases x : k = j
          · subst x; rw [e, decide_eq_true rfl, if_pos rfl]; rfl
          · rw [if_neg x, e, decide_eq_false (fun y => x ((nI_eq (a := j) (b := k) (by omega) (by omega)).mp y).symm)]; rfl)
        rw [e9, sumN_1 (f := fun k => if k = j then 1 else 0) (j := j) (if_pos rfl) (fun k hk => if_neg hk) n hj]
        rfl
