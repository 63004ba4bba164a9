theorem RI_mono {tn : Nat} {I : Nat → Int32} {F : Nat → Nat → Int32} {h0 : Nat → Nat} {c9 : CS} (h : RI tn I F h0 c9) : RI (tn + 1) I F h0 c9 := by
  obtain ⟨ns, nd, nq, nv, nsg, cm, kd, ksg, vs, ow, bd, LN, CL, Q1, Q2, DS, WT, LV, IX, hens1, hens19, hendd, hendd9, hewo, hewo9, hens, hens9t, hecm, hecm9t, hekd, hekd9, heks, heks9t, henv, hnv, hevs, hevs9t, henq, hnq, hbd, hbd9, hopn, hLN, hAC, hAK, hAB, hPB, hIX, hCL, hQ, hLV, hh0, hrvs, hrv, hrvn, hrvi, hrvl⟩ := h
  exact ⟨ns, nd, nq, nv, nsg, cm, kd, ksg, vs, ow, bd, LN, CL, Q1, Q2, DS, WT, LV, IX, hens1, hens19, hendd, hendd9, hewo, hewo9, hens, (by omega), hecm, (by omega), hekd, hekd9, heks, (by omega), henv, hnv, hevs, (by omega), henq, hnq, hbd, hbd9, hopn, hLN, hAC, hAK, hAB, hPB, hIX, (fun e he => ⟨(hCL e he).1, Nat.le_succ_of_le (hCL e he).2⟩), hQ, hLV, hh0, hrvs, hrv, hrvn, hrvi, hrvl⟩
theorem len_lt {L : Nat} (h : L < 6) : Int32.ofNat L - 6 < 0 := by
  rcases (show L = 0 ∨ L = 1 ∨ L = 2 ∨ L = 3 ∨ L = 4 ∨ L = 5 by omega) with rfl | rfl | rfl | rfl | rfl | rfl <;> decide
theorem len_end {L tn : Nat} (hL : L ≤ 3072) (ht : 6 * tn ≤ 3072) (h : L < 6 * tn + 6) : Int32.ofNat L - 6 < nI (6 * tn) := by
  rcases Nat.lt_or_ge L 6 with h6 | h6
  · exact Int32.not_le.mp (fun e => nI_pos (n := 6 * tn) (by omega) (Int32.not_le.mp (fun e2 => Int32.not_le.mpr (len_lt h6) (Int32.le_trans e2 e))))
  · show nI L - nI 6 < nI (6 * tn)
    rw [pk_sub h6]
    exact nI_lt (by omega) (by omega)
theorem len_on {L tn : Nat} (hL : L ≤ 3072) (h : 6 * tn + 6 ≤ L) : ¬ Int32.ofNat L - 6 < nI (6 * tn) := by
  show ¬ nI L - nI 6 < nI (6 * tn)
  rw [pk_sub (by omega)]
  exact nI_nlt (by omega) (by omega)
set_option maxHeartbeats 4000000 in
set_option maxRecDepth 100000 in
/-- the law's turns, from the loop's head -/
theorem law_turns {p : Program} {e : Env} {s : State} {m : MethodId} {below : List Frame} {meth : Method} {c : Code} (l : Launch) (hlt : l.stackTraces = false) {bs L : Nat} {xs : Nat → Int32} (C0 : lw_At p s m meth c bs L xs) (hL : L ≤ 3072) (D : va_G) (dA : Nat → ClassId) (E : Nat) (A : Nat → Prop) (hAe : (fun q : Nat => s.heap.size ≤ q) = A) (b : Nat → Nat) (o od : Nat) (hK : va_K D vwCl (TY dA) s) (hZ : ZZ dA E A s s.heap) : ∀ (n tn cl sl : Nat), tn + n = 512 → cl + 300 * n ≤ 600000 → sl + 6000 * n ≤ 7200000 → ∀ (I : Nat → Int32) (F : Nat → Nat → Int32) (h0 : Nat → Nat) (s0 : Nat → Int64) (CT M tw tp tx tL : Nat → Int32) (c9 : CS) (g : Nat → Int64) (gd : Nat → UInt64), RI tn I F h0 c9 → CI E tn c9 → True → ∀ (H : Heap) (locs : List Loc), va_P D vwCl (LWS o od I F h0 s0 CT M tw tp tx tL c9 g gd dA b) H → va_D A (LWS o od I F h0 s0 CT M tw tp tx tL c9 g gd dA b) → va_S A s.heap H locs → ∀ ls : Array Slot, lv_has ls 9 [(5, .int (nI (6 * tn))), (4, .ref od), (3, .ref o), (2, .ref (b 0)), (1, .ref (c9.xa 0)), (0, .ref bs)] → W p l e room_1 s m #[Value.ref bs] below meth c H locs (cl) (sl) (lw_Z below #[Value.ref bs] s) (F0 m 28 ls []) := by
  intro n
  induction n using Nat.strongRecOn with
  | _ n ih =>
    intro tn cl sl hn hC hB I F h0 s0 CT M tw tp tx tL c9 g gd hRI hCI hrel H locs hP hD hS ls hl
    obtain ⟨hx, hb, hr, hml, hown, hts0, hX, hbl, hlocks, hgv⟩ := id C0
    have hbA : ¬ A bs := by rw [← hAe]; exact Nat.not_le.mpr hbl
    refine lv_iload hx hb dL_law_28 (lv_at hl 0 rfl) ?_
    refine lv_aload_n hx hb dL_law_30 rfl (lv_at hl 5 rfl) ?_
    refine va_slen hx hb hX hbl hbA hS dL_law_31 ?_
    refine lv_bipush (v := 6) hx hb dL_law_32 (by decide) ?_
    refine lv_isub hx hb dL_law_34 ?_
    rcases Nat.lt_or_ge L (6 * tn + 6) with h6 | h6
    · refine lv_icmp_gt (tgt := 1467) hx hb dL_law_35 (by decide) (fun _ => ?_) (fun h9 => absurd (len_end hL (by omega) h6) h9)
      refine lv_iconst (v := 1) hx hb dL_law_1467 (by decide) ?_
      rw [← hAe] at hS
      refine va_forget (fun q hq => hS.2.2 q hq) ?_
      refine W.widen (k := 603072) (n := 7207018) (by omega) (by omega) ?_
      refine W.base ?_
      exact lw_ret (Drawn.sameBut.refl s.drawn lw_cs) hx hb hr hlocks dL_law_1468
    · refine lv_icmp_gt (tgt := 1467) hx hb dL_law_35 (by decide) (fun h9 => absurd h9 (len_on hL h6)) (fun _ => ?_)
      obtain ⟨k, rfl⟩ : ∃ k, n = k + 1 := ⟨n - 1, by omega⟩
      refine lv_aload_n hx hb dL_law_38 rfl (lv_at hl 5 rfl) ?_
      refine lv_iload hx hb dL_law_39 (lv_at hl 0 rfl) ?_
      refine va_sld hx hb hX hbl hbA hS (vp_in_nI (n := 6 * tn) (by omega) (by omega)) dL_law_41 ?_
      refine lv_topi (fun x9 ex9 => ?_)
      refine lv_bipush (v := 63) hx hb dL_law_42 (by decide) ?_
      refine lv_iand hx hb dL_law_44 ?_
      obtain ⟨j, hj, ej⟩ := pk_andE x9 (m := 63) 6 (by decide)
      refine lv_topi (fun xj exj => ?_)
      replace exj := exj.trans ej
      subst exj
      have hN : ∀ (I : Nat → Int32) (F : Nat → Nat → Int32) (h0 : Nat → Nat) (s0 : Nat → Int64) (CT M tw tp tx tL : Nat → Int32) (c8 : CS) (g : Nat → Int64) (gd : Nat → UInt64), RI (tn + 1) I F h0 c8 → CI E (tn + 1) c8 → c8.xa = c9.xa → True → ∀ (H : Heap) (locs : List Loc), va_P D vwCl (LWS o od I F h0 s0 CT M tw tp tx tL c8 g gd dA b) H → va_D A (LWS o od I F h0 s0 CT M tw tp tx tL c8 g gd dA b) → va_S A s.heap H locs → ∀ ls : Array Slot, lv_has ls 9 [(5, .int (nI (6 * tn))), (4, .ref od), (3, .ref o), (2, .ref (b 0)), (1, .ref (c9.xa 0)), (0, .ref bs)] → W p l e room_1 s m #[Value.ref bs] below meth c H locs (cl + 300) (sl + 6000) (lw_Z below #[Value.ref bs] s) (F0 m 1461 ls []) := by
        intro I F h0 s0 CT M tw tp tx tL c8 g gd hRI hCI hxa hbd H locs hP hD hS ls hl
        rw [← hxa] at hl
        refine lv_iinc (v := nI (6 * (tn + 1))) (lv' := [(5, .int (nI (6 * (tn + 1)))), (4, .ref od), (3, .ref o), (2, .ref (b 0)), (1, .ref (c8.xa 0)), (0, .ref bs)]) hx hb dL_law_1461 hl (k := 0) rfl (show nI (6 * tn) + Int32.ofInt 6 = nI (6 * (tn + 1)) from by rw [show 6 * (tn + 1) = 6 * tn + 6 by omega, show Int32.ofInt 6 = nI 6 by decide]; exact nI_add (6 * tn) 6) (by decide) rfl (fun ls hl => ?_)
        refine lv_goto (tgt := 28) hx hb dL_law_1464 (by decide) ?_
        exact ih k (Nat.lt_succ_self k) (tn + 1) _ _ (by omega) (by omega) (by omega) I F h0 s0 CT M tw tp tx tL c8 g gd hRI hCI hbd H locs hP hD hS ls hl
      rcases Nat.lt_or_ge j 36 with h36 | h36
      · exact law_all l hlt C0 hL D dA E A hAe b o od hK hZ tn cl sl h6 (by omega) (by omega) I F h0 s0 CT M tw tp tx tL c9 g gd hRI hCI hrel hN H locs hP hD hS ls hl j h36
      · refine lv_tableOut (tgt := 1461) hx hb dL_law_45 (Or.inr (by rw [nI_toInt (by omega)]; omega)) (by decide) ?_
        refine W.widen (k := cl + 300) (n := sl + 6000) (by omega) (by omega) ?_
        exact hN I F h0 s0 CT M tw tp tx tL c9 g gd (RI_mono hRI) (CI_mono hCI) rfl hrel H locs hP hD hS ls hl
