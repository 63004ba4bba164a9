/-! CONTRACTS, general -/
theorem q685 : (.selects RX4 yX4_addToBuffer yX4_addToBuffer : Cond) ∈ WA := WA_of (tb_3 114 rfl) rfl
theorem q686 : (.code yX4_addToBuffer cX4_addToBuffer 1 none : Cond) ∈ WA := WA_of (tb_3 115 rfl) rfl
theorem q687 : (.methodLink RX8 134 yX4_addToBuffer : Cond) ∈ WA := WA_of (tb_3 112 rfl) rfl
theorem q688 : (.instanceMethod yX4_addToBuffer : Cond) ∈ WA := WA_of (tb_3 113 rfl) rfl
theorem q689 : (.selects RX5 yX5_change yX5_change : Cond) ∈ WA := WA_of (tb_3 75 rfl) rfl
theorem q690 : (.code yX5_change cX5_change 2 none : Cond) ∈ WA := WA_of (tb_3 76 rfl) rfl
theorem q691 : (.methodLink RX8 130 yX5_change : Cond) ∈ WA := WA_of (tb_3 73 rfl) rfl
theorem q692 : (.instanceMethod yX5_change : Cond) ∈ WA := WA_of (tb_3 74 rfl) rfl
def ctR (s : TXS) (w p : Nat → Int32) : Prop := ∀ j, j < s.1 → s.2.1 j = w j ∧ s.2.2.1 j = p j ∧ okW (w j) = true
theorem rg60 : ∀ k, k < 60 → okW (lowF 108 (nI k)) = true ∧ okW (lowF 109 (nI k)) = true ∧ evF (nI k) = lowF 109 (nI k) := by decide +kernel
theorem okW_nI {x : Int32} (h : okW x = true) : ∃ k, k < 60 ∧ x = nI k := by
  rcases pk_ix x (n := 60) (by decide) with h1 | h1 | h1
  · simp [okW, inR, h1] at h
  · have h2 := (i59 x).mp h1
    simp [okW, inR, h2] at h
  · exact h1
theorem low_o {k v : Int32} (h1 : ¬ k = 108) (h2 : ¬ k = 109) : lowF k v = v := by simp [lowF, h1, h2]
theorem lws_w {k : Int32} {s : TXS} {j : Nat} (hj : j < s.1) : (lwS k s).2.1 j = lowF k (s.2.1 j) := by
  show fl (fun j => lowF k (s.2.1 j)) s.2.1 s.1 j = lowF k (s.2.1 j)
  rw [fl_in hj]
theorem ct_l {s : TXS} {w p : Nat → Int32} {a b : Int32} (h : ctR s w p) : (gtS 108 a b s).1 = s.1 ∧ ctR (gtS 108 a b s) (fl (fun j => lowF 108 (w j)) w s.1) p := by
  refine ⟨rfl, fun j hj => ?_⟩
  have hj2 : j < s.1 := hj
  obtain ⟨e1, e2, e3⟩ := h j hj2
  obtain ⟨k, hk, ek⟩ := okW_nI e3
  rw [fl_in hj2]
  refine ⟨?_, e2, ?_⟩
  · show (lwS 108 s).2.1 j = _
    rw [lws_w hj2, e1]
  · rw [ek]; exact (rg60 k hk).1
theorem ct_m {s : TXS} {w p : Nat → Int32} {a b : Int32} (h : ctR s w p) : (gtS 109 a b s).1 = s.1 ∧ ctR (gtS 109 a b s) (fl (fun j => evF (w j)) w s.1) p := by
  refine ⟨rfl, fun j hj => ?_⟩
  have hj2 : j < s.1 := hj
  obtain ⟨e1, e2, e3⟩ := h j hj2
  obtain ⟨k, hk, ek⟩ := okW_nI e3
  rw [fl_in hj2]
  refine ⟨?_, e2, ?_⟩
  · show (lwS 109 s).2.1 j = _
    rw [lws_w hj2, e1, ek]; exact (rg60 k hk).2.2.symm
  · rw [ek, (rg60 k hk).2.2]; exact (rg60 k hk).2.1
theorem kpt_cg {w w' : Nat → Int32} {a : Int32} : ∀ n, (∀ j, j < n → w j = w' j) → kpt w a n = kpt w' a n
  | 0, _ => rfl
  | n + 1, h => by
    unfold kpt
    rw [kpt_cg n (fun j hj => h j (by omega)), h n (by omega)]
theorem cmp_ex {w w' : Nat → Int32} {a : Int32} : ∀ n, (∀ j, j < n → w j = w' j) → ∀ j, j < kpt w a n → ∃ i, i < n ∧ ¬ w i = a ∧ (∀ v g, cmp w a v g n j = v i) ∧ ∀ v g, cmp w' a v g n j = v i
  | 0, _, j, hj => absurd hj (Nat.not_lt_zero j)
  | n + 1, h, j, hj => by
    have ih := cmp_ex (a := a) n (fun j hj => h j (by omega))
    have hk := kpt_cg (a := a) n (fun j hj => h j (by omega))
    by_cases e : w n = a
    · have e2 : w' n = a := (h n (by omega)).symm.trans e
      have hj2 : j < kpt w a n := by unfold kpt at hj; rw [if_pos e] at hj; exact hj
      obtain ⟨i, h1, h2, h3, h4⟩ := ih j hj2
      refine ⟨i, by omega, h2, fun v g => ?_, fun v g => ?_⟩
      · rw [← cmp_n e]; exact h3 v g
      · rw [← cmp_n e2]; exact h4 v g
    · have e2 : ¬ w' n = a := fun q => e ((h n (by omega)).trans q)
      have hj2 : j < kpt w a n + 1 := by unfold kpt at hj; rw [if_neg e] at hj; exact hj
      by_cases e3 : j = kpt w a n
      · refine ⟨n, by omega, e, fun v g => ?_, fun v g => ?_⟩
        · rw [← cmp_y e, e3]; exact if_pos rfl
        · rw [← cmp_y e2, e3, hk]; exact if_pos rfl
      · obtain ⟨i, h1, h2, h3, h4⟩ := ih j (by omega)
        refine ⟨i, by omega, h2, fun v g => ?_, fun v g => ?_⟩
        · rw [← cmp_y e]; exact (if_neg e3).trans (h3 v g)
        · rw [← cmp_y e2]; exact (if_neg (by rw [← hk]; exact e3)).trans (h4 v g)
theorem cntA_cg {w w' p p' : Nat → Int32} {a q : Int32} : ∀ n, (∀ j, j < n → w j = w' j ∧ p j = p' j) → cntA w p a q n = cntA w' p' a q n
  | 0, _ => rfl
  | n + 1, h => by
    unfold cntA
    rw [cntA_cg n (fun j hj => h j (by omega)), (h n (by omega)).1, (h n (by omega)).2]
theorem ct_tk {s : TXS} {w p v : Nat → Int32} {k a b : Int32} (h : ctR s w p) (h1 : ¬ k = 108) (h2 : ¬ k = 109) (hk : gtS k a b s = lwS k (tkS (bI (decide (k = 99))) a s)) (hv : ∀ i, i < s.1 → ¬ w i = a → plF (bI (decide (k = 99))) a s i = v i) (g : Nat → Int32) : (gtS k a b s).1 = kpt w a s.1 ∧ ctR (gtS k a b s) (cmp w a w w s.1) (cmp w a v g s.1) := by
  have hw : ∀ j, j < s.1 → w j = s.2.1 j := fun j hj => (h j hj).1.symm
  have e0 : (gtS k a b s).1 = kpt w a s.1 := by rw [hk]; exact (kpt_cg s.1 hw).symm
  refine ⟨e0, fun j hj => ?_⟩
  rw [e0] at hj
  obtain ⟨i, i1, i2, i3, i4⟩ := cmp_ex s.1 hw j hj
  have hj9 : j < (tkS (bI (decide (k = 99))) a s).1 := by show j < kpt s.2.1 a s.1; rw [← kpt_cg s.1 hw]; exact hj
  rw [i3, i3]
  refine ⟨?_, ?_, (h i i1).2.2⟩
  · rw [hk, lws_w hj9, low_o h1 h2]
    exact (i4 _ _).trans (h i i1).1
  · rw [hk]
    show cmp s.2.1 a (plF _ a s) s.2.2.1 s.1 j = _
    rw [i4]
    exact hv i i1 i2
theorem ct_s {s : TXS} {w p : Nat → Int32} {a b : Int32} (h : ctR s w p) : (gtS 115 a b s).1 = kpt w a s.1 ∧ ctR (gtS 115 a b s) (cmp w a w w s.1) (cmp w a p p s.1) := ct_tk (k := 115) h (by decide) (by decide) rfl (fun i hi _ => by
  show s.2.2.1 i - nI (tkf (bI false) _ _ _ _ _) = p i
  unfold tkf
  rw [if_pos (by decide), (h i hi).2.1]
  exact Int32.sub_zero _) p
theorem ct_c {s : TXS} {w p : Nat → Int32} {a b : Int32} (h : ctR s w p) : (gtS 99 a b s).1 = kpt w a s.1 ∧ ctR (gtS 99 a b s) (cmp w a w w s.1) (cmp w a (fl (clF w p a s.1) p s.1) (fl (clF w p a s.1) p s.1) s.1) := ct_tk (k := 99) h (by decide) (by decide) rfl (fun i hi hn => by
  show s.2.2.1 i - nI (tkf (bI true) _ _ _ _ _) = fl (clF w p a s.1) p s.1 i
  unfold tkf
  rw [if_neg (by decide), fl_in hi, (h i hi).2.1]
  unfold clF
  rw [if_neg hn, cntA_cg s.1 (fun j hj => ⟨(h j hj).1, (h j hj).2.1⟩)]) _
theorem stB_cg {w w' p p' : Nat → Int32} {a q : Int32} : ∀ n, (∀ j, j < n → w j = w' j ∧ p j = p' j) → stB w p a q n = stB w' p' a q n
  | 0, _ => rfl
  | n + 1, h => by
    unfold stB
    rw [stB_cg n (fun j hj => h j (by omega)), (h n (by omega)).1, (h n (by omega)).2]
theorem pt_cg {s : TXS} {w p x : Nat → Int32} {a b : Int32} (h : ctR s w p) (hb : okW b = true) : ∀ k, k ≤ s.1 → (ptS a b s k).1 = (ptS a b (s.1, w, p, x) k).1 ∧ ctR (ptS a b s k) (ptS a b (s.1, w, p, x) k).2.1 (ptS a b (s.1, w, p, x) k).2.2.1
  | 0, _ => ⟨rfl, h⟩
  | k + 1, hk => by
    obtain ⟨h1, h2⟩ := pt_cg (x := x) h hb k (by omega)
    have e1 : s.2.1 k = w k := (h k (by omega)).1
    have e2 : s.2.2.1 k = p k := (h k (by omega)).2.1
    have e3 : stB (ptS a b s k).2.1 (ptS a b s k).2.2.1 b (s.2.2.1 k) (ptS a b s k).1 = stB (ptS a b (s.1, w, p, x) k).2.1 (ptS a b (s.1, w, p, x) k).2.2.1 b (p k) (ptS a b (s.1, w, p, x) k).1 := by
      rw [e2, ← h1]
      exact stB_cg _ (fun j hj => ⟨(h2 j hj).1, (h2 j hj).2.1⟩)
    by_cases c1 : w k = a
    · cases c2 : stB (ptS a b (s.1, w, p, x) k).2.1 (ptS a b (s.1, w, p, x) k).2.2.1 b (p k) (ptS a b (s.1, w, p, x) k).1
      · have y1 := ptS_y (a := a) (b := b) (s0 := s) (k := k) (e1.trans c1) (e3.trans c2)
        have y2 := ptS_y (a := a) (b := b) (s0 := (s.1, w, p, x)) (k := k) c1 c2
        rw [y1, y2]
        refine ⟨congrArg (· + 1) h1, fun j hj => ?_⟩
        show upd _ _ _ j = upd _ _ _ j ∧ upd _ _ _ j = upd _ _ _ j ∧ okW (upd _ _ _ j) = true
        have hj2 : j < (ptS a b s k).1 + 1 := hj
        by_cases c3 : j = (ptS a b s k).1
        · unfold upd
          rw [if_pos c3, if_pos c3, if_pos (c3.trans h1), if_pos (c3.trans h1)]
          exact ⟨rfl, e2, hb⟩
        · unfold upd
          rw [if_neg c3, if_neg c3, if_neg (by rw [← h1]; exact c3), if_neg (by rw [← h1]; exact c3)]
          exact h2 j (by omega)
      · rw [ptS_n2 (a := a) (b := b) (s0 := s) (k := k) (e3.trans c2), ptS_n2 (a := a) (b := b) (s0 := (s.1, w, p, x)) (k := k) c2]
        exact ⟨h1, h2⟩
    · rw [ptS_n (a := a) (b := b) (s0 := s) (k := k) (fun q => c1 (e1.symm.trans q)), ptS_n (a := a) (b := b) (s0 := (s.1, w, p, x)) (k := k) c1]
      exact ⟨h1, h2⟩
theorem ct_y {s : TXS} {w p x : Nat → Int32} {a b : Int32} (h : ctR s w p) (hb : okW b = true) : (gtS 121 a b s).1 = (ptS a b (s.1, w, p, x) s.1).1 ∧ ctR (gtS 121 a b s) (ptS a b (s.1, w, p, x) s.1).2.1 (ptS a b (s.1, w, p, x) s.1).2.2.1 := by
  obtain ⟨h1, h2⟩ := pt_cg (x := x) (a := a) h hb s.1 (Nat.le_refl _)
  refine ⟨h1, fun j hj => ?_⟩
  have hj2 : j < (ptS a b s s.1).1 := hj
  obtain ⟨e1, e2, e3⟩ := h2 j hj2
  refine ⟨?_, e2, e3⟩
  show (lwS 121 (ptS a b s s.1)).2.1 j = _
  rw [lws_w hj2, low_o (by decide) (by decide)]
  exact e1
theorem ok_kinds {k a b : Int32} (h : okStep k a b = true) : k = 108 ∨ k = 109 ∨ k = 115 ∨ k = 99 ∨ (k = 121 ∧ okW b = true) := by
  unfold okStep at h
  simp only [Bool.or_eq_true, Bool.and_eq_true, decide_eq_true_eq] at h
  rcases h with h | ⟨h | ⟨h | h, -⟩⟩ | ⟨h, -, h2⟩
  · exact Or.inl h
  · exact Or.inr (Or.inl h)
  · exact Or.inr (Or.inr (Or.inl h))
  · exact Or.inr (Or.inr (Or.inr (Or.inl h)))
  · exact Or.inr (Or.inr (Or.inr (Or.inr ⟨h, h2⟩)))
theorem ct_0 {n : Nat} {w p x : Nat → Int32} (h : ∀ j, j < n → p j = nI j ∧ okW (w j) = true) : ctR (n, w, fl nI p n, fl nI x n) w p := fun j hj => ⟨rfl, (fl_in hj).trans (h j hj).1.symm, (h j hj).2⟩
set_option maxRecDepth 100000 in
theorem cwp_17 (dA : Nat → ClassId) (xa : Nat → Nat) (sh : Nat → Nat) (cs : Nat → Nat) (rp : Nat → Nat) (zq : Nat → Nat) (cm : Nat) (vs : Nat) (bd : Int32) (op : Bool) (mst : Int32) (nst : Nat) (cps : Nat) (ars : Nat) (fss : Nat → Option Nat) (se : Nat → Nat) (SK : Nat → Int32) (SA : Nat → Int32) (SB : Nat → Int32) (mdd : Int32) (nd : Nat) (capd : Nat) (ad0 : Nat) (fdd : Nat → Option Nat) (dt : Nat → Nat → Nat) (TG : Nat → Int32) (WH : Nat → Int32) (CK : Nat → Int32) (TW : Nat → Nat → Int32) (TP : Nat → Nat → Int32) (TX : Nat → Nat → Int32) (NM : Nat → Nat) (mvv : Int32) (nv : Nat) (capv : Nat) (av0 : Nat) (fvv : Nat → Option Nat) (ve : Nat → Nat → Nat) (VN : Nat → Int32) (VC : Nat → Nat) (VP : Nat → Nat → Int32) (mq : Int32) (nq : Nat) (capq : Nat) (aq0 : Nat) (fq : Nat → Option Nat) (eq : Nat → Nat) (QK : Nat → Int32) (QA : Nat → Int32) (QB : Nat → Int32) (QD : Nat → Int32) (WT : Nat → Nat) (QN : Nat → Int32) (tS : Nat → Int32) (tG : Nat → Int32) (nsg : Nat) (kS : Nat → Int32) (kG : Nat → Int32) (kd : Nat) (ksg : Nat) (rP : Nat → Int32) (aq : Int32) (fd : Int32) (pp : Nat → Int32) (t0 : Nat → Int32) (sc : Nat → Int32) (R0 : Nat → Int32) (h0 : Nat → Nat) (mm : Nat → Int32) : (CW dA (CS.mk xa sh cs rp zq cm vs bd op mst nst cps ars fss se SK SA SB mdd nd capd ad0 fdd dt TG WH CK TW TP TX NM mvv nv capv av0 fvv ve VN VC VP mq nq capq aq0 fq eq QK QA QB QD WT QN tS tG nsg kS kG kd ksg rP aq fd pp t0 sc R0 h0 mm)).Perm (HAppend.hAppend (α := va_W) (β := va_W) (γ := va_W) [(xa 0, .inr (11, [.ref (xa 1), .ref (xa 2), .ref (xa 3), .ref (xa 4), .ref (sh 0), .ref (cs 0), .ref (rp 0), .ref (zq 0), (opV op (dt nd 7)), .int (nI cm), .int (nI vs), .int bd])), (xa 1, .inr (2, [.int mst, .ref ars, .int (nI nst)])), (xa 2, .inr (2, [.int mdd, .ref ad0, .int (nI nd)])), (sh 0, .inr (7, [.ref (sh 1), .ref (sh 3), .int (nI nd), .int (nI nsg)])), (sh 1, .inr (5, [.ref (sh 2)])), (sh 2, .inl (dA 0, 30, .inl tS)), (sh 3, .inr (5, [.ref (sh 4)])), (sh 4, .inl (dA 0, 30, .inl tG))] (T9 (arw dA cps ars fss) (arw dA capd ad0 fdd) (arw dA capv av0 fvv) (arw dA capq aq0 fq) (fam nd (dcb dA dt TG WH CK TW TP TX NM)) (em 4 nq eq (qfs QK QA QB QD (nF WT) QN)) (HAppend.hAppend (α := va_W) (β := va_W) (γ := va_W) [(xa 3, .inr (2, [.int mvv, .ref av0, .int (nI nv)])), (xa 4, .inr (2, [.int mq, .ref aq0, .int (nI nq)])), (cs 0, .inr (7, [.ref (cs 1), .ref (cs 3), .int (nI kd), .int (nI ksg)])), (cs 1, .inr (5, [.ref (cs 2)])), (cs 2, .inl (dA 0, 30, .inl kS)), (cs 3, .inr (5, [.ref (cs 4)])), (cs 4, .inl (dA 0, 30, .inl kG)), (rp 0, .inr (5, [.ref (rp 1)])), (rp 1, .inl (dA 0, 30, .inl rP)), (zq 0, .inr (6, [.ref (zq 1), .ref (zq 3), .ref (zq 5), .ref (zq 7), .ref (zq 9), .ref (zq 11), .int aq, .int fd])), (zq 1, .inr (5, [.ref (zq 2)])), (zq 2, .inl (dA 0, 40, .inl pp)), (zq 3, .inr (5, [.ref (zq 4)])), (zq 4, .inl (dA 0, 30, .inl t0)), (zq 5, .inr (5, [.ref (zq 6)])), (zq 6, .inl (dA 0, 1200, .inl sc)), (zq 7, .inr (5, [.ref (zq 8)])), (zq 8, .inl (dA 0, 30, .inl R0)), (zq 9, .inr (5, [.ref (zq 10)])), (zq 10, .inl (dA 0, 30, .inl (nF h0))), (zq 11, .inr (5, [.ref (zq 12)])), (zq 12, .inl (dA 0, 12, .inl mm))] (fam nv (vcb dA ve VN VP VC))) (em 8 nst se (sfs SK SA SB)) (opB op (dcb dA dt TG WH CK TW TP TX NM nd)))) := (lst_pm (X := [(xa 0, .inr (11, [.ref (xa 1), .ref (xa 2), .ref (xa 3), .ref (xa 4), .ref (sh 0), .ref (cs 0), .ref (rp 0), .ref (zq 0), (opV op (dt nd 7)), .int (nI cm), .int (nI vs), .int bd])), (xa 1, .inr (2, [.int mst, .ref ars, .int (nI nst)])), (xa 2, .inr (2, [.int mdd, .ref ad0, .int (nI nd)])), (xa 3, .inr (2, [.int mvv, .ref av0, .int (nI nv)])), (xa 4, .inr (2, [.int mq, .ref aq0, .int (nI nq)])), (sh 0, .inr (7, [.ref (sh 1), .ref (sh 3), .int (nI nd), .int (nI nsg)])), (sh 1, .inr (5, [.ref (sh 2)])), (sh 2, .inl (dA 0, 30, .inl tS)), (sh 3, .inr (5, [.ref (sh 4)])), (sh 4, .inl (dA 0, 30, .inl tG)), (cs 0, .inr (7, [.ref (cs 1), .ref (cs 3), .int (nI kd), .int (nI ksg)])), (cs 1, .inr (5, [.ref (cs 2)])), (cs 2, .inl (dA 0, 30, .inl kS)), (cs 3, .inr (5, [.ref (cs 4)])), (cs 4, .inl (dA 0, 30, .inl kG)), (rp 0, .inr (5, [.ref (rp 1)])), (rp 1, .inl (dA 0, 30, .inl rP)), (zq 0, .inr (6, [.ref (zq 1), .ref (zq 3), .ref (zq 5), .ref (zq 7), .ref (zq 9), .ref (zq 11), .int aq, .int fd])), (zq 1, .inr (5, [.ref (zq 2)])), (zq 2, .inl (dA 0, 40, .inl pp)), (zq 3, .inr (5, [.ref (zq 4)])), (zq 4, .inl (dA 0, 30, .inl t0)), (zq 5, .inr (5, [.ref (zq 6)])), (zq 6, .inl (dA 0, 1200, .inl sc)), (zq 7, .inr (5, [.ref (zq 8)])), (zq 8, .inl (dA 0, 30, .inl R0)), (zq 9, .inr (5, [.ref (zq 10)])), (zq 10, .inl (dA 0, 30, .inl (nF h0))), (zq 11, .inr (5, [.ref (zq 12)])), (zq 12, .inl (dA 0, 12, .inl mm))]) (cx := [(xa 0, .inr (11, [.ref (xa 1), .ref (xa 2), .ref (xa 3), .ref (xa 4), .ref (sh 0), .ref (cs 0), .ref (rp 0), .ref (zq 0), (opV op (dt nd 7)), .int (nI cm), .int (nI vs), .int bd])), (xa 1, .inr (2, [.int mst, .ref ars, .int (nI nst)])), (xa 2, .inr (2, [.int mdd, .ref ad0, .int (nI nd)])), (sh 0, .inr (7, [.ref (sh 1), .ref (sh 3), .int (nI nd), .int (nI nsg)])), (sh 1, .inr (5, [.ref (sh 2)])), (sh 2, .inl (dA 0, 30, .inl tS)), (sh 3, .inr (5, [.ref (sh 4)])), (sh 4, .inl (dA 0, 30, .inl tG))] ++ [(xa 3, .inr (2, [.int mvv, .ref av0, .int (nI nv)])), (xa 4, .inr (2, [.int mq, .ref aq0, .int (nI nq)])), (cs 0, .inr (7, [.ref (cs 1), .ref (cs 3), .int (nI kd), .int (nI ksg)])), (cs 1, .inr (5, [.ref (cs 2)])), (cs 2, .inl (dA 0, 30, .inl kS)), (cs 3, .inr (5, [.ref (cs 4)])), (cs 4, .inl (dA 0, 30, .inl kG)), (rp 0, .inr (5, [.ref (rp 1)])), (rp 1, .inl (dA 0, 30, .inl rP)), (zq 0, .inr (6, [.ref (zq 1), .ref (zq 3), .ref (zq 5), .ref (zq 7), .ref (zq 9), .ref (zq 11), .int aq, .int fd])), (zq 1, .inr (5, [.ref (zq 2)])), (zq 2, .inl (dA 0, 40, .inl pp)), (zq 3, .inr (5, [.ref (zq 4)])), (zq 4, .inl (dA 0, 30, .inl t0)), (zq 5, .inr (5, [.ref (zq 6)])), (zq 6, .inl (dA 0, 1200, .inl sc)), (zq 7, .inr (5, [.ref (zq 8)])), (zq 8, .inl (dA 0, 30, .inl R0)), (zq 9, .inr (5, [.ref (zq 10)])), (zq 10, .inl (dA 0, 30, .inl (nF h0))), (zq 11, .inr (5, [.ref (zq 12)])), (zq 12, .inl (dA 0, 12, .inl mm))]) (T := (T9 (arw dA cps ars fss) (arw dA capd ad0 fdd) (arw dA capv av0 fvv) (arw dA capq aq0 fq) (fam nd (dcb dA dt TG WH CK TW TP TX NM)) (em 4 nq eq (qfs QK QA QB QD (nF WT) QN)) (fam nv (vcb dA ve VN VP VC)) (em 8 nst se (sfs SK SA SB)) (opB op (dcb dA dt TG WH CK TW TP TX NM nd)))) [0, 1, 2, 5, 6, 7, 8, 9, 3, 4, 10, 11, 12, 13, 14, 15, 16, 17, 18, 19, 20, 21, 22, 23, 24, 25, 26, 27, 28, 29] 30 rfl rfl (by decide)).trans (cw_sp (t9_6 (List.Perm.refl _)))
