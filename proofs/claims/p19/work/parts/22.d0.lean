/-! CONTRACTS, general -/
theorem q449 : (.methodLink RX3 78 yX2_fill : Cond) ∈ WA := WA_of (tb_4 109 rfl) rfl
theorem q450 : (.selects RJx4a65c yJx4a65c_size_8abf5 yJx4a65c_size_8abf5 : Cond) ∈ WA := WA_of (tb_1 174 rfl) rfl
theorem q451 : (.code yJx4a65c_size_8abf5 cJx4a65c_size_8abf5 1 (some .int) : Cond) ∈ WA := WA_of (tb_1 175 rfl) rfl
theorem q452 : (.methodLink RX3 43 yJx4a65c_size_8abf5 : Cond) ∈ WA := WA_of (tb_4 112 rfl) rfl
theorem q453 : (.instanceMethod yJx4a65c_size_8abf5 : Cond) ∈ WA := WA_of (tb_1 173 rfl) rfl
theorem q454 : (.selects RJx4a65c yJx4a65c_get_915e3 yJx4a65c_get_915e3 : Cond) ∈ WA := WA_of (tb_3 61 rfl) rfl
theorem q455 : (.code yJx4a65c_get_915e3 cJx4a65c_get_915e3 2 (some (.object "java/lang/Object")) : Cond) ∈ WA := WA_of (tb_3 62 rfl) rfl
theorem q456 : (.methodLink RX3 53 yJx4a65c_get_915e3 : Cond) ∈ WA := WA_of (tb_4 113 rfl) rfl
theorem q457 : (.instanceMethod yJx4a65c_get_915e3 : Cond) ∈ WA := WA_of (tb_3 60 rfl) rfl
theorem q458 : (.classLink RX3 56 RX1 : Cond) ∈ WA := WA_of (tb_4 114 rfl) rfl
theorem q459 : (.selects RX1 yX1_nameParts yX1_nameParts : Cond) ∈ WA := WA_of (tb_4 117 rfl) rfl
theorem q460 : (.code yX1_nameParts cX1_nameParts 3 none : Cond) ∈ WA := WA_of (tb_4 118 rfl) rfl
theorem q461 : (.methodLink RX3 89 yX1_nameParts : Cond) ∈ WA := WA_of (tb_4 115 rfl) rfl
theorem q462 : (.instanceMethod yX1_nameParts : Cond) ∈ WA := WA_of (tb_4 116 rfl) rfl
theorem map_fm {f : Nat → Nat × va_E} : ∀ l : List Nat, l.map f = l.flatMap (fun i => [f i])
  | [] => rfl
  | a :: l => by rw [List.map_cons, List.flatMap_cons, map_fm l]; rfl
theorem em_pm {ci n i : Nat} {ea : Nat → Nat} {fs : Nat → List Value} (h : i < n) : (em ci n ea fs).Perm ([(ea i, .inr (ci, fs i))] ++ famx n i (fun j => [(ea j, .inr (ci, fs j))])) := by
  have h1 : em ci n ea fs = fam n (fun j => [(ea j, .inr (ci, fs j))]) := map_fm _
  rw [h1]
  exact fam_pm h
def qfs (K A B Dd Wt N : Nat → Int32) (i : Nat) : List Value := [.int (K i), .int (A i), .int (B i), .int (Dd i), .int (Wt i), .int (N i)]
/-- the value of a counter that runs down to -1 -/
def pv : Nat → Int32
  | 0 => -1
  | k + 1 => nI k
theorem pv_m1 : ∀ k, nI k + (-1) = pv k
  | 0 => by decide
  | k + 1 => pk_m1 k
/-- a row of parts: q is one, and from k on what is one has its own parts in it -/
def gP (K A B : Nat → Int32) (q k : Nat) (g : Nat → Int32) : Prop := g q = 1 ∧ (∀ j, j < 40 → g j = 0 ∨ g j = 1) ∧ ∀ j, k ≤ j → j ≤ q → g j = 1 → okJ (K j) = true → ∀ a b, A j = nI a → B j = nI b → a < j → b < j → g a = 1 ∧ g b = 1
theorem gP_0 {K A B : Nat → Int32} {q : Nat} {g : Nat → Int32} : gP K A B q (q + 1) (upd (fl (fun _ => 0) g 40) q 1) := by
  refine ⟨if_pos rfl, fun j hj => ?_, fun j h1 h2 => absurd h2 (by omega)⟩
  unfold upd
  split
  · exact Or.inr rfl
  · left; unfold fl; rw [if_pos hj]
theorem gP_n {K A B : Nat → Int32} {q k : Nat} {g : Nat → Int32} (h : gP K A B q (k + 1) g) (hg : ¬ g k = 1) : gP K A B q k g := by
  refine ⟨h.1, h.2.1, fun j h1 h2 h3 => ?_⟩
  by_cases e : j = k
  · subst e; exact absurd h3 hg
  · exact h.2.2 j (by omega) h2 h3
theorem gP_w {K A B : Nat → Int32} {q k : Nat} {g : Nat → Int32} (h : gP K A B q (k + 1) g) (hg : okJ (K k) = false) : gP K A B q k g := by
  refine ⟨h.1, h.2.1, fun j h1 h2 h3 h4 => ?_⟩
  by_cases e : j = k
  · subst e; rw [hg] at h4; exact absurd h4 (by decide)
  · exact h.2.2 j (by omega) h2 h3 h4
theorem upd_1 {g : Nat → Int32} {a j : Nat} (h : g j = 1) : upd g a 1 j = 1 := by
  unfold upd
  split
  · rfl
  · exact h
theorem upd_01 {g : Nat → Int32} {a j : Nat} (h : g j = 0 ∨ g j = 1) : upd g a 1 j = 0 ∨ upd g a 1 j = 1 := by
  unfold upd
  split
  · exact Or.inr rfl
  · exact h
theorem gP_j {K A B : Nat → Int32} {q k a b : Nat} {g : Nat → Int32} (h : gP K A B q (k + 1) g) (hk : k < 40) (ha : a < k) (hb : b < k) (ea : A k = nI a) (eb : B k = nI b) : gP K A B q k (upd (upd g a 1) b 1) := by
  refine ⟨upd_1 (upd_1 h.1), fun j hj => upd_01 (upd_01 (h.2.1 j hj)), fun j h1 h2 h3 h4 a2 b2 h5 h6 h7 h8 => ?_⟩
  by_cases e : j = k
  · subst e
    have e1 : a2 = a := (nI_eq (by omega) (by omega)).mp (h5.symm.trans ea)
    have e2 : b2 = b := (nI_eq (by omega) (by omega)).mp (h6.symm.trans eb)
    subst e1; subst e2
    exact ⟨upd_1 (if_pos rfl), if_pos rfl⟩
  · have h9 : g j = 1 := by
      have h10 := h3
      unfold upd at h10
      rw [if_neg (by omega), if_neg (by omega)] at h10
      exact h10
    have h10 := h.2.2 j (by omega) h2 h9 h4 a2 b2 h5 h6 h7 h8
    exact ⟨upd_1 (upd_1 h10.1), upd_1 (upd_1 h10.2)⟩
set_option maxHeartbeats 4000000 in
set_option maxRecDepth 100000 in
theorem z_gather0 (l : Launch) (D : va_G) (dA : Nat → ClassId) (E : Nat) (zq : Nat → Nat) (aq fd : Int32) (pp : Nat → Int32) (qq : Nat) (TT : va_W) (TQ : Nat → va_W) (hq aq0 nq capq : Nat) (mq : Int32) (fq : Nat → Option Nat) (eq : Nat → Nat) (QK QA QB QD QW QN : Nat → Int32) (sz : Nat) (hnq : nq ≤ capq) (hcq : capq ≤ 60) (hnq9 : nq ≤ 40) (hfq : ∀ i, i < nq → fq i = some (eq i)) (hJ : ∀ i, i < nq → okJ (QK i) = true → ∃ x9 y9, QA i = nI x9 ∧ QB i = nI y9 ∧ x9 < i ∧ y9 < i) (hTQ : ∀ i, i < nq → TT.Perm ([(eq i, .inr (4, qfs QK QA QB QD QW QN i))] ++ TQ i)) (hqq : qq < nq)  : Met l yX3_gatherParts (wq (.code yX3_gatherParts cX3_gatherParts 5 none)) { frames := 3, cells := 0, slots := 0, locals := 64 } (va_Pc [.ref (zq 0), .ref hq, .int (nI qq), .int 0] (PcB D dA E (HAppend.hAppend (α := va_W) (β := va_W) (γ := va_W) [(zq 0, .inr (6, [.ref (zq 1), .ref (zq 3), .ref (zq 5), .ref (zq 7), .ref (zq 9), .ref (zq 11), .int aq, .int fd])), (zq 1, .inr (5, [.ref (zq 2)])), (zq 2, .inl (dA 0, 40, .inl pp)), (hq, .inr (2, [.int mq, .ref aq0, .int (nI nq)])), (aq0, .inl (dA 5, capq, .inr (.inr (.inr (.inr fq)))))] TT) sz)) (va_Qv (fun (u : Nat → Int32) => gP QK QA QB qq 0 u) (fun u t => va_P D vwCl (HAppend.hAppend (α := va_W) (β := va_W) (γ := va_W) [(zq 0, .inr (6, [.ref (zq 1), .ref (zq 3), .ref (zq 5), .ref (zq 7), .ref (zq 9), .ref (zq 11), .int aq, .int fd])), (zq 1, .inr (5, [.ref (zq 2)])), (zq 2, .inl (dA 0, 40, .inl u)), (hq, .inr (2, [.int mq, .ref aq0, .int (nI nq)])), (aq0, .inl (dA 5, capq, .inr (.inr (.inr (.inr fq)))))] TT) t.heap ∧ va_D (va_A (HAppend.hAppend (α := va_W) (β := va_W) (γ := va_W) [(zq 0, .inr (6, [.ref (zq 1), .ref (zq 3), .ref (zq 5), .ref (zq 7), .ref (zq 9), .ref (zq 11), .int aq, .int fd])), (zq 1, .inr (5, [.ref (zq 2)])), (zq 2, .inl (dA 0, 40, .inl pp)), (hq, .inr (2, [.int mq, .ref aq0, .int (nI nq)])), (aq0, .inl (dA 5, capq, .inr (.inr (.inr (.inr fq)))))] TT) sz) (HAppend.hAppend (α := va_W) (β := va_W) (γ := va_W) [(zq 0, .inr (6, [.ref (zq 1), .ref (zq 3), .ref (zq 5), .ref (zq 7), .ref (zq 9), .ref (zq 11), .int aq, .int fd])), (zq 1, .inr (5, [.ref (zq 2)])), (zq 2, .inl (dA 0, 40, .inl u)), (hq, .inr (2, [.int mq, .ref aq0, .int (nI nq)])), (aq0, .inl (dA 5, capq, .inr (.inr (.inr (.inr fq)))))] TT)) (va_A (HAppend.hAppend (α := va_W) (β := va_W) (γ := va_W) [(zq 0, .inr (6, [.ref (zq 1), .ref (zq 3), .ref (zq 5), .ref (zq 7), .ref (zq 9), .ref (zq 11), .int aq, .int fd])), (zq 1, .inr (5, [.ref (zq 2)])), (zq 2, .inl (dA 0, 40, .inl pp)), (hq, .inr (2, [.int mq, .ref aq0, .int (nI nq)])), (aq0, .inl (dA 5, capq, .inr (.inr (.inr (.inr fq)))))] TT) sz)) 0 0 (va_A (HAppend.hAppend (α := va_W) (β := va_W) (γ := va_W) [(zq 0, .inr (6, [.ref (zq 1), .ref (zq 3), .ref (zq 5), .ref (zq 7), .ref (zq 9), .ref (zq 11), .int aq, .int fd])), (zq 1, .inr (5, [.ref (zq 2)])), (zq 2, .inl (dA 0, 40, .inl pp)), (hq, .inr (2, [.int mq, .ref aq0, .int (nI nq)])), (aq0, .inl (dA 5, capq, .inr (.inr (.inr (.inr fq)))))] TT) sz) := by
  refine mb_of (y := yX3_gatherParts) (av := [.ref (zq 0), .ref hq, .int (nI qq), .int 0]) (maxL := 5) (Qc := fun A => va_Qv (fun (u : Nat → Int32) => gP QK QA QB qq 0 u) (fun u t => va_P D vwCl (HAppend.hAppend (α := va_W) (β := va_W) (γ := va_W) [(zq 0, .inr (6, [.ref (zq 1), .ref (zq 3), .ref (zq 5), .ref (zq 7), .ref (zq 9), .ref (zq 11), .int aq, .int fd])), (zq 1, .inr (5, [.ref (zq 2)])), (zq 2, .inl (dA 0, 40, .inl u)), (hq, .inr (2, [.int mq, .ref aq0, .int (nI nq)])), (aq0, .inl (dA 5, capq, .inr (.inr (.inr (.inr fq)))))] TT) t.heap ∧ va_D A (HAppend.hAppend (α := va_W) (β := va_W) (γ := va_W) [(zq 0, .inr (6, [.ref (zq 1), .ref (zq 3), .ref (zq 5), .ref (zq 7), .ref (zq 9), .ref (zq 11), .int aq, .int fd])), (zq 1, .inr (5, [.ref (zq 2)])), (zq 2, .inl (dA 0, 40, .inl u)), (hq, .inr (2, [.int mq, .ref aq0, .int (nI nq)])), (aq0, .inl (dA 5, capq, .inr (.inr (.inr (.inr fq)))))] TT)) A) RX3 rfl (by decide) (Nat.le_of_ble_eq_true rfl) ?_
  intro p e s m args below meth c hae hx hb hr hts hown hlocks hml hnm hP hK A hAe hD hZ hS hA ls hl
  replace hl : lv_has ls 5 [(0, .ref (zq 0)), (1, .ref hq), (2, .int (nI qq)), (3, .int 0)] := hl
  refine lv_aload_n hx hb dX3_gatherParts_0 rfl (lv_at hl 0 rfl) ?_
  refine va_get (D := D) (ci := 6) (v := .ref (zq 1)) (C := RX3) (T := TX3) (N := 8) hx hb hts inAX3 hown hK hP 0 rfl rfl 0 (by decide) (hts _ q313) (fun _ h9 => h9) rfl dX3_gatherParts_1 ?_
  refine lv_iconst (v := 0) hx hb dX3_gatherParts_4 (by decide) ?_
  replace hPc := hP.sub (ws' := [(zq 1, .inr (5, [.ref (zq 2)])), (zq 2, .inl (dA 0, 40, .inl pp))]) [1, 2] rfl
  replace hDc := hD.sub (ws' := [(zq 1, .inr (5, [.ref (zq 2)])), (zq 2, .inl (dA 0, 40, .inl pp))]) [1, 2] (by decide) rfl
  replace hFc := va_free (wc := [(zq 1, .inr (5, [.ref (zq 2)])), (zq 2, .inl (dA 0, 40, .inl pp))]) hD hS hA [1, 2] rfl
  refine va_callv (va_runV (As := [.int 0]) (rest := []) ⟨hx, hb, hml, hown, hts⟩ (t_fill l D dA E (zq 1) (zq 2) 40 pp 0 s.heap.size  (by decide)) (cwV 1 hts (ga_V q449 q261 q258 q204 q259) rfl rfl rfl (by decide +kernel) ⟨(Nat.le_of_ble_eq_true rfl), (Nat.le_of_ble_eq_true rfl)⟩) ⟨pb_blind, va_recv hK hPc (ci := 5) (q0 := 0) rfl rfl, pb_pre hK hPc hDc hZ hS hFc _⟩ rfl rfl hl.1 rfl (lv_room (Nat.le_of_ble_eq_true rfl)) dX3_gatherParts_5 ⟨(Nat.le_of_ble_eq_true rfl), (Nat.le_of_ble_eq_true rfl)⟩) hS (fun q _ h => hFc q h) hFc (fun u t H1 locs ht hvm hw hB hz1 hk1 hS => ?_)
  refine W.widen (k := 0) (n := 0) (Nat.le_of_ble_eq_true rfl) (Nat.le_of_ble_eq_true rfl) ?_
  obtain ⟨u1, rfl⟩ : ∃ z, z = u := ⟨_, rfl⟩
  have hw2 := hw
  clear hw
  obtain ⟨hP1, hD1⟩ := hB
  rw [ht] at hP1
  obtain ⟨hP, hD⟩ := va_joinQ (X := [(zq 0, .inr (6, [.ref (zq 1), .ref (zq 3), .ref (zq 5), .ref (zq 7), .ref (zq 9), .ref (zq 11), .int aq, .int fd])), (zq 1, .inr (5, [.ref (zq 2)])), (zq 2, .inl (dA 0, 40, .inl pp)), (hq, .inr (2, [.int mq, .ref aq0, .int (nI nq)])), (aq0, .inl (dA 5, capq, .inr (.inr (.inr (.inr fq)))))]) (cx := [(zq 1, .inr (5, [.ref (zq 2)])), (zq 2, .inl (dA 0, 40, .inl pp))]) (wr := [(zq 0, .inr (6, [.ref (zq 1), .ref (zq 3), .ref (zq 5), .ref (zq 7), .ref (zq 9), .ref (zq 11), .int aq, .int fd])), (hq, .inr (2, [.int mq, .ref aq0, .int (nI nq)])), (aq0, .inl (dA 5, capq, .inr (.inr (.inr (.inr fq)))))]) (w1 := [(zq 1, .inr (5, [.ref (zq 2)])), (zq 2, .inl (dA 0, 40, .inl (fl (fun _ => 0) pp 40)))]) (pl := TT) hP hD [1, 2] [0, 3, 4] rfl rfl (by decide) (by decide) hk1 hFc hP1 hD1
  generalize H1 = H at hP hS ⊢
  replace hP : va_P D vwCl (HAppend.hAppend (α := va_W) (β := va_W) (γ := va_W) [(zq 0, .inr (6, [.ref (zq 1), .ref (zq 3), .ref (zq 5), .ref (zq 7), .ref (zq 9), .ref (zq 11), .int aq, .int fd])), (hq, .inr (2, [.int mq, .ref aq0, .int (nI nq)])), (aq0, .inl (dA 5, capq, .inr (.inr (.inr (.inr fq))))), (zq 1, .inr (5, [.ref (zq 2)])), (zq 2, .inl (dA 0, 40, .inl (fl (fun _ => 0) pp 40)))] TT) H := hP
  replace hD : va_D A (HAppend.hAppend (α := va_W) (β := va_W) (γ := va_W) [(zq 0, .inr (6, [.ref (zq 1), .ref (zq 3), .ref (zq 5), .ref (zq 7), .ref (zq 9), .ref (zq 11), .int aq, .int fd])), (hq, .inr (2, [.int mq, .ref aq0, .int (nI nq)])), (aq0, .inl (dA 5, capq, .inr (.inr (.inr (.inr fq))))), (zq 1, .inr (5, [.ref (zq 2)])), (zq 2, .inl (dA 0, 40, .inl (fl (fun _ => 0) pp 40)))] TT) := hD
  refine lv_aload_n hx hb dX3_gatherParts_8 rfl (lv_at hl 0 rfl) ?_
  refine va_get (D := D) (ci := 6) (v := .ref (zq 1)) (C := RX3) (T := TX3) (N := 8) hx hb hts inAX3 hown hK hP 0 rfl rfl 0 (by decide) (hts _ q313) (fun _ h9 => h9) rfl dX3_gatherParts_9 ?_
  refine lv_iload_n hx hb dX3_gatherParts_12 rfl (lv_at hl 2 rfl) ?_
  refine lv_iconst (v := 1) hx hb dX3_gatherParts_13 (by decide) ?_
  replace hPc := hP.sub (ws' := [(zq 1, .inr (5, [.ref (zq 2)])), (zq 2, .inl (dA 0, 40, .inl (fl (fun _ => 0) pp 40)))]) [3, 4] rfl
  replace hDc := hD.sub (ws' := [(zq 1, .inr (5, [.ref (zq 2)])), (zq 2, .inl (dA 0, 40, .inl (fl (fun _ => 0) pp 40)))]) [3, 4] (by decide) rfl
  replace hFc := va_free (wc := [(zq 1, .inr (5, [.ref (zq 2)])), (zq 2, .inl (dA 0, 40, .inl (fl (fun _ => 0) pp 40)))]) hD hS hA [3, 4] rfl
  refine va_callv (va_runV (As := [.int (nI qq), .int 1]) (rest := []) ⟨hx, hb, hml, hown, hts⟩ (t_putN l D dA E (zq 1) (zq 2) 40 (fl (fun _ => 0) pp 40) qq 1 H.size  (by omega) (by decide)) (cwV 2 hts (ga_V q444 q210 q207 q204 q208) rfl rfl rfl (by decide +kernel) ⟨(Nat.le_of_ble_eq_true rfl), (Nat.le_of_ble_eq_true rfl)⟩) ⟨pb_blind, va_recv hK hPc (ci := 5) (q0 := 0) rfl rfl, pb_pre hK hPc hDc hZ hS hFc _⟩ rfl rfl hl.1 rfl (lv_room (Nat.le_of_ble_eq_true rfl)) dX3_gatherParts_14 ⟨(Nat.le_of_ble_eq_true rfl), (Nat.le_of_ble_eq_true rfl)⟩) hS (fun q _ h => hFc q h) hFc (fun u t H1 locs ht hvm hw hB hz1 hk1 hS => ?_)
  refine W.widen (k := 0) (n := 0) (Nat.le_of_ble_eq_true rfl) (Nat.le_of_ble_eq_true rfl) ?_
  obtain ⟨u3, rfl⟩ : ∃ z, z = u := ⟨_, rfl⟩
  have hw4 := hw
  clear hw
  obtain ⟨hP1, hD1⟩ := hB
  rw [ht] at hP1
  obtain ⟨hP, hD⟩ := va_joinQ (X := [(zq 0, .inr (6, [.ref (zq 1), .ref (zq 3), .ref (zq 5), .ref (zq 7), .ref (zq 9), .ref (zq 11), .int aq, .int fd])), (hq, .inr (2, [.int mq, .ref aq0, .int (nI nq)])), (aq0, .inl (dA 5, capq, .inr (.inr (.inr (.inr fq))))), (zq 1, .inr (5, [.ref (zq 2)])), (zq 2, .inl (dA 0, 40, .inl (fl (fun _ => 0) pp 40)))]) (cx := [(zq 1, .inr (5, [.ref (zq 2)])), (zq 2, .inl (dA 0, 40, .inl (fl (fun _ => 0) pp 40)))]) (wr := [(zq 0, .inr (6, [.ref (zq 1), .ref (zq 3), .ref (zq 5), .ref (zq 7), .ref (zq 9), .ref (zq 11), .int aq, .int fd])), (hq, .inr (2, [.int mq, .ref aq0, .int (nI nq)])), (aq0, .inl (dA 5, capq, .inr (.inr (.inr (.inr fq)))))]) (w1 := [(zq 1, .inr (5, [.ref (zq 2)])), (zq 2, .inl (dA 0, 40, .inl (upd (fl (fun _ => 0) pp 40) qq 1)))]) (pl := TT) hP hD [3, 4] [0, 1, 2] rfl rfl (by decide) (by decide) hk1 hFc hP1 hD1
  generalize H1 = H at hP hS ⊢
  replace hP : va_P D vwCl (HAppend.hAppend (α := va_W) (β := va_W) (γ := va_W) [(zq 0, .inr (6, [.ref (zq 1), .ref (zq 3), .ref (zq 5), .ref (zq 7), .ref (zq 9), .ref (zq 11), .int aq, .int fd])), (hq, .inr (2, [.int mq, .ref aq0, .int (nI nq)])), (aq0, .inl (dA 5, capq, .inr (.inr (.inr (.inr fq))))), (zq 1, .inr (5, [.ref (zq 2)])), (zq 2, .inl (dA 0, 40, .inl (upd (fl (fun _ => 0) pp 40) qq 1)))] TT) H := hP
  replace hD : va_D A (HAppend.hAppend (α := va_W) (β := va_W) (γ := va_W) [(zq 0, .inr (6, [.ref (zq 1), .ref (zq 3), .ref (zq 5), .ref (zq 7), .ref (zq 9), .ref (zq 11), .int aq, .int fd])), (hq, .inr (2, [.int mq, .ref aq0, .int (nI nq)])), (aq0, .inl (dA 5, capq, .inr (.inr (.inr (.inr fq))))), (zq 1, .inr (5, [.ref (zq 2)])), (zq 2, .inl (dA 0, 40, .inl (upd (fl (fun _ => 0) pp 40) qq 1)))] TT) := hD
  refine lv_iload_n hx hb dX3_gatherParts_17 rfl (lv_at hl 2 rfl) ?_
  refine lv_istore (lv' := [(4, .int (nI qq)), (0, .ref (zq 0)), (1, .ref hq), (2, .int (nI qq)), (3, .int 0)]) hx hb dX3_gatherParts_18 hl (by decide) rfl (fun ls hl => ?_)
  have K20 : ∀ (k20 : Nat) (g20_0 : Nat → Int32), k20 ≤ qq + 1 → gP QK QA QB qq k20 g20_0 → ∀ (H : Heap) (locs : List Loc), va_P D vwCl (HAppend.hAppend (α := va_W) (β := va_W) (γ := va_W) [(zq 0, .inr (6, [.ref (zq 1), .ref (zq 3), .ref (zq 5), .ref (zq 7), .ref (zq 9), .ref (zq 11), .int aq, .int fd])), (hq, .inr (2, [.int mq, .ref aq0, .int (nI nq)])), (aq0, .inl (dA 5, capq, .inr (.inr (.inr (.inr fq))))), (zq 1, .inr (5, [.ref (zq 2)])), (zq 2, .inl (dA 0, 40, .inl g20_0))] TT) H → va_D A (HAppend.hAppend (α := va_W) (β := va_W) (γ := va_W) [(zq 0, .inr (6, [.ref (zq 1), .ref (zq 3), .ref (zq 5), .ref (zq 7), .ref (zq 9), .ref (zq 11), .int aq, .int fd])), (hq, .inr (2, [.int mq, .ref aq0, .int (nI nq)])), (aq0, .inl (dA 5, capq, .inr (.inr (.inr (.inr fq))))), (zq 1, .inr (5, [.ref (zq 2)])), (zq 2, .inl (dA 0, 40, .inl g20_0))] TT) → va_S A s.heap H locs → ∀ ls : Array Slot, lv_has ls 5 [(4, .int (pv k20)), (0, .ref (zq 0)), (1, .ref hq), (2, .int (nI qq)), (3, .int 0)] → W p l e { frames := 3, cells := 0, slots := 0, locals := 64 } s m args below meth c H locs 0 0 (MQ below (va_Qv (fun (u : Nat → Int32) => gP QK QA QB qq 0 u) (fun u t => va_P D vwCl (HAppend.hAppend (α := va_W) (β := va_W) (γ := va_W) [(zq 0, .inr (6, [.ref (zq 1), .ref (zq 3), .ref (zq 5), .ref (zq 7), .ref (zq 9), .ref (zq 11), .int aq, .int fd])), (zq 1, .inr (5, [.ref (zq 2)])), (zq 2, .inl (dA 0, 40, .inl u)), (hq, .inr (2, [.int mq, .ref aq0, .int (nI nq)])), (aq0, .inl (dA 5, capq, .inr (.inr (.inr (.inr fq)))))] TT) t.heap ∧ va_D A (HAppend.hAppend (α := va_W) (β := va_W) (γ := va_W) [(zq 0, .inr (6, [.ref (zq 1), .ref (zq 3), .ref (zq 5), .ref (zq 7), .ref (zq 9), .ref (zq 11), .int aq, .int fd])), (zq 1, .inr (5, [.ref (zq 2)])), (zq 2, .inl (dA 0, 40, .inl u)), (hq, .inr (2, [.int mq, .ref aq0, .int (nI nq)])), (aq0, .inl (dA 5, capq, .inr (.inr (.inr (.inr fq)))))] TT)) A) args s 0 0 A) (F0 m 20 ls []) := by
    intro k20
    induction k20 with
    | zero =>
      intro g20_0 hkd20 hex20 H locs hP hD hS ls hl
      replace hl : lv_has ls 5 [(4, .int (-1)), (0, .ref (zq 0)), (1, .ref hq), (2, .int (nI qq)), (3, .int 0)] := hl
      refine lv_iload hx hb dX3_gatherParts_20 (lv_at hl 0 rfl) ?_
      refine lv_if_lt (tgt := 70) hx hb dX3_gatherParts_22 (by decide) (fun _ => ?_) (fun c5 => absurd (by decide) c5)
      refine W.widen (k := 0) (n := 0) (Nat.le_of_ble_eq_true rfl) (Nat.le_of_ble_eq_true rfl) ?_
      have hP9 := va_P.part (X := [(zq 0, .inr (6, [.ref (zq 1), .ref (zq 3), .ref (zq 5), .ref (zq 7), .ref (zq 9), .ref (zq 11), .int aq, .int fd])), (hq, .inr (2, [.int mq, .ref aq0, .int (nI nq)])), (aq0, .inl (dA 5, capq, .inr (.inr (.inr (.inr fq))))), (zq 1, .inr (5, [.ref (zq 2)])), (zq 2, .inl (dA 0, 40, .inl g20_0))]) (cx := [(zq 0, .inr (6, [.ref (zq 1), .ref (zq 3), .ref (zq 5), .ref (zq 7), .ref (zq 9), .ref (zq 11), .int aq, .int fd])), (zq 1, .inr (5, [.ref (zq 2)])), (zq 2, .inl (dA 0, 40, .inl g20_0)), (hq, .inr (2, [.int mq, .ref aq0, .int (nI nq)])), (aq0, .inl (dA 5, capq, .inr (.inr (.inr (.inr fq)))))]) (pl := TT) hP [0, 3, 4, 1, 2] rfl
      have hD9 := va_D.part (X := [(zq 0, .inr (6, [.ref (zq 1), .ref (zq 3), .ref (zq 5), .ref (zq 7), .ref (zq 9), .ref (zq 11), .int aq, .int fd])), (hq, .inr (2, [.int mq, .ref aq0, .int (nI nq)])), (aq0, .inl (dA 5, capq, .inr (.inr (.inr (.inr fq))))), (zq 1, .inr (5, [.ref (zq 2)])), (zq 2, .inl (dA 0, 40, .inl g20_0))]) (cx := [(zq 0, .inr (6, [.ref (zq 1), .ref (zq 3), .ref (zq 5), .ref (zq 7), .ref (zq 9), .ref (zq 11), .int aq, .int fd])), (zq 1, .inr (5, [.ref (zq 2)])), (zq 2, .inl (dA 0, 40, .inl g20_0)), (hq, .inr (2, [.int mq, .ref aq0, .int (nI nq)])), (aq0, .inl (dA 5, capq, .inr (.inr (.inr (.inr fq)))))]) (pl := TT) hD [0, 3, 4, 1, 2] (by decide) rfl
      exact W.vret hx hb hr (fun t ht hW => ⟨⟨g20_0, rfl, hex20, ⟨by rw [ht]; exact hP9, hD9⟩⟩, hS.F ht⟩) hS.2.2 dX3_gatherParts_70
    | succ k20 ih20 =>
      intro g20_0 hkd20 hex20 H locs hP hD hS ls hl
      replace hl : lv_has ls 5 [(4, .int (nI k20)), (0, .ref (zq 0)), (1, .ref hq), (2, .int (nI qq)), (3, .int 0)] := hl
      refine lv_iload hx hb dX3_gatherParts_20 (lv_at hl 0 rfl) ?_
      refine lv_if_lt (tgt := 70) hx hb dX3_gatherParts_22 (by decide) (fun c6 => absurd ((nI_ltI (a := k20) (b := 0) (by omega) (by omega)).mp c6) (by omega)) (fun _ => ?_)
      refine lv_aload_n hx hb dX3_gatherParts_25 rfl (lv_at hl 1 rfl) ?_
      refine va_get (D := D) (ci := 6) (v := .ref (zq 1)) (C := RX3) (T := TX3) (N := 8) hx hb hts inAX3 hown hK hP 0 rfl rfl 0 (by decide) (hts _ q313) (fun _ h9 => h9) rfl dX3_gatherParts_26 ?_
      refine lv_iload hx hb dX3_gatherParts_29 (lv_at hl 0 rfl) ?_
      replace hPc := hP.sub (ws' := [(zq 1, .inr (5, [.ref (zq 2)])), (zq 2, .inl (dA 0, 40, .inl g20_0))]) [3, 4] rfl
      replace hDc := hD.sub (ws' := [(zq 1, .inr (5, [.ref (zq 2)])), (zq 2, .inl (dA 0, 40, .inl g20_0))]) [3, 4] (by decide) rfl
      replace hFc := va_free (wc := [(zq 1, .inr (5, [.ref (zq 2)])), (zq 2, .inl (dA 0, 40, .inl g20_0))]) hD hS hA [3, 4] rfl
      refine va_calli (va_runV (As := [.int (nI k20)]) (rest := []) ⟨hx, hb, hml, hown, hts⟩ (t_getN l D dA E (zq 1) (zq 2) 40 g20_0 k20 H.size  (by omega) (by decide)) (cwV 1 hts (ga_V q438 q203 q200 q204 q201) rfl rfl rfl (by decide +kernel) ⟨(Nat.le_of_ble_eq_true rfl), (Nat.le_of_ble_eq_true rfl)⟩) ⟨pb_blind, va_recv hK hPc (ci := 5) (q0 := 0) rfl rfl, pb_pre hK hPc hDc hZ hS hFc _⟩ rfl rfl hl.1 rfl (lv_room (Nat.le_of_ble_eq_true rfl)) dX3_gatherParts_31 ⟨(Nat.le_of_ble_eq_true rfl), (Nat.le_of_ble_eq_true rfl)⟩) hS (fun q _ h => hFc q h) hFc (fun r u t H1 locs ht hvm hw hB hz1 hk1 hS => ?_)
      refine W.widen (k := 0) (n := 0) (Nat.le_of_ble_eq_true rfl) (Nat.le_of_ble_eq_true rfl) ?_
      obtain ⟨r7, rfl⟩ : ∃ z, z = r := ⟨_, rfl⟩
      obtain ⟨u8, rfl⟩ : ∃ z, z = u := ⟨_, rfl⟩
      have hw9 := hw
      clear hw
      obtain ⟨hP1, hD1⟩ := hB
      rw [ht] at hP1
      obtain ⟨hP, hD⟩ := va_joinQ (X := [(zq 0, .inr (6, [.ref (zq 1), .ref (zq 3), .ref (zq 5), .ref (zq 7), .ref (zq 9), .ref (zq 11), .int aq, .int fd])), (hq, .inr (2, [.int mq, .ref aq0, .int (nI nq)])), (aq0, .inl (dA 5, capq, .inr (.inr (.inr (.inr fq))))), (zq 1, .inr (5, [.ref (zq 2)])), (zq 2, .inl (dA 0, 40, .inl g20_0))]) (cx := [(zq 1, .inr (5, [.ref (zq 2)])), (zq 2, .inl (dA 0, 40, .inl g20_0))]) (wr := [(zq 0, .inr (6, [.ref (zq 1), .ref (zq 3), .ref (zq 5), .ref (zq 7), .ref (zq 9), .ref (zq 11), .int aq, .int fd])), (hq, .inr (2, [.int mq, .ref aq0, .int (nI nq)])), (aq0, .inl (dA 5, capq, .inr (.inr (.inr (.inr fq)))))]) (w1 := [(zq 1, .inr (5, [.ref (zq 2)])), (zq 2, .inl (dA 0, 40, .inl g20_0))]) (pl := TT) hP hD [3, 4] [0, 1, 2] rfl rfl (by decide) (by decide) hk1 hFc hP1 hD1
      generalize H1 = H at hP hS ⊢
      replace hP : va_P D vwCl (HAppend.hAppend (α := va_W) (β := va_W) (γ := va_W) [(zq 0, .inr (6, [.ref (zq 1), .ref (zq 3), .ref (zq 5), .ref (zq 7), .ref (zq 9), .ref (zq 11), .int aq, .int fd])), (hq, .inr (2, [.int mq, .ref aq0, .int (nI nq)])), (aq0, .inl (dA 5, capq, .inr (.inr (.inr (.inr fq))))), (zq 1, .inr (5, [.ref (zq 2)])), (zq 2, .inl (dA 0, 40, .inl g20_0))] TT) H := hP
      replace hD : va_D A (HAppend.hAppend (α := va_W) (β := va_W) (γ := va_W) [(zq 0, .inr (6, [.ref (zq 1), .ref (zq 3), .ref (zq 5), .ref (zq 7), .ref (zq 9), .ref (zq 11), .int aq, .int fd])), (hq, .inr (2, [.int mq, .ref aq0, .int (nI nq)])), (aq0, .inl (dA 5, capq, .inr (.inr (.inr (.inr fq))))), (zq 1, .inr (5, [.ref (zq 2)])), (zq 2, .inl (dA 0, 40, .inl g20_0))] TT) := hD
      obtain rfl : r7 = g20_0 k20 := hw9
      refine lv_iconst (v := 1) hx hb dX3_gatherParts_34 (by decide) ?_
      refine lv_icmp_ne (tgt := 64) hx hb dX3_gatherParts_35 (by decide) (fun c10 => ?_) (fun c10 => ?_)
      · refine lv_iinc (v := pv k20) (lv' := [(4, .int (pv k20)), (0, .ref (zq 0)), (1, .ref hq), (2, .int (nI qq)), (3, .int 0)]) hx hb dX3_gatherParts_64 hl (k := 0) rfl (pv_m1 k20) (by decide) rfl (fun ls hl => ?_)
        refine lv_goto (tgt := 20) hx hb dX3_gatherParts_67 (by decide) ?_
        exact ih20 g20_0 (by omega) (gP_n hex20 c10) _ _ hP hD hS ls (lv_sub hl [0, 1, 2, 3, 4] rfl)
      · refine lv_iload hx hb dX3_gatherParts_38 (lv_at hl 0 rfl) ?_
        refine lv_aload_n hx hb dX3_gatherParts_40 rfl (lv_at hl 2 rfl) ?_
        replace hPc := hP.sub (ws' := [(hq, .inr (2, [.int mq, .ref aq0, .int (nI nq)]))]) [1] rfl
        replace hDc := hD.sub (ws' := [(hq, .inr (2, [.int mq, .ref aq0, .int (nI nq)]))]) [1] (by decide) rfl
        replace hFc := va_free (wc := [(hq, .inr (2, [.int mq, .ref aq0, .int (nI nq)]))]) hD hS hA [1] rfl
        refine va_calli (va_runV (As := []) (rest := [.int (nI k20)]) ⟨hx, hb, hml, hown, hts⟩ (l_size l D dA E hq mq (.ref aq0) (nI nq) H.size ) (cwV 0 hts (ga_V q452 q453 q450 q322 q451) rfl rfl rfl (by decide +kernel) ⟨(Nat.le_of_ble_eq_true rfl), (Nat.le_of_ble_eq_true rfl)⟩) ⟨pb_blind, va_recv hK hPc (ci := 2) (q0 := 0) rfl rfl, pb_pre hK hPc hDc hZ hS hFc _⟩ rfl rfl hl.1 rfl (lv_room (Nat.le_of_ble_eq_true rfl)) dX3_gatherParts_41 ⟨(Nat.le_of_ble_eq_true rfl), (Nat.le_of_ble_eq_true rfl)⟩) hS (fun q _ h => hFc q h) hFc (fun r u t H1 locs ht hvm hw hB hz1 hk1 hS => ?_)
        refine W.widen (k := 0) (n := 0) (Nat.le_of_ble_eq_true rfl) (Nat.le_of_ble_eq_true rfl) ?_
        obtain ⟨r11, rfl⟩ : ∃ z, z = r := ⟨_, rfl⟩
        obtain ⟨u12, rfl⟩ : ∃ z, z = u := ⟨_, rfl⟩
        have hw13 := hw
        clear hw
        obtain ⟨hP1, hD1⟩ := hB
        rw [ht] at hP1
        obtain ⟨hP, hD⟩ := va_joinQ (X := [(zq 0, .inr (6, [.ref (zq 1), .ref (zq 3), .ref (zq 5), .ref (zq 7), .ref (zq 9), .ref (zq 11), .int aq, .int fd])), (hq, .inr (2, [.int mq, .ref aq0, .int (nI nq)])), (aq0, .inl (dA 5, capq, .inr (.inr (.inr (.inr fq))))), (zq 1, .inr (5, [.ref (zq 2)])), (zq 2, .inl (dA 0, 40, .inl g20_0))]) (cx := [(hq, .inr (2, [.int mq, .ref aq0, .int (nI nq)]))]) (wr := [(zq 0, .inr (6, [.ref (zq 1), .ref (zq 3), .ref (zq 5), .ref (zq 7), .ref (zq 9), .ref (zq 11), .int aq, .int fd])), (aq0, .inl (dA 5, capq, .inr (.inr (.inr (.inr fq))))), (zq 1, .inr (5, [.ref (zq 2)])), (zq 2, .inl (dA 0, 40, .inl g20_0))]) (w1 := [(hq, .inr (2, [.int mq, .ref aq0, .int (nI nq)]))]) (pl := TT) hP hD [1] [0, 2, 3, 4] rfl rfl (by decide) (by decide) hk1 hFc hP1 hD1
        generalize H1 = H at hP hS ⊢
        replace hP : va_P D vwCl (HAppend.hAppend (α := va_W) (β := va_W) (γ := va_W) [(zq 0, .inr (6, [.ref (zq 1), .ref (zq 3), .ref (zq 5), .ref (zq 7), .ref (zq 9), .ref (zq 11), .int aq, .int fd])), (aq0, .inl (dA 5, capq, .inr (.inr (.inr (.inr fq))))), (zq 1, .inr (5, [.ref (zq 2)])), (zq 2, .inl (dA 0, 40, .inl g20_0)), (hq, .inr (2, [.int mq, .ref aq0, .int (nI nq)]))] TT) H := hP
        replace hD : va_D A (HAppend.hAppend (α := va_W) (β := va_W) (γ := va_W) [(zq 0, .inr (6, [.ref (zq 1), .ref (zq 3), .ref (zq 5), .ref (zq 7), .ref (zq 9), .ref (zq 11), .int aq, .int fd])), (aq0, .inl (dA 5, capq, .inr (.inr (.inr (.inr fq))))), (zq 1, .inr (5, [.ref (zq 2)])), (zq 2, .inl (dA 0, 40, .inl g20_0)), (hq, .inr (2, [.int mq, .ref aq0, .int (nI nq)]))] TT) := hD
        obtain rfl : r11 = nI nq := hw13
        refine lv_icmp_ge (tgt := 64) hx hb dX3_gatherParts_44 (by decide) (fun c14 => absurd ((nI_leI (a := nq) (b := k20) (by omega) (by omega)).mp c14) (by omega)) (fun _ => ?_)
        refine lv_aload_n hx hb dX3_gatherParts_47 rfl (lv_at hl 2 rfl) ?_
        refine lv_iload hx hb dX3_gatherParts_48 (lv_at hl 0 rfl) ?_
        replace hPc := hP.sub (ws' := [(hq, .inr (2, [.int mq, .ref aq0, .int (nI nq)])), (aq0, .inl (dA 5, capq, .inr (.inr (.inr (.inr fq)))))]) [4, 1] rfl
        replace hDc := hD.sub (ws' := [(hq, .inr (2, [.int mq, .ref aq0, .int (nI nq)])), (aq0, .inl (dA 5, capq, .inr (.inr (.inr (.inr fq)))))]) [4, 1] (by decide) rfl
        replace hFc := va_free (wc := [(hq, .inr (2, [.int mq, .ref aq0, .int (nI nq)])), (aq0, .inl (dA 5, capq, .inr (.inr (.inr (.inr fq)))))]) hD hS hA [4, 1] rfl
        refine va_callr (va_runV (As := [.int (nI k20)]) (rest := []) ⟨hx, hb, hml, hown, hts⟩ (l_get l D dA E hq mq aq0 nq capq fq k20 (eq k20) H.size  (by omega) (by omega) (by omega) (hfq k20 (by omega))) (cwV 1 hts (ga_V q456 q457 q454 q322 q455) rfl rfl rfl (by decide +kernel) ⟨(Nat.le_of_ble_eq_true rfl), (Nat.le_of_ble_eq_true rfl)⟩) ⟨pb_blind, va_recv hK hPc (ci := 2) (q0 := 0) rfl rfl, pb_pre hK hPc hDc hZ hS hFc _⟩ rfl rfl hl.1 rfl (lv_room (Nat.le_of_ble_eq_true rfl)) dX3_gatherParts_50 ⟨(Nat.le_of_ble_eq_true rfl), (Nat.le_of_ble_eq_true rfl)⟩) hS (fun q _ h => hFc q h) hFc (fun u ra t H1 locs ht hvm hw hB hz1 hk1 hS => ?_)
        refine W.widen (k := 0) (n := 0) (Nat.le_of_ble_eq_true rfl) (Nat.le_of_ble_eq_true rfl) ?_
        obtain ⟨q15, rfl⟩ : ∃ z, z = ra := ⟨_, rfl⟩
        obtain ⟨u16, rfl⟩ : ∃ z, z = u := ⟨_, rfl⟩
        have hw17 := hw
        clear hw
        obtain ⟨hra, hB⟩ := hB
        obtain ⟨hP1, hD1⟩ := hB
        rw [ht] at hP1
        obtain ⟨hP, hD⟩ := va_joinQ (X := [(zq 0, .inr (6, [.ref (zq 1), .ref (zq 3), .ref (zq 5), .ref (zq 7), .ref (zq 9), .ref (zq 11), .int aq, .int fd])), (aq0, .inl (dA 5, capq, .inr (.inr (.inr (.inr fq))))), (zq 1, .inr (5, [.ref (zq 2)])), (zq 2, .inl (dA 0, 40, .inl g20_0)), (hq, .inr (2, [.int mq, .ref aq0, .int (nI nq)]))]) (cx := [(hq, .inr (2, [.int mq, .ref aq0, .int (nI nq)])), (aq0, .inl (dA 5, capq, .inr (.inr (.inr (.inr fq)))))]) (wr := [(zq 0, .inr (6, [.ref (zq 1), .ref (zq 3), .ref (zq 5), .ref (zq 7), .ref (zq 9), .ref (zq 11), .int aq, .int fd])), (zq 1, .inr (5, [.ref (zq 2)])), (zq 2, .inl (dA 0, 40, .inl g20_0))]) (w1 := [(hq, .inr (2, [.int mq, .ref aq0, .int (nI nq)])), (aq0, .inl (dA 5, capq, .inr (.inr (.inr (.inr fq)))))]) (pl := TT) hP hD [4, 1] [0, 2, 3] rfl rfl (by decide) (by decide) hk1 hFc hP1 hD1
        generalize H1 = H at hP hS ⊢
        replace hP : va_P D vwCl (HAppend.hAppend (α := va_W) (β := va_W) (γ := va_W) [(zq 0, .inr (6, [.ref (zq 1), .ref (zq 3), .ref (zq 5), .ref (zq 7), .ref (zq 9), .ref (zq 11), .int aq, .int fd])), (zq 1, .inr (5, [.ref (zq 2)])), (zq 2, .inl (dA 0, 40, .inl g20_0)), (hq, .inr (2, [.int mq, .ref aq0, .int (nI nq)])), (aq0, .inl (dA 5, capq, .inr (.inr (.inr (.inr fq)))))] TT) H := hP
        replace hD : va_D A (HAppend.hAppend (α := va_W) (β := va_W) (γ := va_W) [(zq 0, .inr (6, [.ref (zq 1), .ref (zq 3), .ref (zq 5), .ref (zq 7), .ref (zq 9), .ref (zq 11), .int aq, .int fd])), (zq 1, .inr (5, [.ref (zq 2)])), (zq 2, .inl (dA 0, 40, .inl g20_0)), (hq, .inr (2, [.int mq, .ref aq0, .int (nI nq)])), (aq0, .inl (dA 5, capq, .inr (.inr (.inr (.inr fq)))))] TT) := hD
        obtain rfl : q15 = eq k20 := hra
        replace hP := foc_P (X := [(zq 0, .inr (6, [.ref (zq 1), .ref (zq 3), .ref (zq 5), .ref (zq 7), .ref (zq 9), .ref (zq 11), .int aq, .int fd])), (zq 1, .inr (5, [.ref (zq 2)])), (zq 2, .inl (dA 0, 40, .inl g20_0)), (hq, .inr (2, [.int mq, .ref aq0, .int (nI nq)])), (aq0, .inl (dA 5, capq, .inr (.inr (.inr (.inr fq)))))]) (T := TT) (B := [(eq k20, .inr (4, [.int (QK k20), .int (QA k20), .int (QB k20), .int (QD k20), .int (QW k20), .int (QN k20)]))]) (T' := TQ k20) (hTQ k20 (by omega)) hP
        replace hD := foc_D (X := [(zq 0, .inr (6, [.ref (zq 1), .ref (zq 3), .ref (zq 5), .ref (zq 7), .ref (zq 9), .ref (zq 11), .int aq, .int fd])), (zq 1, .inr (5, [.ref (zq 2)])), (zq 2, .inl (dA 0, 40, .inl g20_0)), (hq, .inr (2, [.int mq, .ref aq0, .int (nI nq)])), (aq0, .inl (dA 5, capq, .inr (.inr (.inr (.inr fq)))))]) (T := TT) (B := [(eq k20, .inr (4, [.int (QK k20), .int (QA k20), .int (QB k20), .int (QD k20), .int (QW k20), .int (QN k20)]))]) (T' := TQ k20) (hTQ k20 (by omega)) hD
        replace hP : va_P D vwCl (HAppend.hAppend (α := va_W) (β := va_W) (γ := va_W) [(zq 0, .inr (6, [.ref (zq 1), .ref (zq 3), .ref (zq 5), .ref (zq 7), .ref (zq 9), .ref (zq 11), .int aq, .int fd])), (zq 1, .inr (5, [.ref (zq 2)])), (zq 2, .inl (dA 0, 40, .inl g20_0)), (hq, .inr (2, [.int mq, .ref aq0, .int (nI nq)])), (aq0, .inl (dA 5, capq, .inr (.inr (.inr (.inr fq))))), (eq k20, .inr (4, [.int (QK k20), .int (QA k20), .int (QB k20), .int (QD k20), .int (QW k20), .int (QN k20)]))] (TQ k20)) H := hP
        replace hD : va_D A (HAppend.hAppend (α := va_W) (β := va_W) (γ := va_W) [(zq 0, .inr (6, [.ref (zq 1), .ref (zq 3), .ref (zq 5), .ref (zq 7), .ref (zq 9), .ref (zq 11), .int aq, .int fd])), (zq 1, .inr (5, [.ref (zq 2)])), (zq 2, .inl (dA 0, 40, .inl g20_0)), (hq, .inr (2, [.int mq, .ref aq0, .int (nI nq)])), (aq0, .inl (dA 5, capq, .inr (.inr (.inr (.inr fq))))), (eq k20, .inr (4, [.int (QK k20), .int (QA k20), .int (QB k20), .int (QD k20), .int (QW k20), .int (QN k20)]))] (TQ k20)) := hD
        refine va_castS hx hb hown (hts _ q458) (hK.1 4 (RX1, TX1, 6) rfl).2 (va_recv hK hP (ci := 4) (q0 := 5) rfl rfl) dX3_gatherParts_53 ?_
        refine lv_aload_n hx hb dX3_gatherParts_56 rfl (lv_at hl 1 rfl) ?_
        refine va_get (D := D) (ci := 6) (v := .ref (zq 1)) (C := RX3) (T := TX3) (N := 8) hx hb hts inAX3 hown hK hP 0 rfl rfl 0 (by decide) (hts _ q313) (fun _ h9 => h9) rfl dX3_gatherParts_57 ?_
        refine lv_iload_n hx hb dX3_gatherParts_60 rfl (lv_at hl 4 rfl) ?_
        rcases Bool.eq_false_or_eq_true (okJ (QK k20)) with hj9 | hj9
        · obtain ⟨x9, y9, ex9, ey9, hx9, hy9⟩ := hJ k20 (by omega) hj9
          replace hP : va_P D vwCl (HAppend.hAppend (α := va_W) (β := va_W) (γ := va_W) [(zq 0, .inr (6, [.ref (zq 1), .ref (zq 3), .ref (zq 5), .ref (zq 7), .ref (zq 9), .ref (zq 11), .int aq, .int fd])), (zq 1, .inr (5, [.ref (zq 2)])), (zq 2, .inl (dA 0, 40, .inl g20_0)), (hq, .inr (2, [.int mq, .ref aq0, .int (nI nq)])), (aq0, .inl (dA 5, capq, .inr (.inr (.inr (.inr fq))))), (eq k20, .inr (4, [.int (QK k20), .int (nI x9), .int (nI y9), .int (QD k20), .int (QW k20), .int (QN k20)]))] (TQ k20)) H := by rw [← ex9, ← ey9]; exact hP
          replace hD : va_D A (HAppend.hAppend (α := va_W) (β := va_W) (γ := va_W) [(zq 0, .inr (6, [.ref (zq 1), .ref (zq 3), .ref (zq 5), .ref (zq 7), .ref (zq 9), .ref (zq 11), .int aq, .int fd])), (zq 1, .inr (5, [.ref (zq 2)])), (zq 2, .inl (dA 0, 40, .inl g20_0)), (hq, .inr (2, [.int mq, .ref aq0, .int (nI nq)])), (aq0, .inl (dA 5, capq, .inr (.inr (.inr (.inr fq))))), (eq k20, .inr (4, [.int (QK k20), .int (nI x9), .int (nI y9), .int (QD k20), .int (QW k20), .int (QN k20)]))] (TQ k20)) := by rw [← ex9, ← ey9]; exact hD
          replace hPc := hP.sub (ws' := [(eq k20, .inr (4, [.int (QK k20), .int (nI x9), .int (nI y9), .int (QD k20), .int (QW k20), .int (QN k20)])), (zq 1, .inr (5, [.ref (zq 2)])), (zq 2, .inl (dA 0, 40, .inl g20_0))]) [5, 1, 2] rfl
          replace hDc := hD.sub (ws' := [(eq k20, .inr (4, [.int (QK k20), .int (nI x9), .int (nI y9), .int (QD k20), .int (QW k20), .int (QN k20)])), (zq 1, .inr (5, [.ref (zq 2)])), (zq 2, .inl (dA 0, 40, .inl g20_0))]) [5, 1, 2] (by decide) rfl
          replace hFc := va_free (wc := [(eq k20, .inr (4, [.int (QK k20), .int (nI x9), .int (nI y9), .int (QD k20), .int (QW k20), .int (QN k20)])), (zq 1, .inr (5, [.ref (zq 2)])), (zq 2, .inl (dA 0, 40, .inl g20_0))]) hD hS hA [5, 1, 2] rfl
          refine va_callv (va_runV (As := [.ref (zq 1), .int 0]) (rest := []) ⟨hx, hb, hml, hown, hts⟩ (q_nameParts0 l D dA E (eq k20) x9 y9 (QK k20) (QD k20) (QW k20) (QN k20) (zq 1) (zq 2) g20_0 H.size  (by omega) (by omega) hj9) (cwV 2 hts (ga_V q461 q462 q459 q414 q460) rfl rfl rfl (by decide +kernel) ⟨(Nat.le_of_ble_eq_true rfl), (Nat.le_of_ble_eq_true rfl)⟩) ⟨pb_blind, va_recv hK hPc (ci := 4) (q0 := 0) rfl rfl, pb_pre hK hPc hDc hZ hS hFc _⟩ rfl rfl hl.1 rfl (lv_room (Nat.le_of_ble_eq_true rfl)) dX3_gatherParts_61 ⟨(Nat.le_of_ble_eq_true rfl), (Nat.le_of_ble_eq_true rfl)⟩) hS (fun q _ h => hFc q h) hFc (fun u t H1 locs ht hvm hw hB hz1 hk1 hS => ?_)
          refine W.widen (k := 0) (n := 0) (Nat.le_of_ble_eq_true rfl) (Nat.le_of_ble_eq_true rfl) ?_
          obtain ⟨u18, rfl⟩ : ∃ z, z = u := ⟨_, rfl⟩
          have hw19 := hw
          clear hw
          obtain ⟨hP1, hD1⟩ := hB
          rw [ht] at hP1
          obtain ⟨hP, hD⟩ := va_joinQ (X := [(zq 0, .inr (6, [.ref (zq 1), .ref (zq 3), .ref (zq 5), .ref (zq 7), .ref (zq 9), .ref (zq 11), .int aq, .int fd])), (zq 1, .inr (5, [.ref (zq 2)])), (zq 2, .inl (dA 0, 40, .inl g20_0)), (hq, .inr (2, [.int mq, .ref aq0, .int (nI nq)])), (aq0, .inl (dA 5, capq, .inr (.inr (.inr (.inr fq))))), (eq k20, .inr (4, [.int (QK k20), .int (nI x9), .int (nI y9), .int (QD k20), .int (QW k20), .int (QN k20)]))]) (cx := [(eq k20, .inr (4, [.int (QK k20), .int (nI x9), .int (nI y9), .int (QD k20), .int (QW k20), .int (QN k20)])), (zq 1, .inr (5, [.ref (zq 2)])), (zq 2, .inl (dA 0, 40, .inl g20_0))]) (wr := [(zq 0, .inr (6, [.ref (zq 1), .ref (zq 3), .ref (zq 5), .ref (zq 7), .ref (zq 9), .ref (zq 11), .int aq, .int fd])), (hq, .inr (2, [.int mq, .ref aq0, .int (nI nq)])), (aq0, .inl (dA 5, capq, .inr (.inr (.inr (.inr fq)))))]) (w1 := [(eq k20, .inr (4, [.int (QK k20), .int (nI x9), .int (nI y9), .int (QD k20), .int (QW k20), .int (QN k20)])), (zq 1, .inr (5, [.ref (zq 2)])), (zq 2, .inl (dA 0, 40, .inl (upd (upd g20_0 x9 1) y9 1)))]) (pl := TQ k20) hP hD [5, 1, 2] [0, 3, 4] rfl rfl (by decide) (by decide) hk1 hFc hP1 hD1
          generalize H1 = H at hP hS ⊢
          replace hP : va_P D vwCl (HAppend.hAppend (α := va_W) (β := va_W) (γ := va_W) [(zq 0, .inr (6, [.ref (zq 1), .ref (zq 3), .ref (zq 5), .ref (zq 7), .ref (zq 9), .ref (zq 11), .int aq, .int fd])), (hq, .inr (2, [.int mq, .ref aq0, .int (nI nq)])), (aq0, .inl (dA 5, capq, .inr (.inr (.inr (.inr fq))))), (eq k20, .inr (4, [.int (QK k20), .int (nI x9), .int (nI y9), .int (QD k20), .int (QW k20), .int (QN k20)])), (zq 1, .inr (5, [.ref (zq 2)])), (zq 2, .inl (dA 0, 40, .inl (upd (upd g20_0 x9 1) y9 1)))] (TQ k20)) H := hP
          replace hD : va_D A (HAppend.hAppend (α := va_W) (β := va_W) (γ := va_W) [(zq 0, .inr (6, [.ref (zq 1), .ref (zq 3), .ref (zq 5), .ref (zq 7), .ref (zq 9), .ref (zq 11), .int aq, .int fd])), (hq, .inr (2, [.int mq, .ref aq0, .int (nI nq)])), (aq0, .inl (dA 5, capq, .inr (.inr (.inr (.inr fq))))), (eq k20, .inr (4, [.int (QK k20), .int (nI x9), .int (nI y9), .int (QD k20), .int (QW k20), .int (QN k20)])), (zq 1, .inr (5, [.ref (zq 2)])), (zq 2, .inl (dA 0, 40, .inl (upd (upd g20_0 x9 1) y9 1)))] (TQ k20)) := hD
          replace hP : va_P D vwCl (HAppend.hAppend (α := va_W) (β := va_W) (γ := va_W) [(zq 0, .inr (6, [.ref (zq 1), .ref (zq 3), .ref (zq 5), .ref (zq 7), .ref (zq 9), .ref (zq 11), .int aq, .int fd])), (hq, .inr (2, [.int mq, .ref aq0, .int (nI nq)])), (aq0, .inl (dA 5, capq, .inr (.inr (.inr (.inr fq))))), (eq k20, .inr (4, [.int (QK k20), .int (QA k20), .int (QB k20), .int (QD k20), .int (QW k20), .int (QN k20)])), (zq 1, .inr (5, [.ref (zq 2)])), (zq 2, .inl (dA 0, 40, .inl (upd (upd g20_0 x9 1) y9 1)))] (TQ k20)) H := by rw [ex9, ey9]; exact hP
          replace hD : va_D A (HAppend.hAppend (α := va_W) (β := va_W) (γ := va_W) [(zq 0, .inr (6, [.ref (zq 1), .ref (zq 3), .ref (zq 5), .ref (zq 7), .ref (zq 9), .ref (zq 11), .int aq, .int fd])), (hq, .inr (2, [.int mq, .ref aq0, .int (nI nq)])), (aq0, .inl (dA 5, capq, .inr (.inr (.inr (.inr fq))))), (eq k20, .inr (4, [.int (QK k20), .int (QA k20), .int (QB k20), .int (QD k20), .int (QW k20), .int (QN k20)])), (zq 1, .inr (5, [.ref (zq 2)])), (zq 2, .inl (dA 0, 40, .inl (upd (upd g20_0 x9 1) y9 1)))] (TQ k20)) := by rw [ex9, ey9]; exact hD
          replace hP := va_P.part (X := [(zq 0, .inr (6, [.ref (zq 1), .ref (zq 3), .ref (zq 5), .ref (zq 7), .ref (zq 9), .ref (zq 11), .int aq, .int fd])), (hq, .inr (2, [.int mq, .ref aq0, .int (nI nq)])), (aq0, .inl (dA 5, capq, .inr (.inr (.inr (.inr fq))))), (eq k20, .inr (4, [.int (QK k20), .int (QA k20), .int (QB k20), .int (QD k20), .int (QW k20), .int (QN k20)])), (zq 1, .inr (5, [.ref (zq 2)])), (zq 2, .inl (dA 0, 40, .inl (upd (upd g20_0 x9 1) y9 1)))]) (cx := [(zq 0, .inr (6, [.ref (zq 1), .ref (zq 3), .ref (zq 5), .ref (zq 7), .ref (zq 9), .ref (zq 11), .int aq, .int fd])), (hq, .inr (2, [.int mq, .ref aq0, .int (nI nq)])), (aq0, .inl (dA 5, capq, .inr (.inr (.inr (.inr fq))))), (zq 1, .inr (5, [.ref (zq 2)])), (zq 2, .inl (dA 0, 40, .inl (upd (upd g20_0 x9 1) y9 1))), (eq k20, .inr (4, [.int (QK k20), .int (QA k20), .int (QB k20), .int (QD k20), .int (QW k20), .int (QN k20)]))]) (pl := TQ k20) hP [0, 1, 2, 4, 5, 3] rfl
          replace hD := va_D.part (X := [(zq 0, .inr (6, [.ref (zq 1), .ref (zq 3), .ref (zq 5), .ref (zq 7), .ref (zq 9), .ref (zq 11), .int aq, .int fd])), (hq, .inr (2, [.int mq, .ref aq0, .int (nI nq)])), (aq0, .inl (dA 5, capq, .inr (.inr (.inr (.inr fq))))), (eq k20, .inr (4, [.int (QK k20), .int (QA k20), .int (QB k20), .int (QD k20), .int (QW k20), .int (QN k20)])), (zq 1, .inr (5, [.ref (zq 2)])), (zq 2, .inl (dA 0, 40, .inl (upd (upd g20_0 x9 1) y9 1)))]) (cx := [(zq 0, .inr (6, [.ref (zq 1), .ref (zq 3), .ref (zq 5), .ref (zq 7), .ref (zq 9), .ref (zq 11), .int aq, .int fd])), (hq, .inr (2, [.int mq, .ref aq0, .int (nI nq)])), (aq0, .inl (dA 5, capq, .inr (.inr (.inr (.inr fq))))), (zq 1, .inr (5, [.ref (zq 2)])), (zq 2, .inl (dA 0, 40, .inl (upd (upd g20_0 x9 1) y9 1))), (eq k20, .inr (4, [.int (QK k20), .int (QA k20), .int (QB k20), .int (QD k20), .int (QW k20), .int (QN k20)]))]) (pl := TQ k20) hD [0, 1, 2, 4, 5, 3] (by decide) rfl
          replace hP := unf_P (X := [(zq 0, .inr (6, [.ref (zq 1), .ref (zq 3), .ref (zq 5), .ref (zq 7), .ref (zq 9), .ref (zq 11), .int aq, .int fd])), (hq, .inr (2, [.int mq, .ref aq0, .int (nI nq)])), (aq0, .inl (dA 5, capq, .inr (.inr (.inr (.inr fq))))), (zq 1, .inr (5, [.ref (zq 2)])), (zq 2, .inl (dA 0, 40, .inl (upd (upd g20_0 x9 1) y9 1)))]) (T := TT) (B := [(eq k20, .inr (4, [.int (QK k20), .int (QA k20), .int (QB k20), .int (QD k20), .int (QW k20), .int (QN k20)]))]) (T' := TQ k20) (hTQ k20 (by omega)) hP
          replace hD := unf_D (X := [(zq 0, .inr (6, [.ref (zq 1), .ref (zq 3), .ref (zq 5), .ref (zq 7), .ref (zq 9), .ref (zq 11), .int aq, .int fd])), (hq, .inr (2, [.int mq, .ref aq0, .int (nI nq)])), (aq0, .inl (dA 5, capq, .inr (.inr (.inr (.inr fq))))), (zq 1, .inr (5, [.ref (zq 2)])), (zq 2, .inl (dA 0, 40, .inl (upd (upd g20_0 x9 1) y9 1)))]) (T := TT) (B := [(eq k20, .inr (4, [.int (QK k20), .int (QA k20), .int (QB k20), .int (QD k20), .int (QW k20), .int (QN k20)]))]) (T' := TQ k20) (hTQ k20 (by omega)) hD
          replace hP : va_P D vwCl (HAppend.hAppend (α := va_W) (β := va_W) (γ := va_W) [(zq 0, .inr (6, [.ref (zq 1), .ref (zq 3), .ref (zq 5), .ref (zq 7), .ref (zq 9), .ref (zq 11), .int aq, .int fd])), (hq, .inr (2, [.int mq, .ref aq0, .int (nI nq)])), (aq0, .inl (dA 5, capq, .inr (.inr (.inr (.inr fq))))), (zq 1, .inr (5, [.ref (zq 2)])), (zq 2, .inl (dA 0, 40, .inl (upd (upd g20_0 x9 1) y9 1)))] TT) H := hP
          replace hD : va_D A (HAppend.hAppend (α := va_W) (β := va_W) (γ := va_W) [(zq 0, .inr (6, [.ref (zq 1), .ref (zq 3), .ref (zq 5), .ref (zq 7), .ref (zq 9), .ref (zq 11), .int aq, .int fd])), (hq, .inr (2, [.int mq, .ref aq0, .int (nI nq)])), (aq0, .inl (dA 5, capq, .inr (.inr (.inr (.inr fq))))), (zq 1, .inr (5, [.ref (zq 2)])), (zq 2, .inl (dA 0, 40, .inl (upd (upd g20_0 x9 1) y9 1)))] TT) := hD
          refine lv_iinc (v := pv k20) (lv' := [(4, .int (pv k20)), (0, .ref (zq 0)), (1, .ref hq), (2, .int (nI qq)), (3, .int 0)]) hx hb dX3_gatherParts_64 hl (k := 0) rfl (pv_m1 k20) (by decide) rfl (fun ls hl => ?_)
          refine lv_goto (tgt := 20) hx hb dX3_gatherParts_67 (by decide) ?_
          exact ih20 (upd (upd g20_0 x9 1) y9 1) (by omega) (gP_j hex20 (by omega) hx9 hy9 ex9 ey9) _ _ hP hD hS ls (lv_sub hl [0, 1, 2, 3, 4] rfl)
        · replace hPc := hP.sub (ws' := [(eq k20, .inr (4, [.int (QK k20), .int (QA k20), .int (QB k20), .int (QD k20), .int (QW k20), .int (QN k20)])), (zq 1, .inr (5, [.ref (zq 2)])), (zq 2, .inl (dA 0, 40, .inl g20_0))]) [5, 1, 2] rfl
          replace hDc := hD.sub (ws' := [(eq k20, .inr (4, [.int (QK k20), .int (QA k20), .int (QB k20), .int (QD k20), .int (QW k20), .int (QN k20)])), (zq 1, .inr (5, [.ref (zq 2)])), (zq 2, .inl (dA 0, 40, .inl g20_0))]) [5, 1, 2] (by decide) rfl
          replace hFc := va_free (wc := [(eq k20, .inr (4, [.int (QK k20), .int (QA k20), .int (QB k20), .int (QD k20), .int (QW k20), .int (QN k20)])), (zq 1, .inr (5, [.ref (zq 2)])), (zq 2, .inl (dA 0, 40, .inl g20_0))]) hD hS hA [5, 1, 2] rfl
          refine va_callv (va_runV (As := [.ref (zq 1), .int 0]) (rest := []) ⟨hx, hb, hml, hown, hts⟩ (q_namePartsW l D dA E (eq k20) (QK k20) (QA k20) (QB k20) (QD k20) (QW k20) (QN k20) (zq 1) (zq 2) g20_0 0 H.size  hj9) (cwV 2 hts (ga_V q461 q462 q459 q414 q460) rfl rfl rfl (by decide +kernel) ⟨(Nat.le_of_ble_eq_true rfl), (Nat.le_of_ble_eq_true rfl)⟩) ⟨pb_blind, va_recv hK hPc (ci := 4) (q0 := 0) rfl rfl, pb_pre hK hPc hDc hZ hS hFc _⟩ rfl rfl hl.1 rfl (lv_room (Nat.le_of_ble_eq_true rfl)) dX3_gatherParts_61 ⟨(Nat.le_of_ble_eq_true rfl), (Nat.le_of_ble_eq_true rfl)⟩) hS (fun q _ h => hFc q h) hFc (fun u t H1 locs ht hvm hw hB hz1 hk1 hS => ?_)
          refine W.widen (k := 0) (n := 0) (Nat.le_of_ble_eq_true rfl) (Nat.le_of_ble_eq_true rfl) ?_
          obtain ⟨u20, rfl⟩ : ∃ z, z = u := ⟨_, rfl⟩
          have hw21 := hw
          clear hw
          obtain ⟨hP1, hD1⟩ := hB
          rw [ht] at hP1
          obtain ⟨hP, hD⟩ := va_joinQ (X := [(zq 0, .inr (6, [.ref (zq 1), .ref (zq 3), .ref (zq 5), .ref (zq 7), .ref (zq 9), .ref (zq 11), .int aq, .int fd])), (zq 1, .inr (5, [.ref (zq 2)])), (zq 2, .inl (dA 0, 40, .inl g20_0)), (hq, .inr (2, [.int mq, .ref aq0, .int (nI nq)])), (aq0, .inl (dA 5, capq, .inr (.inr (.inr (.inr fq))))), (eq k20, .inr (4, [.int (QK k20), .int (QA k20), .int (QB k20), .int (QD k20), .int (QW k20), .int (QN k20)]))]) (cx := [(eq k20, .inr (4, [.int (QK k20), .int (QA k20), .int (QB k20), .int (QD k20), .int (QW k20), .int (QN k20)])), (zq 1, .inr (5, [.ref (zq 2)])), (zq 2, .inl (dA 0, 40, .inl g20_0))]) (wr := [(zq 0, .inr (6, [.ref (zq 1), .ref (zq 3), .ref (zq 5), .ref (zq 7), .ref (zq 9), .ref (zq 11), .int aq, .int fd])), (hq, .inr (2, [.int mq, .ref aq0, .int (nI nq)])), (aq0, .inl (dA 5, capq, .inr (.inr (.inr (.inr fq)))))]) (w1 := [(eq k20, .inr (4, [.int (QK k20), .int (QA k20), .int (QB k20), .int (QD k20), .int (QW k20), .int (QN k20)])), (zq 1, .inr (5, [.ref (zq 2)])), (zq 2, .inl (dA 0, 40, .inl g20_0))]) (pl := TQ k20) hP hD [5, 1, 2] [0, 3, 4] rfl rfl (by decide) (by decide) hk1 hFc hP1 hD1
          generalize H1 = H at hP hS ⊢
          replace hP : va_P D vwCl (HAppend.hAppend (α := va_W) (β := va_W) (γ := va_W) [(zq 0, .inr (6, [.ref (zq 1), .ref (zq 3), .ref (zq 5), .ref (zq 7), .ref (zq 9), .ref (zq 11), .int aq, .int fd])), (hq, .inr (2, [.int mq, .ref aq0, .int (nI nq)])), (aq0, .inl (dA 5, capq, .inr (.inr (.inr (.inr fq))))), (eq k20, .inr (4, [.int (QK k20), .int (QA k20), .int (QB k20), .int (QD k20), .int (QW k20), .int (QN k20)])), (zq 1, .inr (5, [.ref (zq 2)])), (zq 2, .inl (dA 0, 40, .inl g20_0))] (TQ k20)) H := hP
          replace hD : va_D A (HAppend.hAppend (α := va_W) (β := va_W) (γ := va_W) [(zq 0, .inr (6, [.ref (zq 1), .ref (zq 3), .ref (zq 5), .ref (zq 7), .ref (zq 9), .ref (zq 11), .int aq, .int fd])), (hq, .inr (2, [.int mq, .ref aq0, .int (nI nq)])), (aq0, .inl (dA 5, capq, .inr (.inr (.inr (.inr fq))))), (eq k20, .inr (4, [.int (QK k20), .int (QA k20), .int (QB k20), .int (QD k20), .int (QW k20), .int (QN k20)])), (zq 1, .inr (5, [.ref (zq 2)])), (zq 2, .inl (dA 0, 40, .inl g20_0))] (TQ k20)) := hD
          replace hP := va_P.part (X := [(zq 0, .inr (6, [.ref (zq 1), .ref (zq 3), .ref (zq 5), .ref (zq 7), .ref (zq 9), .ref (zq 11), .int aq, .int fd])), (hq, .inr (2, [.int mq, .ref aq0, .int (nI nq)])), (aq0, .inl (dA 5, capq, .inr (.inr (.inr (.inr fq))))), (eq k20, .inr (4, [.int (QK k20), .int (QA k20), .int (QB k20), .int (QD k20), .int (QW k20), .int (QN k20)])), (zq 1, .inr (5, [.ref (zq 2)])), (zq 2, .inl (dA 0, 40, .inl g20_0))]) (cx := [(zq 0, .inr (6, [.ref (zq 1), .ref (zq 3), .ref (zq 5), .ref (zq 7), .ref (zq 9), .ref (zq 11), .int aq, .int fd])), (hq, .inr (2, [.int mq, .ref aq0, .int (nI nq)])), (aq0, .inl (dA 5, capq, .inr (.inr (.inr (.inr fq))))), (zq 1, .inr (5, [.ref (zq 2)])), (zq 2, .inl (dA 0, 40, .inl g20_0)), (eq k20, .inr (4, [.int (QK k20), .int (QA k20), .int (QB k20), .int (QD k20), .int (QW k20), .int (QN k20)]))]) (pl := TQ k20) hP [0, 1, 2, 4, 5, 3] rfl
          replace hD := va_D.part (X := [(zq 0, .inr (6, [.ref (zq 1), .ref (zq 3), .ref (zq 5), .ref (zq 7), .ref (zq 9), .ref (zq 11), .int aq, .int fd])), (hq, .inr (2, [.int mq, .ref aq0, .int (nI nq)])), (aq0, .inl (dA 5, capq, .inr (.inr (.inr (.inr fq))))), (eq k20, .inr (4, [.int (QK k20), .int (QA k20), .int (QB k20), .int (QD k20), .int (QW k20), .int (QN k20)])), (zq 1, .inr (5, [.ref (zq 2)])), (zq 2, .inl (dA 0, 40, .inl g20_0))]) (cx := [(zq 0, .inr (6, [.ref (zq 1), .ref (zq 3), .ref (zq 5), .ref (zq 7), .ref (zq 9), .ref (zq 11), .int aq, .int fd])), (hq, .inr (2, [.int mq, .ref aq0, .int (nI nq)])), (aq0, .inl (dA 5, capq, .inr (.inr (.inr (.inr fq))))), (zq 1, .inr (5, [.ref (zq 2)])), (zq 2, .inl (dA 0, 40, .inl g20_0)), (eq k20, .inr (4, [.int (QK k20), .int (QA k20), .int (QB k20), .int (QD k20), .int (QW k20), .int (QN k20)]))]) (pl := TQ k20) hD [0, 1, 2, 4, 5, 3] (by decide) rfl
          replace hP := unf_P (X := [(zq 0, .inr (6, [.ref (zq 1), .ref (zq 3), .ref (zq 5), .ref (zq 7), .ref (zq 9), .ref (zq 11), .int aq, .int fd])), (hq, .inr (2, [.int mq, .ref aq0, .int (nI nq)])), (aq0, .inl (dA 5, capq, .inr (.inr (.inr (.inr fq))))), (zq 1, .inr (5, [.ref (zq 2)])), (zq 2, .inl (dA 0, 40, .inl g20_0))]) (T := TT) (B := [(eq k20, .inr (4, [.int (QK k20), .int (QA k20), .int (QB k20), .int (QD k20), .int (QW k20), .int (QN k20)]))]) (T' := TQ k20) (hTQ k20 (by omega)) hP
          replace hD := unf_D (X := [(zq 0, .inr (6, [.ref (zq 1), .ref (zq 3), .ref (zq 5), .ref (zq 7), .ref (zq 9), .ref (zq 11), .int aq, .int fd])), (hq, .inr (2, [.int mq, .ref aq0, .int (nI nq)])), (aq0, .inl (dA 5, capq, .inr (.inr (.inr (.inr fq))))), (zq 1, .inr (5, [.ref (zq 2)])), (zq 2, .inl (dA 0, 40, .inl g20_0))]) (T := TT) (B := [(eq k20, .inr (4, [.int (QK k20), .int (QA k20), .int (QB k20), .int (QD k20), .int (QW k20), .int (QN k20)]))]) (T' := TQ k20) (hTQ k20 (by omega)) hD
          replace hP : va_P D vwCl (HAppend.hAppend (α := va_W) (β := va_W) (γ := va_W) [(zq 0, .inr (6, [.ref (zq 1), .ref (zq 3), .ref (zq 5), .ref (zq 7), .ref (zq 9), .ref (zq 11), .int aq, .int fd])), (hq, .inr (2, [.int mq, .ref aq0, .int (nI nq)])), (aq0, .inl (dA 5, capq, .inr (.inr (.inr (.inr fq))))), (zq 1, .inr (5, [.ref (zq 2)])), (zq 2, .inl (dA 0, 40, .inl g20_0))] TT) H := hP
          replace hD : va_D A (HAppend.hAppend (α := va_W) (β := va_W) (γ := va_W) [(zq 0, .inr (6, [.ref (zq 1), .ref (zq 3), .ref (zq 5), .ref (zq 7), .ref (zq 9), .ref (zq 11), .int aq, .int fd])), (hq, .inr (2, [.int mq, .ref aq0, .int (nI nq)])), (aq0, .inl (dA 5, capq, .inr (.inr (.inr (.inr fq))))), (zq 1, .inr (5, [.ref (zq 2)])), (zq 2, .inl (dA 0, 40, .inl g20_0))] TT) := hD
          refine lv_iinc (v := pv k20) (lv' := [(4, .int (pv k20)), (0, .ref (zq 0)), (1, .ref hq), (2, .int (nI qq)), (3, .int 0)]) hx hb dX3_gatherParts_64 hl (k := 0) rfl (pv_m1 k20) (by decide) rfl (fun ls hl => ?_)
          refine lv_goto (tgt := 20) hx hb dX3_gatherParts_67 (by decide) ?_
          exact ih20 g20_0 (by omega) (gP_w hex20 hj9) _ _ hP hD hS ls (lv_sub hl [0, 1, 2, 3, 4] rfl)
  exact K20 (qq + 1) (upd (fl (fun _ => 0) pp 40) qq 1) (Nat.le_refl _) gP_0 _ _ hP hD hS ls hl
