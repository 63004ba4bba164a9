/-! CONTRACTS, general -/
theorem q411 : (.code yX1_canJoin cX1_canJoin 1 (some .boolean) : Cond) ∈ WA := WA_of (tb_4 82 rfl) rfl
theorem q412 : (.methodLink RX1 35 yX1_canJoin : Cond) ∈ WA := WA_of (tb_4 123 rfl) rfl
theorem q413 : (.static yX1_canJoin : Cond) ∈ WA := WA_of (tb_4 81 rfl) rfl
theorem q414 : (.initialized RX1 : Cond) ∈ WA := WA_of (tb_1 27 rfl) rfl
theorem q415 : (.selects RX1 yX1_isOfWords yX1_isOfWords : Cond) ∈ WA := WA_of (tb_4 121 rfl) rfl
theorem q416 : (.code yX1_isOfWords cX1_isOfWords 1 (some .boolean) : Cond) ∈ WA := WA_of (tb_4 122 rfl) rfl
theorem q417 : (.methodLink RX1 39 yX1_isOfWords : Cond) ∈ WA := WA_of (tb_4 119 rfl) rfl
theorem q418 : (.instanceMethod yX1_isOfWords : Cond) ∈ WA := WA_of (tb_4 120 rfl) rfl
theorem q419 : (.methodLink RX1 43 yX2_put : Cond) ∈ WA := WA_of (tb_4 124 rfl) rfl
theorem q420 : (.methodLink RX1 62 yX2_get : Cond) ∈ WA := WA_of (tb_4 144 rfl) rfl
theorem q421 : (.selects RX6 yX6_isFirstAtPlace yX6_isFirstAtPlace : Cond) ∈ WA := WA_of (tb_4 147 rfl) rfl
theorem q422 : (.code yX6_isFirstAtPlace cX6_isFirstAtPlace 3 (some .boolean) : Cond) ∈ WA := WA_of (tb_4 148 rfl) rfl
theorem q423 : (.methodLink RX1 65 yX6_isFirstAtPlace : Cond) ∈ WA := WA_of (tb_4 145 rfl) rfl
theorem q424 : (.instanceMethod yX6_isFirstAtPlace : Cond) ∈ WA := WA_of (tb_4 146 rfl) rfl
theorem q425 : (.selects RX1 yX1_isCouple yX1_isCouple : Cond) ∈ WA := WA_of (sb_2 0 rfl) rfl
theorem q426 : (.code yX1_isCouple cX1_isCouple 5 (some .boolean) : Cond) ∈ WA := WA_of (tb_4 152 rfl) rfl
theorem q427 : (.methodLink RX1 68 yX1_isCouple : Cond) ∈ WA := WA_of (tb_4 149 rfl) rfl
theorem q428 : (.instanceMethod yX1_isCouple : Cond) ∈ WA := WA_of (tb_4 151 rfl) rfl
theorem q429 : (.selects RX6 yX6_times yX6_times : Cond) ∈ WA := WA_of (tb_4 142 rfl) rfl
theorem q430 : (.code yX6_times cX6_times 4 (some .int) : Cond) ∈ WA := WA_of (tb_4 143 rfl) rfl
theorem q431 : (.methodLink RX1 49 yX6_times : Cond) ∈ WA := WA_of (tb_4 140 rfl) rfl
theorem q432 : (.instanceMethod yX6_times : Cond) ∈ WA := WA_of (tb_4 141 rfl) rfl
theorem q433 : (.selects RX1 yX1_markCouples yX1_markCouples : Cond) ∈ WA := WA_of (sb_2 7 rfl) rfl
theorem q434 : (.code yX1_markCouples cX1_markCouples 5 none : Cond) ∈ WA := WA_of (tb_5 52 rfl) rfl
theorem q435 : (.methodLink RX1 75 yX1_markCouples : Cond) ∈ WA := WA_of (tb_5 49 rfl) rfl
theorem q436 : (.instanceMethod yX1_markCouples : Cond) ∈ WA := WA_of (tb_5 51 rfl) rfl
theorem znF_2 {U : State} (h : ZS U) : va_Nw (.fieldLinkNest "TallowIndex$Query" 58 "TallowIndex$Text" "words" "LTallowIndex$Row;" "TallowIndex") U := h.2.2.1 ("TallowIndex$Query", 58, "TallowIndex$Text", "words", "LTallowIndex$Row;", "TallowIndex") (List.mem_of_getElem? (i := 2) rfl)
theorem znF_3 {U : State} (h : ZS U) : va_Nw (.fieldLinkNest "TallowIndex$Query" 79 "TallowIndex$Text" "places" "LTallowIndex$Row;" "TallowIndex") U := h.2.2.1 ("TallowIndex$Query", 79, "TallowIndex$Text", "places", "LTallowIndex$Row;", "TallowIndex") (List.mem_of_getElem? (i := 3) rfl)
theorem znF_6 {U : State} (h : ZS U) : va_Nw (.fieldLinkNest "TallowIndex$Query" 55 "TallowIndex$Text" "count" "I" "TallowIndex") U := h.2.2.1 ("TallowIndex$Query", 55, "TallowIndex$Text", "count", "I", "TallowIndex") (List.mem_of_getElem? (i := 6) rfl)
theorem znF_4 {U : State} (h : ZS U) : va_Nw (.fieldLinkNest "TallowIndex$Query" 72 "TallowIndex$Text" "indexes" "LTallowIndex$Row;" "TallowIndex") U := h.2.2.1 ("TallowIndex$Query", 72, "TallowIndex$Text", "indexes", "LTallowIndex$Row;", "TallowIndex") (List.mem_of_getElem? (i := 4) rfl)
def icB (k b d : Int32) (w p : Nat → Int32) (i j : Nat) : Bool := decide (w j = b) && (if k = 112 then decide (p j - p i = 1) else (!decide (p j - p i = 0) && (!decide (p j - p i < -d) && !decide (d < p j - p i))))
def icF (k b d : Int32) (w p : Nat → Int32) (i j : Nat) : Bool := icB k b d w p i j && ffB w p j j
def tiN (k a b d : Int32) (w p : Nat → Int32) (n : Nat) : Nat → Nat
  | 0 => 0
  | i + 1 => tiN k a b d w p n i + if w i = a ∧ ffB w p i i = true then cn (icF k b d w p i) n else 0
theorem tiN_le {k a b d : Int32} {w p : Nat → Int32} {n : Nat} : ∀ i, tiN k a b d w p n i ≤ n * i
  | 0 => Nat.le_refl _
  | i + 1 => by
    have h1 := tiN_le (k := k) (a := a) (b := b) (d := d) (w := w) (p := p) (n := n) i
    have h2 := cn_le (icF k b d w p i) n
    unfold tiN
    rw [Nat.mul_succ]
    split <;> omega
theorem ti_n {k a b d : Int32} {w p : Nat → Int32} {n i : Nat} (h : ¬ w i = a) : nI (tiN k a b d w p n i) = nI (tiN k a b d w p n (i + 1)) := by simp [tiN, h]
theorem ti_n2 {k a b d : Int32} {w p : Nat → Int32} {n i : Nat} (h : ffB w p i i = false) : nI (tiN k a b d w p n i) = nI (tiN k a b d w p n (i + 1)) := by simp [tiN, h]
theorem ti_y {k a b d : Int32} {w p : Nat → Int32} {n i : Nat} (h : w i = a) (h2 : ffB w p i i = true) : nI (tiN k a b d w p n i + cn (icF k b d w p i) n) = nI (tiN k a b d w p n (i + 1)) := by simp [tiN, h, h2]
theorem ic_y {k b d : Int32} {w p : Nat → Int32} {x i j : Nat} (h : icF k b d w p i j = true) : nI (x + cn (icF k b d w p i) j + 1) = nI (x + cn (icF k b d w p i) (j + 1)) := by simp [cn, h, Nat.add_assoc]
theorem ic_n {k b d : Int32} {w p : Nat → Int32} {x i j : Nat} (h : icF k b d w p i j = false) : nI (x + cn (icF k b d w p i) j) = nI (x + cn (icF k b d w p i) (j + 1)) := by simp [cn, h]
def tiV (k a b d : Int32) (w p : Nat → Int32) (n : Nat) : Nat := if k = 119 then cn (fun i => decide (w i = a)) n else tiN k a b d w p n n
def jsF (k x y : Int32) : Int32 := if k = 120 then (if y = -1 then x else -1) else if ¬ x = -1 ∧ ¬ y = -1 then x + y else if k = 97 then -1 else if k = 105 then x else if x = -1 then y else x
theorem mul31 {t n : Nat} (ht : t ≤ 9216) (hn : n ≤ 30) : 100 * t * (n + 1) < 2 ^ 31 := Nat.lt_of_le_of_lt (Nat.mul_le_mul (Nat.mul_le_mul_left 100 ht) (Nat.succ_le_succ hn)) (by decide)
theorem div31 {m k : Nat} (hm : m ≤ 30) (hk : k ≤ 96) : (m + 1) * (k + 4) < 2 ^ 31 := Nat.lt_of_le_of_lt (Nat.mul_le_mul (Nat.succ_le_succ hm) (Nat.add_le_add_right hk 4)) (by decide)
set_option maxHeartbeats 4000000 in
set_option maxRecDepth 100000 in
theorem q_isOfWords (l : Launch) (D : va_G) (dA : Nat → ClassId) (E : Nat) (qo : Nat) (qk qa qb qd qw qn : Int32) (sz : Nat)   : Met l yX1_isOfWords (wq (.code yX1_isOfWords cX1_isOfWords 1 (some .boolean))) { frames := 1, cells := 0, slots := 0, locals := 20 } (va_Pc [.ref qo] (PcB D dA E [(qo, .inr (4, [.int qk, .int qa, .int qb, .int qd, .int qw, .int qn]))] sz)) (va_Qi (fun (r : Int32) (u : Unit) => r = bI (!okJ qk)) (fun u t => va_P D vwCl [(qo, .inr (4, [.int qk, .int qa, .int qb, .int qd, .int qw, .int qn]))] t.heap ∧ va_D (va_A [(qo, .inr (4, [.int qk, .int qa, .int qb, .int qd, .int qw, .int qn]))] sz) [(qo, .inr (4, [.int qk, .int qa, .int qb, .int qd, .int qw, .int qn]))]) (va_A [(qo, .inr (4, [.int qk, .int qa, .int qb, .int qd, .int qw, .int qn]))] sz)) 0 0 (va_A [(qo, .inr (4, [.int qk, .int qa, .int qb, .int qd, .int qw, .int qn]))] sz) := by
  refine mb_of (Qc := fun A => va_Qi (fun (r : Int32) (u : Unit) => r = bI (!okJ qk)) (fun u t => va_P D vwCl [(qo, .inr (4, [.int qk, .int qa, .int qb, .int qd, .int qw, .int qn]))] t.heap ∧ va_D A [(qo, .inr (4, [.int qk, .int qa, .int qb, .int qd, .int qw, .int qn]))]) A) RX1 rfl (by decide) (Nat.le_of_ble_eq_true rfl) ?_
  intro p e s m args below meth c hae hx hb hr hts hown hlocks hml hnm hP hK A hAe hD hZ hS hA ls hl
  replace hl : lv_has ls 1 [(0, .ref qo)] := hl
  refine lv_aload_n hx hb dX1_isOfWords_0 rfl (lv_at hl 0 rfl) ?_
  refine va_get (D := D) (ci := 4) (v := .int qk) (C := RX1) (T := TX1) (N := 6) hx hb hts inAX1 hown hK hP 0 rfl rfl 0 (by decide) (hts _ q301) (fun _ h9 => h9) rfl dX1_isOfWords_1 ?_
  replace hPc := hP.sub (ws' := []) [] rfl
  replace hDc := hD.sub (ws' := []) [] (by decide) rfl
  replace hFc := va_free (wc := []) hD hS hA [] rfl
  refine va_calli (va_runS (As := [.int qk]) (rest := []) ⟨hx, hb, hml, hown, hts⟩ (c_canJoin l D dA E qk s.heap.size ) (va_cwS 1 hts (ga_S q412 q413 q414 q411) rfl rfl rfl (by decide +kernel) ⟨(Nat.le_of_ble_eq_true rfl), (Nat.le_of_ble_eq_true rfl)⟩) ⟨pb_blind, pb_pre hK hPc hDc hZ hS hFc _⟩ rfl rfl hl.1 rfl (lv_room (Nat.le_of_ble_eq_true rfl)) dX1_isOfWords_4 ⟨(Nat.le_of_ble_eq_true rfl), (Nat.le_of_ble_eq_true rfl)⟩) hS (fun q _ h => hFc q h) hFc (fun r u t H1 locs ht hvm hw hB hz1 hk1 hS => ?_)
  refine W.widen (k := 0) (n := 0) (Nat.le_of_ble_eq_true rfl) (Nat.le_of_ble_eq_true rfl) ?_
  obtain ⟨r1, rfl⟩ : ∃ z, z = r := ⟨_, rfl⟩
  obtain ⟨u2, rfl⟩ : ∃ z, z = u := ⟨_, rfl⟩
  have hw3 := hw
  clear hw
  obtain ⟨hP1, hD1⟩ := hB
  rw [ht] at hP1
  obtain ⟨hP, hD⟩ := va_join (wr := [(qo, .inr (4, [.int qk, .int qa, .int qb, .int qd, .int qw, .int qn]))]) (w1 := []) hP hD [] [0] rfl rfl (by decide) (by decide) hk1 hFc hP1 hD1
  generalize H1 = H at hP hS ⊢
  replace hP : va_P D vwCl [(qo, .inr (4, [.int qk, .int qa, .int qb, .int qd, .int qw, .int qn]))] H := hP
  replace hD : va_D A [(qo, .inr (4, [.int qk, .int qa, .int qb, .int qd, .int qw, .int qn]))] := hD
  refine bt (b := (okJ qk)) ?_ ?_
  · intro hB4
    obtain rfl : r1 = 1 := hw3.trans (by rw [hB4]; rfl)
    refine lv_if_ne (tgt := 14) hx hb dX1_isOfWords_7 (by decide) (fun _ => ?_) (fun c5 => absurd c5 (by decide))
    refine lv_iconst (v := 0) hx hb dX1_isOfWords_14 (by decide) ?_
    refine W.widen (k := 0) (n := 0) (Nat.le_of_ble_eq_true rfl) (Nat.le_of_ble_eq_true rfl) ?_
    have hP9 := hP.sub (ws' := [(qo, .inr (4, [.int qk, .int qa, .int qb, .int qd, .int qw, .int qn]))]) [0] rfl
    have hD9 := hD.sub (ws' := [(qo, .inr (4, [.int qk, .int qa, .int qb, .int qd, .int qw, .int qn]))]) [0] (by decide) rfl
    exact W.zret (v := 0) hx hb hr rfl (fun t ht hW => ⟨⟨0, (), rfl, (show _ = bI (!okJ qk) from by rw [hB4]; rfl), ⟨by rw [ht]; exact hP9, hD9⟩⟩, hS.F ht⟩) hS.2.2 dX1_isOfWords_15
  · intro hB4
    obtain rfl : r1 = 0 := hw3.trans (by rw [hB4]; rfl)
    refine lv_if_ne (tgt := 14) hx hb dX1_isOfWords_7 (by decide) (fun c6 => absurd (by decide) c6) (fun _ => ?_)
    refine lv_iconst (v := 1) hx hb dX1_isOfWords_10 (by decide) ?_
    refine lv_goto (tgt := 15) hx hb dX1_isOfWords_11 (by decide) ?_
    refine W.widen (k := 0) (n := 0) (Nat.le_of_ble_eq_true rfl) (Nat.le_of_ble_eq_true rfl) ?_
    have hP9 := hP.sub (ws' := [(qo, .inr (4, [.int qk, .int qa, .int qb, .int qd, .int qw, .int qn]))]) [0] rfl
    have hD9 := hD.sub (ws' := [(qo, .inr (4, [.int qk, .int qa, .int qb, .int qd, .int qw, .int qn]))]) [0] (by decide) rfl
    exact W.zret (v := 1) hx hb hr rfl (fun t ht hW => ⟨⟨1, (), rfl, (show _ = bI (!okJ qk) from by rw [hB4]; rfl), ⟨by rw [ht]; exact hP9, hD9⟩⟩, hS.F ht⟩) hS.2.2 dX1_isOfWords_15

set_option maxHeartbeats 4000000 in
set_option maxRecDepth 100000 in
theorem q_nameParts0 (l : Launch) (D : va_G) (dA : Nat → ClassId) (E : Nat) (qo qa qb : Nat) (qk qd qw qn : Int32) (h r0 : Nat) (pp : Nat → Int32) (sz : Nat) (hqa : qa < 40) (hqb : qb < 40) (hoj : (okJ qk) = true) : Met l yX1_nameParts (wq (.code yX1_nameParts cX1_nameParts 3 none)) { frames := 2, cells := 0, slots := 0, locals := 40 } (va_Pc [.ref qo, .ref h, .int 0] (PcB D dA E [(qo, .inr (4, [.int qk, .int (nI qa), .int (nI qb), .int qd, .int qw, .int qn])), (h, .inr (5, [.ref r0])), (r0, .inl (dA 0, 40, .inl pp))] sz)) (va_Qv (fun (u : Unit) => True) (fun u t => va_P D vwCl [(qo, .inr (4, [.int qk, .int (nI qa), .int (nI qb), .int qd, .int qw, .int qn])), (h, .inr (5, [.ref r0])), (r0, .inl (dA 0, 40, .inl (upd (upd pp qa 1) qb 1)))] t.heap ∧ va_D (va_A [(qo, .inr (4, [.int qk, .int (nI qa), .int (nI qb), .int qd, .int qw, .int qn])), (h, .inr (5, [.ref r0])), (r0, .inl (dA 0, 40, .inl pp))] sz) [(qo, .inr (4, [.int qk, .int (nI qa), .int (nI qb), .int qd, .int qw, .int qn])), (h, .inr (5, [.ref r0])), (r0, .inl (dA 0, 40, .inl (upd (upd pp qa 1) qb 1)))]) (va_A [(qo, .inr (4, [.int qk, .int (nI qa), .int (nI qb), .int qd, .int qw, .int qn])), (h, .inr (5, [.ref r0])), (r0, .inl (dA 0, 40, .inl pp))] sz)) 0 0 (va_A [(qo, .inr (4, [.int qk, .int (nI qa), .int (nI qb), .int qd, .int qw, .int qn])), (h, .inr (5, [.ref r0])), (r0, .inl (dA 0, 40, .inl pp))] sz) := by
  refine mb_of (Qc := fun A => va_Qv (fun (u : Unit) => True) (fun u t => va_P D vwCl [(qo, .inr (4, [.int qk, .int (nI qa), .int (nI qb), .int qd, .int qw, .int qn])), (h, .inr (5, [.ref r0])), (r0, .inl (dA 0, 40, .inl (upd (upd pp qa 1) qb 1)))] t.heap ∧ va_D A [(qo, .inr (4, [.int qk, .int (nI qa), .int (nI qb), .int qd, .int qw, .int qn])), (h, .inr (5, [.ref r0])), (r0, .inl (dA 0, 40, .inl (upd (upd pp qa 1) qb 1)))]) A) RX1 rfl (by decide) (Nat.le_of_ble_eq_true rfl) ?_
  intro p e s m args below meth c hae hx hb hr hts hown hlocks hml hnm hP hK A hAe hD hZ hS hA ls hl
  replace hl : lv_has ls 3 [(0, .ref qo), (1, .ref h), (2, .int 0)] := hl
  refine lv_aload_n hx hb dX1_nameParts_0 rfl (lv_at hl 0 rfl) ?_
  replace hPc := hP.sub (ws' := [(qo, .inr (4, [.int qk, .int (nI qa), .int (nI qb), .int qd, .int qw, .int qn]))]) [0] rfl
  replace hDc := hD.sub (ws' := [(qo, .inr (4, [.int qk, .int (nI qa), .int (nI qb), .int qd, .int qw, .int qn]))]) [0] (by decide) rfl
  replace hFc := va_free (wc := [(qo, .inr (4, [.int qk, .int (nI qa), .int (nI qb), .int qd, .int qw, .int qn]))]) hD hS hA [0] rfl
  refine va_calli (va_runV (As := []) (rest := []) ⟨hx, hb, hml, hown, hts⟩ (q_isOfWords l D dA E qo qk (nI qa) (nI qb) qd qw qn s.heap.size ) (cwV 0 hts (ga_V q417 q418 q415 q414 q416) rfl rfl rfl (by decide +kernel) ⟨(Nat.le_of_ble_eq_true rfl), (Nat.le_of_ble_eq_true rfl)⟩) ⟨pb_blind, va_recv hK hPc (ci := 4) (q0 := 0) rfl rfl, pb_pre hK hPc hDc hZ hS hFc _⟩ rfl rfl hl.1 rfl (lv_room (Nat.le_of_ble_eq_true rfl)) dX1_nameParts_1 ⟨(Nat.le_of_ble_eq_true rfl), (Nat.le_of_ble_eq_true rfl)⟩) hS (fun q _ h => hFc q h) hFc (fun r u t H1 locs ht hvm hw hB hz1 hk1 hS => ?_)
  refine W.widen (k := 0) (n := 0) (Nat.le_of_ble_eq_true rfl) (Nat.le_of_ble_eq_true rfl) ?_
  obtain ⟨r1, rfl⟩ : ∃ z, z = r := ⟨_, rfl⟩
  obtain ⟨u2, rfl⟩ : ∃ z, z = u := ⟨_, rfl⟩
  have hw3 := hw
  clear hw
  obtain ⟨hP1, hD1⟩ := hB
  rw [ht] at hP1
  obtain ⟨hP, hD⟩ := va_join (wr := [(h, .inr (5, [.ref r0])), (r0, .inl (dA 0, 40, .inl pp))]) (w1 := [(qo, .inr (4, [.int qk, .int (nI qa), .int (nI qb), .int qd, .int qw, .int qn]))]) hP hD [0] [1, 2] rfl rfl (by decide) (by decide) hk1 hFc hP1 hD1
  generalize H1 = H at hP hS ⊢
  replace hP : va_P D vwCl [(h, .inr (5, [.ref r0])), (r0, .inl (dA 0, 40, .inl pp)), (qo, .inr (4, [.int qk, .int (nI qa), .int (nI qb), .int qd, .int qw, .int qn]))] H := hP
  replace hD : va_D A [(h, .inr (5, [.ref r0])), (r0, .inl (dA 0, 40, .inl pp)), (qo, .inr (4, [.int qk, .int (nI qa), .int (nI qb), .int qd, .int qw, .int qn]))] := hD
  obtain rfl : r1 = 0 := hw3.trans (by rw [hoj]; rfl)
  refine lv_if_eq (tgt := 8) hx hb dX1_nameParts_4 (by decide) (fun _ => ?_) (fun c4 => absurd (by decide) c4)
  refine lv_aload_n hx hb dX1_nameParts_8 rfl (lv_at hl 1 rfl) ?_
  refine lv_aload_n hx hb dX1_nameParts_9 rfl (lv_at hl 0 rfl) ?_
  refine va_get (D := D) (ci := 4) (v := .int (nI qa)) (C := RX1) (T := TX1) (N := 6) hx hb hts inAX1 hown hK hP 2 rfl rfl 1 (by decide) (hts _ q302) (fun _ h9 => h9) rfl dX1_nameParts_10 ?_
  refine lv_iconst (v := 1) hx hb dX1_nameParts_13 (by decide) ?_
  replace hPc := hP.sub (ws' := [(h, .inr (5, [.ref r0])), (r0, .inl (dA 0, 40, .inl pp))]) [0, 1] rfl
  replace hDc := hD.sub (ws' := [(h, .inr (5, [.ref r0])), (r0, .inl (dA 0, 40, .inl pp))]) [0, 1] (by decide) rfl
  replace hFc := va_free (wc := [(h, .inr (5, [.ref r0])), (r0, .inl (dA 0, 40, .inl pp))]) hD hS hA [0, 1] rfl
  refine va_callv (va_runV (As := [.int (nI qa), .int 1]) (rest := []) ⟨hx, hb, hml, hown, hts⟩ (t_putN l D dA E h r0 40 pp qa 1 H.size  (by omega) (by decide)) (cwV 2 hts (ga_V q419 q210 q207 q204 q208) rfl rfl rfl (by decide +kernel) ⟨(Nat.le_of_ble_eq_true rfl), (Nat.le_of_ble_eq_true rfl)⟩) ⟨pb_blind, va_recv hK hPc (ci := 5) (q0 := 0) rfl rfl, pb_pre hK hPc hDc hZ hS hFc _⟩ rfl rfl hl.1 rfl (lv_room (Nat.le_of_ble_eq_true rfl)) dX1_nameParts_14 ⟨(Nat.le_of_ble_eq_true rfl), (Nat.le_of_ble_eq_true rfl)⟩) hS (fun q _ h => hFc q h) hFc (fun u t H1 locs ht hvm hw hB hz1 hk1 hS => ?_)
  refine W.widen (k := 0) (n := 0) (Nat.le_of_ble_eq_true rfl) (Nat.le_of_ble_eq_true rfl) ?_
  obtain ⟨u5, rfl⟩ : ∃ z, z = u := ⟨_, rfl⟩
  have hw6 := hw
  clear hw
  obtain ⟨hP1, hD1⟩ := hB
  rw [ht] at hP1
  obtain ⟨hP, hD⟩ := va_join (wr := [(qo, .inr (4, [.int qk, .int (nI qa), .int (nI qb), .int qd, .int qw, .int qn]))]) (w1 := [(h, .inr (5, [.ref r0])), (r0, .inl (dA 0, 40, .inl (upd pp qa 1)))]) hP hD [0, 1] [2] rfl rfl (by decide) (by decide) hk1 hFc hP1 hD1
  generalize H1 = H at hP hS ⊢
  replace hP : va_P D vwCl [(qo, .inr (4, [.int qk, .int (nI qa), .int (nI qb), .int qd, .int qw, .int qn])), (h, .inr (5, [.ref r0])), (r0, .inl (dA 0, 40, .inl (upd pp qa 1)))] H := hP
  replace hD : va_D A [(qo, .inr (4, [.int qk, .int (nI qa), .int (nI qb), .int qd, .int qw, .int qn])), (h, .inr (5, [.ref r0])), (r0, .inl (dA 0, 40, .inl (upd pp qa 1)))] := hD
  refine lv_aload_n hx hb dX1_nameParts_17 rfl (lv_at hl 0 rfl) ?_
  refine va_get (D := D) (ci := 4) (v := .int qk) (C := RX1) (T := TX1) (N := 6) hx hb hts inAX1 hown hK hP 0 rfl rfl 0 (by decide) (hts _ q301) (fun _ h9 => h9) rfl dX1_nameParts_18 ?_
  refine lv_bipush (v := 120) hx hb dX1_nameParts_21 (by decide) ?_
  refine lv_icmp_ne (tgt := 30) hx hb dX1_nameParts_23 (by decide) (fun c7 => ?_) (fun c7 => ?_)
  · refine lv_aload_n hx hb dX1_nameParts_30 rfl (lv_at hl 1 rfl) ?_
    refine lv_aload_n hx hb dX1_nameParts_31 rfl (lv_at hl 0 rfl) ?_
    refine va_get (D := D) (ci := 4) (v := .int (nI qb)) (C := RX1) (T := TX1) (N := 6) hx hb hts inAX1 hown hK hP 0 rfl rfl 2 (by decide) (hts _ q303) (fun _ h9 => h9) rfl dX1_nameParts_32 ?_
    refine lv_iconst (v := 1) hx hb dX1_nameParts_35 (by decide) ?_
    replace hPc := hP.sub (ws' := [(h, .inr (5, [.ref r0])), (r0, .inl (dA 0, 40, .inl (upd pp qa 1)))]) [1, 2] rfl
    replace hDc := hD.sub (ws' := [(h, .inr (5, [.ref r0])), (r0, .inl (dA 0, 40, .inl (upd pp qa 1)))]) [1, 2] (by decide) rfl
    replace hFc := va_free (wc := [(h, .inr (5, [.ref r0])), (r0, .inl (dA 0, 40, .inl (upd pp qa 1)))]) hD hS hA [1, 2] rfl
    refine va_callv (va_runV (As := [.int (nI qb), .int 1]) (rest := []) ⟨hx, hb, hml, hown, hts⟩ (t_putN l D dA E h r0 40 (upd pp qa 1) qb 1 H.size  (by omega) (by decide)) (cwV 2 hts (ga_V q419 q210 q207 q204 q208) rfl rfl rfl (by decide +kernel) ⟨(Nat.le_of_ble_eq_true rfl), (Nat.le_of_ble_eq_true rfl)⟩) ⟨pb_blind, va_recv hK hPc (ci := 5) (q0 := 0) rfl rfl, pb_pre hK hPc hDc hZ hS hFc _⟩ rfl rfl hl.1 rfl (lv_room (Nat.le_of_ble_eq_true rfl)) dX1_nameParts_36 ⟨(Nat.le_of_ble_eq_true rfl), (Nat.le_of_ble_eq_true rfl)⟩) hS (fun q _ h => hFc q h) hFc (fun u t H1 locs ht hvm hw hB hz1 hk1 hS => ?_)
    refine W.widen (k := 0) (n := 0) (Nat.le_of_ble_eq_true rfl) (Nat.le_of_ble_eq_true rfl) ?_
    obtain ⟨u8, rfl⟩ : ∃ z, z = u := ⟨_, rfl⟩
    have hw9 := hw
    clear hw
    obtain ⟨hP1, hD1⟩ := hB
    rw [ht] at hP1
    obtain ⟨hP, hD⟩ := va_join (wr := [(qo, .inr (4, [.int qk, .int (nI qa), .int (nI qb), .int qd, .int qw, .int qn]))]) (w1 := [(h, .inr (5, [.ref r0])), (r0, .inl (dA 0, 40, .inl (upd (upd pp qa 1) qb 1)))]) hP hD [1, 2] [0] rfl rfl (by decide) (by decide) hk1 hFc hP1 hD1
    generalize H1 = H at hP hS ⊢
    replace hP : va_P D vwCl [(qo, .inr (4, [.int qk, .int (nI qa), .int (nI qb), .int qd, .int qw, .int qn])), (h, .inr (5, [.ref r0])), (r0, .inl (dA 0, 40, .inl (upd (upd pp qa 1) qb 1)))] H := hP
    replace hD : va_D A [(qo, .inr (4, [.int qk, .int (nI qa), .int (nI qb), .int qd, .int qw, .int qn])), (h, .inr (5, [.ref r0])), (r0, .inl (dA 0, 40, .inl (upd (upd pp qa 1) qb 1)))] := hD
    refine W.widen (k := 0) (n := 0) (Nat.le_of_ble_eq_true rfl) (Nat.le_of_ble_eq_true rfl) ?_
    have hP9 := hP.sub (ws' := [(qo, .inr (4, [.int qk, .int (nI qa), .int (nI qb), .int qd, .int qw, .int qn])), (h, .inr (5, [.ref r0])), (r0, .inl (dA 0, 40, .inl (upd (upd pp qa 1) qb 1)))]) [0, 1, 2] rfl
    have hD9 := hD.sub (ws' := [(qo, .inr (4, [.int qk, .int (nI qa), .int (nI qb), .int qd, .int qw, .int qn])), (h, .inr (5, [.ref r0])), (r0, .inl (dA 0, 40, .inl (upd (upd pp qa 1) qb 1)))]) [0, 1, 2] (by decide) rfl
    exact W.vret hx hb hr (fun t ht hW => ⟨⟨(), rfl, trivial, ⟨by rw [ht]; exact hP9, hD9⟩⟩, hS.F ht⟩) hS.2.2 dX1_nameParts_39
  · refine lv_iload_n hx hb dX1_nameParts_26 rfl (lv_at hl 2 rfl) ?_
    refine lv_if_ne (tgt := 39) hx hb dX1_nameParts_27 (by decide) (fun c10 => absurd (by decide) c10) (fun _ => ?_)
    refine lv_aload_n hx hb dX1_nameParts_30 rfl (lv_at hl 1 rfl) ?_
    refine lv_aload_n hx hb dX1_nameParts_31 rfl (lv_at hl 0 rfl) ?_
    refine va_get (D := D) (ci := 4) (v := .int (nI qb)) (C := RX1) (T := TX1) (N := 6) hx hb hts inAX1 hown hK hP 0 rfl rfl 2 (by decide) (hts _ q303) (fun _ h9 => h9) rfl dX1_nameParts_32 ?_
    refine lv_iconst (v := 1) hx hb dX1_nameParts_35 (by decide) ?_
    replace hPc := hP.sub (ws' := [(h, .inr (5, [.ref r0])), (r0, .inl (dA 0, 40, .inl (upd pp qa 1)))]) [1, 2] rfl
    replace hDc := hD.sub (ws' := [(h, .inr (5, [.ref r0])), (r0, .inl (dA 0, 40, .inl (upd pp qa 1)))]) [1, 2] (by decide) rfl
    replace hFc := va_free (wc := [(h, .inr (5, [.ref r0])), (r0, .inl (dA 0, 40, .inl (upd pp qa 1)))]) hD hS hA [1, 2] rfl
    refine va_callv (va_runV (As := [.int (nI qb), .int 1]) (rest := []) ⟨hx, hb, hml, hown, hts⟩ (t_putN l D dA E h r0 40 (upd pp qa 1) qb 1 H.size  (by omega) (by decide)) (cwV 2 hts (ga_V q419 q210 q207 q204 q208) rfl rfl rfl (by decide +kernel) ⟨(Nat.le_of_ble_eq_true rfl), (Nat.le_of_ble_eq_true rfl)⟩) ⟨pb_blind, va_recv hK hPc (ci := 5) (q0 := 0) rfl rfl, pb_pre hK hPc hDc hZ hS hFc _⟩ rfl rfl hl.1 rfl (lv_room (Nat.le_of_ble_eq_true rfl)) dX1_nameParts_36 ⟨(Nat.le_of_ble_eq_true rfl), (Nat.le_of_ble_eq_true rfl)⟩) hS (fun q _ h => hFc q h) hFc (fun u t H1 locs ht hvm hw hB hz1 hk1 hS => ?_)
    refine W.widen (k := 0) (n := 0) (Nat.le_of_ble_eq_true rfl) (Nat.le_of_ble_eq_true rfl) ?_
    obtain ⟨u11, rfl⟩ : ∃ z, z = u := ⟨_, rfl⟩
    have hw12 := hw
    clear hw
    obtain ⟨hP1, hD1⟩ := hB
    rw [ht] at hP1
    obtain ⟨hP, hD⟩ := va_join (wr := [(qo, .inr (4, [.int qk, .int (nI qa), .int (nI qb), .int qd, .int qw, .int qn]))]) (w1 := [(h, .inr (5, [.ref r0])), (r0, .inl (dA 0, 40, .inl (upd (upd pp qa 1) qb 1)))]) hP hD [1, 2] [0] rfl rfl (by decide) (by decide) hk1 hFc hP1 hD1
    generalize H1 = H at hP hS ⊢
    replace hP : va_P D vwCl [(qo, .inr (4, [.int qk, .int (nI qa), .int (nI qb), .int qd, .int qw, .int qn])), (h, .inr (5, [.ref r0])), (r0, .inl (dA 0, 40, .inl (upd (upd pp qa 1) qb 1)))] H := hP
    replace hD : va_D A [(qo, .inr (4, [.int qk, .int (nI qa), .int (nI qb), .int qd, .int qw, .int qn])), (h, .inr (5, [.ref r0])), (r0, .inl (dA 0, 40, .inl (upd (upd pp qa 1) qb 1)))] := hD
    refine W.widen (k := 0) (n := 0) (Nat.le_of_ble_eq_true rfl) (Nat.le_of_ble_eq_true rfl) ?_
    have hP9 := hP.sub (ws' := [(qo, .inr (4, [.int qk, .int (nI qa), .int (nI qb), .int qd, .int qw, .int qn])), (h, .inr (5, [.ref r0])), (r0, .inl (dA 0, 40, .inl (upd (upd pp qa 1) qb 1)))]) [0, 1, 2] rfl
    have hD9 := hD.sub (ws' := [(qo, .inr (4, [.int qk, .int (nI qa), .int (nI qb), .int qd, .int qw, .int qn])), (h, .inr (5, [.ref r0])), (r0, .inl (dA 0, 40, .inl (upd (upd pp qa 1) qb 1)))]) [0, 1, 2] (by decide) rfl
    exact W.vret hx hb hr (fun t ht hW => ⟨⟨(), rfl, trivial, ⟨by rw [ht]; exact hP9, hD9⟩⟩, hS.F ht⟩) hS.2.2 dX1_nameParts_39
