/-! CONTRACTS, general -/
theorem q411 : (.code yX1_canJoin cX1_canJoin 1 (some .boolean) : Cond) ∈ WA := WA_of (tb_4 82 rfl) rfl
theorem q412 : (.methodLink RX1 35 yX1_canJoin : Cond) ∈ WA := WA_of (tb_4 123 rfl) rfl
theorem q413 : (.static yX1_canJoin : Cond) ∈ WA := WA_of (tb_4 81 rfl) rfl
theorem q414 : (.initialized RX1 : Cond) ∈ WA := WA_of (tb_1 27 rfl) rfl
theorem q415 : (.selects RX1 yX1_isOfWords yX1_isOfWords : Cond) ∈ WA := WA_of (tb_4 121 rfl) rfl
theorem q416 : (.code yX1_isOfWords cX1_isOfWords 1 (some .boolean) : Cond) ∈ WA := WA_of (tb_4 122 rfl) rfl
theorem q417 : (.methodLink RX1 39 yX1_isOfWords : Cond) ∈ WA := WA_of (tb_4 119 rfl) rfl
theorem q418 : (.instanceMethod yX1_isOfWords : Cond) ∈ WA := WA_of (tb_4 120 rfl) rfl
theorem q419 : (.methodLink RX1 43 yX2_put : Cond) ∈ WA := WA_of (tb_4 124 rfl) rfl
theorem q420 : (.methodLink RX1 62 yX2_get : Cond) ∈ WA := WA_of (tb_4 144 rfl) rfl
theorem q421 : (.selects RX6 yX6_isFirstAtPlace yX6_isFirstAtPlace : Cond) ∈ WA := WA_of (tb_4 147 rfl) rfl
theorem q422 : (.code yX6_isFirstAtPlace cX6_isFirstAtPlace 3 (some .boolean) : Cond) ∈ WA := WA_of (tb_4 148 rfl) rfl
theorem q423 : (.methodLink RX1 65 yX6_isFirstAtPlace : Cond) ∈ WA := WA_of (tb_4 145 rfl) rfl
theorem q424 : (.instanceMethod yX6_isFirstAtPlace : Cond) ∈ WA := WA_of (tb_4 146 rfl) rfl
theorem q425 : (.selects RX1 yX1_isCouple yX1_isCouple : Cond) ∈ WA := WA_of (sb_2 0 rfl) rfl
theorem q426 : (.code yX1_isCouple cX1_isCouple 5 (some .boolean) : Cond) ∈ WA := WA_of (tb_4 152 rfl) rfl
theorem q427 : (.methodLink RX1 68 yX1_isCouple : Cond) ∈ WA := WA_of (tb_4 149 rfl) rfl
theorem q428 : (.instanceMethod yX1_isCouple : Cond) ∈ WA := WA_of (tb_4 151 rfl) rfl
theorem q429 : (.selects RX6 yX6_times yX6_times : Cond) ∈ WA := WA_of (tb_4 142 rfl) rfl
theorem q430 : (.code yX6_times cX6_times 4 (some .int) : Cond) ∈ WA := WA_of (tb_4 143 rfl) rfl
theorem q431 : (.methodLink RX1 49 yX6_times : Cond) ∈ WA := WA_of (tb_4 140 rfl) rfl
theorem q432 : (.instanceMethod yX6_times : Cond) ∈ WA := WA_of (tb_4 141 rfl) rfl
theorem q433 : (.selects RX1 yX1_markCouples yX1_markCouples : Cond) ∈ WA := WA_of (sb_2 7 rfl) rfl
theorem q434 : (.code yX1_markCouples cX1_markCouples 5 none : Cond) ∈ WA := WA_of (tb_5 52 rfl) rfl
theorem q435 : (.methodLink RX1 75 yX1_markCouples : Cond) ∈ WA := WA_of (tb_5 49 rfl) rfl
theorem q436 : (.instanceMethod yX1_markCouples : Cond) ∈ WA := WA_of (tb_5 51 rfl) rfl
def icB (k b d : Int32) (w p : Nat → Int32) (i j : Nat) : Bool := decide (w j = b) && (if k = 112 then decide (p j - p i = 1) else (!decide (p j - p i = 0) && (!decide (p j - p i < -d) && !decide (d < p j - p i))))
def icF (k b d : Int32) (w p : Nat → Int32) (i j : Nat) : Bool := icB k b d w p i j && ffB w p j j
def tiN (k a b d : Int32) (w p : Nat → Int32) (n : Nat) : Nat → Nat
  | 0 => 0
  | i + 1 => tiN k a b d w p n i + if w i = a ∧ ffB w p i i = true then cn (icF k b d w p i) n else 0
theorem tiN_le {k a b d : Int32} {w p : Nat → Int32} {n : Nat} : ∀ i, tiN k a b d w p n i ≤ n * i
  | 0 => Nat.le_refl _
  | i + 1 => by
    have h1 := tiN_le (k := k) (a := a) (b := b) (d := d) (w := w) (p := p) (n := n) i
    have h2 := cn_le (icF k b d w p i) n
    unfold tiN
    rw [Nat.mul_succ]
    split <;> omega
theorem ti_n {k a b d : Int32} {w p : Nat → Int32} {n i : Nat} (h : ¬ w i = a) : nI (tiN k a b d w p n i) = nI (tiN k a b d w p n (i + 1)) := by simp [tiN, h]
theorem ti_n2 {k a b d : Int32} {w p : Nat → Int32} {n i : Nat} (h : ffB w p i i = false) : nI (tiN k a b d w p n i) = nI (tiN k a b d w p n (i + 1)) := by simp [tiN, h]
theorem ti_y {k a b d : Int32} {w p : Nat → Int32} {n i : Nat} (h : w i = a) (h2 : ffB w p i i = true) : nI (tiN k a b d w p n i + cn (icF k b d w p i) n) = nI (tiN k a b d w p n (i + 1)) := by simp [tiN, h, h2]
theorem ic_y {k b d : Int32} {w p : Nat → Int32} {x i j : Nat} (h : icF k b d w p i j = true) : nI (x + cn (icF k b d w p i) j + 1) = nI (x + cn (icF k b d w p i) (j + 1)) := by simp [cn, h, Nat.add_assoc]
theorem ic_n {k b d : Int32} {w p : Nat → Int32} {x i j : Nat} (h : icF k b d w p i j = false) : nI (x + cn (icF k b d w p i) j) = nI (x + cn (icF k b d w p i) (j + 1)) := by simp [cn, h]
def tiV (k a b d : Int32) (w p : Nat → Int32) (n : Nat) : Nat := if k = 119 then cn (fun i => decide (w i = a)) n else tiN k a b d w p n n
def jsF (k x y : Int32) : Int32 := if k = 120 then (if y = -1 then x else -1) else if ¬ x = -1 ∧ ¬ y = -1 then x + y else if k = 97 then -1 else if k = 105 then x else if x = -1 then y else x
theorem mul31 {t n : Nat} (ht : t ≤ 9216) (hn : n ≤ 30) : 100 * t * (n + 1) < 2 ^ 31 := Nat.lt_of_le_of_lt (Nat.mul_le_mul (Nat.mul_le_mul_left 100 ht) (Nat.succ_le_succ hn)) (by decide)
theorem div31 {m k : Nat} (hm : m ≤ 30) (hk : k ≤ 96) : (m + 1) * (k + 4) < 2 ^ 31 := Nat.lt_of_le_of_lt (Nat.mul_le_mul (Nat.succ_le_succ hm) (Nat.add_le_add_right hk 4)) (by decide)
set_option maxHeartbeats 4000000 in
set_option maxRecDepth 100000 in
theorem q_isOfWords (l : Launch) (D : va_G) (dA : Nat → ClassId) (E : Nat) (qo : Nat) (qk qa qb qd qw qn : Int32) (sz : Nat)   : Met l yX1_isOfWords (wq (.code yX1_isOfWords cX1_isOfWords 1 (some .boolean))) { frames := 1, cells := 0, slots := 0, locals := 20 } (va_Pc [.ref qo] (PcB D dA E [(qo, .inr (4, [.int qk, .int qa, .int qb, .int qd, .int qw, .int qn]))] sz)) (va_Qi (fun (r : Int32) (u : Unit) => r = bI (!okJ qk)) (fun u t => va_P D vwCl [(qo, .inr (4, [.int qk, .int qa, .int qb, .int qd, .int qw, .int qn]))] t.heap ∧ va_D (va_A [(qo, .inr (4, [.int qk, .int qa, .int qb, .int qd, .int qw, .int qn]))] sz) [(qo, .inr (4, [.int qk, .int qa, .int qb, .int qd, .int qw, .int qn]))]) (va_A [(qo, .inr (4, [.int qk, .int qa, .int qb, .int qd, .int qw, .int qn]))] sz)) 0 0 (va_A [(qo, .inr (4, [.int qk, .int qa, .int qb, .int qd, .int qw, .int qn]))] sz) := by
  refine mb_of (Qc := fun A => va_Qi (fun (r : Int32) (u : Unit) => r = bI (!okJ qk)) (fun u t => va_P D vwCl [(qo, .inr (4, [.int qk, .int qa, .int qb, .int qd, .int qw, .int qn]))] t.heap ∧ va_D A [(qo, .inr (4, [.int qk, .int qa, .int qb, .int qd, .int qw, .int qn]))]) A) RX1 rfl (by decide) (Nat.le_of_ble_eq_true rfl) ?_
  intro p e s m args below meth c hae hx hb hr hts hown hlocks hml hnm hP hK A hAe hD hZ hS hA ls hl
  have hl : lv_has ls 1 [(0, .ref qo)] := hl
  refine lv_aload_n hx hb dX1_isOfWords_0 rfl (lv_at hl 0 rfl) ?_
  refine va_get (D := D) (ci := 4) (v := .int qk) (C := RX1) (T := TX1) (N := 6) hx hb hts inAX1 hown hK hP 0 rfl rfl 0 (by decide) (hts _ q301) (fun _ h9 => h9) rfl dX1_isOfWords_1 ?_
  have hPc := hP.sub (ws' := []) [] rfl
  have hDc := hD.sub (ws' := []) [] (by decide) rfl
  have hFc := va_free (wc := []) hD hS hA [] rfl
  refine va_calli (va_runS (As := [.int qk]) (rest := []) ⟨hx, hb, hml, hown, hts⟩ (c_canJoin l D dA E qk s.heap.size ) (va_cwS 1 hts (ga_S q412 q413 q414 q411) rfl rfl rfl (by decide +kernel) ⟨(Nat.le_of_ble_eq_true rfl), (Nat.le_of_ble_eq_true rfl)⟩) ⟨pb_blind, pb_pre hK hPc hDc hZ hS hFc _⟩ rfl rfl hl.1 rfl (lv_room (Nat.le_of_ble_eq_true rfl)) dX1_isOfWords_4 ⟨(Nat.le_of_ble_eq_true rfl), (Nat.le_of_ble_eq_true rfl)⟩) hS (fun q _ h => hFc q h) hFc (fun r u t H1 locs ht hvm hw hB hz1 hk1 hS => ?_)
  refine W.widen (k := 0) (n := 0) (Nat.le_of_ble_eq_true rfl) (Nat.le_of_ble_eq_true rfl) ?_
  obtain ⟨r1, rfl⟩ : ∃ z, z = r := ⟨_, rfl⟩
  obtain ⟨u2, rfl⟩ : ∃ z, z = u := ⟨_, rfl⟩
  have hw3 := hw
  clear hw
  obtain ⟨hP1, hD1⟩ := hB
  rw [ht] at hP1
  obtain ⟨hP, hD⟩ := va_join (wr := [(qo, .inr (4, [.int qk, .int qa, .int qb, .int qd, .int qw, .int qn]))]) (w1 := []) hP hD [] [0] rfl rfl (by decide) (by decide) hk1 hFc hP1 hD1
  generalize H1 = H at hP hS ⊢
  have hP : va_P D vwCl [(qo, .inr (4, [.int qk, .int qa, .int qb, .int qd, .int qw, .int qn]))] H := hP
  have hD : va_D A [(qo, .inr (4, [.int qk, .int qa, .int qb, .int qd, .int qw, .int qn]))] := hD
  refine bt (b := (okJ qk)) ?_ ?_
  · intro hB4
    obtain rfl : r1 = 1 := hw3.trans (by rw [hB4]; rfl)
    refine lv_if_ne (tgt := 14) hx hb dX1_isOfWords_7 (by decide) (fun _ => ?_) (fun c5 => absurd c5 (by decide))
    refine lv_iconst (v := 0) hx hb dX1_isOfWords_14 (by decide) ?_
    refine W.widen (k := 0) (n := 0) (Nat.le_of_ble_eq_true rfl) (Nat.le_of_ble_eq_true rfl) ?_
    have hP9 := hP.sub (ws' := [(qo, .inr (4, [.int qk, .int qa, .int qb, .int qd, .int qw, .int qn]))]) [0] rfl
    have hD9 := hD.sub (ws' := [(qo, .inr (4, [.int qk, .int qa, .int qb, .int qd, .int qw, .int qn]))]) [0] (by decide) rfl
    exact W.zret (v := 0) hx hb hr rfl (fun t ht hW => ⟨⟨0, (), rfl, (show _ = bI (!okJ qk) from by rw [hB4]; rfl), ⟨by rw [ht]; exact hP9, hD9⟩⟩, hS.F ht⟩) hS.2.2 dX1_isOfWords_15
  · intro hB4
    obtain rfl : r1 = 0 := hw3.trans (by rw [hB4]; rfl)
    refine lv_if_ne (tgt := 14) hx hb dX1_isOfWords_7 (by decide) (fun c6 => absurd (by decide) c6) (fun _ => ?_)
    refine lv_iconst (v := 1) hx hb dX1_isOfWords_10 (by decide) ?_
    refine lv_goto (tgt := 15) hx hb dX1_isOfWords_11 (by decide) ?_
    refine W.widen (k := 0) (n := 0) (Nat.le_of_ble_eq_true rfl) (Nat.le_of_ble_eq_true rfl) ?_
    have hP9 := hP.sub (ws' := [(qo, .inr (4, [.int qk, .int qa, .int qb, .int qd, .int qw, .int qn]))]) [0] rfl
    have hD9 := hD.sub (ws' := [(qo, .inr (4, [.int qk, .int qa, .int qb, .int qd, .int qw, .int qn]))]) [0] (by decide) rfl
    exact W.zret (v := 1) hx hb hr rfl (fun t ht hW => ⟨⟨1, (), rfl, (show _ = bI (!okJ qk) from by rw [hB4]; rfl), ⟨by rw [ht]; exact hP9, hD9⟩⟩, hS.F ht⟩) hS.2.2 dX1_isOfWords_15

set_option maxHeartbeats 4000000 in
set_option maxRecDepth 100000 in
theorem q_nameParts0 (l : Launch) (D : va_G) (dA : Nat → ClassId) (E : Nat) (qo qa qb : Nat) (qk qd qw qn : Int32) (h r0 : Nat) (pp : Nat → Int32) (sz : Nat) (hqa : qa < 40) (hqb : qb < 40) (hoj : (okJ qk) = true) : Met l yX1_nameParts (wq (.code yX1_nameParts cX1_nameParts 3 none)) { frames := 2, cells := 0, slots := 0, locals := 40 } (va_Pc [.ref qo, .ref h, .int 0] (PcB D dA E [(qo, .inr (4, [.int qk, .int (nI qa), .int (nI qb), .int qd, .int qw, .int qn])), (h, .inr (5, [.ref r0])), (r0, .inl (dA 0, 40, .inl pp))] sz)) (va_Qv (fun (u : Unit) => True) (fun u t => va_P D vwCl [(qo, .inr (4, [.int qk, .int (nI qa), .int (nI qb), .int qd, .int qw, .int qn])), (h, .inr (5, [.ref r0])), (r0, .inl (dA 0, 40, .inl (upd (upd pp qa 1) qb 1)))] t.heap ∧ va_D (va_A [(qo, .inr (4, [.int qk, .int (nI qa), .int (nI qb), .int qd, .int qw, .int qn])), (h, .inr (5, [.ref r0])), (r0, .inl (dA 0, 40, .inl pp))] sz) [(qo, .inr (4, [.int qk, .int (nI qa), .int (nI qb), .int qd, .int qw, .int qn])), (h, .inr (5, [.ref r0])), (r0, .inl (dA 0, 40, .inl (upd (upd pp qa 1) qb 1)))]) (va_A [(qo, .inr (4, [.int qk, .int (nI qa), .int (nI qb), .int qd, .int qw, .int qn])), (h, .inr (5, [.ref r0])), (r0, .inl (dA 0, 40, .inl pp))] sz)) 0 0 (va_A [(qo, .inr (4, [.int qk, .int (nI qa), .int (nI qb), .int qd, .int qw, .int qn])), (h, .inr (5, [.ref r0])), (r0, .inl (dA 0, 40, .inl pp))] sz) := by
  refine mb_of (Qc := fun A => va_Qv (fun (u : Unit) => True) (fun u t => va_P D vwCl [(qo, .inr (4, [.int qk, .int (nI qa), .int (nI qb), .int qd, .int qw, .int qn])), (h, .inr (5, [.ref r0])), (r0, .inl (dA 0, 40, .inl (upd (upd pp qa 1) qb 1)))] t.heap ∧ va_D A [(qo, .inr (4, [.int qk, .int (nI qa), .int (nI qb), .int qd, .int qw, .int qn])), (h, .inr (5, [.ref r0])), (r0, .inl (dA 0, 40, .inl (upd (upd pp qa 1) qb 1)))]) A) RX1 rfl (by decide) (Nat.le_of_ble_eq_true rfl) ?_
  intro p e s m args below meth c hae hx hb hr hts hown hlocks hml hnm hP hK A hAe hD hZ hS hA ls hl
  have hl : lv_has ls 3 [(0, .ref qo), (1, .ref h), (2, .int 0)] := hl
  refine lv_aload_n hx hb dX1_nameParts_0 rfl (lv_at hl 0 rfl) ?_
  have hPc := hP.sub (ws' := [(qo, .inr (4, [.int qk, .int (nI qa), .int (nI qb), .int qd, .int qw, .int qn]))]) [0] rfl
  have hDc := hD.sub (ws' := [(qo, .inr (4, [.int qk, .int (nI qa), .int (nI qb), .int qd, .int qw, .int qn]))]) [0] (by decide) rfl
  have hFc := va_free (wc := [(qo, .inr (4, [.int qk, .int (nI qa), .int (nI qb), .int qd, .int qw, .int qn]))]) hD hS hA [0] rfl
  refine va_calli (va_runV (As := []) (rest := []) ⟨hx, hb, hml, hown, hts⟩ (q_isOfWords l D dA E qo qk (nI qa) (nI qb) qd qw qn s.heap.size ) (cwV 0 hts (ga_V q417 q418 q415 q414 q416) rfl rfl rfl (by decide +kernel) ⟨(Nat.le_of_ble_eq_true rfl), (Nat.le_of_ble_eq_true rfl)⟩) ⟨pb_blind, va_recv hK hPc (ci := 4) (q0 := 0) rfl rfl, pb_pre hK hPc hDc hZ hS hFc _⟩ rfl rfl hl.1 rfl (lv_room (Nat.le_of_ble_eq_true rfl)) dX1_nameParts_1 ⟨(Nat.le_of_ble_eq_true rfl), (Nat.le_of_ble_eq_true rfl)⟩) hS (fun q _ h => hFc q h) hFc (fun r u t H1 locs ht hvm hw hB hz1 hk1 hS => ?_)
  refine W.widen (k := 0) (n := 0) (Nat.le_of_ble_eq_true rfl) (Nat.le_of_ble_eq_true rfl) ?_
  obtain ⟨r1, rfl⟩ : ∃ z, z = r := ⟨_, rfl⟩
  obtain ⟨u2, rfl⟩ : ∃ z, z = u := ⟨_, rfl⟩
  have hw3 := hw
  clear hw
  obtain ⟨hP1, hD1⟩ := hB
  rw [ht] at hP1
  obtain ⟨hP, hD⟩ := va_join (wr := [(h, .inr (5, [.ref r0])), (r0, .inl (dA 0, 40, .inl pp))]) (w1 := [(qo, .inr (4, [.int qk, .int (nI qa), .int (nI qb), .int qd, .int qw, .int qn]))]) hP hD [0] [1, 2] rfl rfl (by decide) (by decide) hk1 hFc hP1 hD1
  generalize H1 = H at hP hS ⊢
  have hP : va_P D vwCl [(h, .inr (5, [.ref r0])), (r0, .inl (dA 0, 40, .inl pp)), (qo, .inr (4, [.int qk, .int (nI qa), .int (nI qb), .int qd, .int qw, .int qn]))] H := hP
  have hD : va_D A [(h, .inr (5, [.ref r0])), (r0, .inl (dA 0, 40, .inl pp)), (qo, .inr (4, [.int qk, .int (nI qa), .int (nI qb), .int qd, .int qw, .int qn]))] := hD
  obtain rfl : r1 = 0 := hw3.trans (by rw [hoj]; rfl)
  refine lv_if_eq (tgt := 8) hx hb dX1_nameParts_4 (by decide) (fun _ => ?_) (fun c4 => absurd (by decide) c4)
  refine lv_aload_n hx hb dX1_nameParts_8 rfl (lv_at hl 1 rfl) ?_
  refine lv_aload_n hx hb dX1_nameParts_9 rfl (lv_at hl 0 rfl) ?_
  refine va_get (D := D) (ci := 4) (v := .int (nI qa)) (C := RX1) (T := TX1) (N := 6) hx hb hts inAX1 hown hK hP 2 rfl rfl 1 (by decide) (hts _ q302) (fun _ h9 => h9) rfl dX1_nameParts_10 ?_
  refine lv_iconst (v := 1) hx hb dX1_nameParts_13 (by decide) ?_
  have hPc := hP.sub (ws' := [(h, .inr (5, [.ref r0])), (r0, .inl (dA 0, 40, .inl pp))]) [0, 1] rfl
  have hDc := hD.sub (ws' := [(h, .inr (5, [.ref r0])), (r0, .inl (dA 0, 40, .inl pp))]) [0, 1] (by decide) rfl
  have hFc := va_free (wc := [(h, .inr (5, [.ref r0])), (r0, .inl (dA 0, 40, .inl pp))]) hD hS hA [0, 1] rfl
  refine va_callv (va_runV (As := [.int (nI qa), .int 1]) (rest := []) ⟨hx, hb, hml, hown, hts⟩ (t_putN l D dA E h r0 40 pp qa 1 H.size  (by omega) (by decide)) (cwV 2 hts (ga_V q419 q210 q207 q204 q208) rfl rfl rfl (by decide +kernel) ⟨(Nat.le_of_ble_eq_true rfl), (Nat.le_of_ble_eq_true rfl)⟩) ⟨pb_blind, va_recv hK hPc (ci := 5) (q0 := 0) rfl rfl, pb_pre hK hPc hDc hZ hS hFc _⟩ rfl rfl hl.1 rfl (lv_room (Nat.le_of_ble_eq_true rfl)) dX1_nameParts_14 ⟨(Nat.le_of_ble_eq_true rfl), (Nat.le_of_ble_eq_true rfl)⟩) hS (fun q _ h => hFc q h) hFc (fun u t H1 locs ht hvm hw hB hz1 hk1 hS => ?_)
  refine W.widen (k := 0) (n := 0) (Nat.le_of_ble_eq_true rfl) (Nat.le_of_ble_eq_true rfl) ?_
  obtain ⟨u5, rfl⟩ : ∃ z, z = u := ⟨_, rfl⟩
  have hw6 := hw
  clear hw
  obtain ⟨hP1, hD1⟩ := hB
  rw [ht] at hP1
  obtain ⟨hP, hD⟩ := va_join (wr := [(qo, .inr (4, [.int qk, .int (nI qa), .int (nI qb), .int qd, .int qw, .int qn]))]) (w1 := [(h, .inr (5, [.ref r0])), (r0, .inl (dA 0, 40, .inl (upd pp qa 1)))]) hP hD [0, 1] [2] rfl rfl (by decide) (by decide) hk1 hFc hP1 hD1
  generalize H1 = H at hP hS ⊢
  have hP : va_P D vwCl [(qo, .inr (4, [.int qk, .int (nI qa), .int (nI qb), .int qd, .int qw, .int qn])), (h, .inr (5, [.ref r0])), (r0, .inl (dA 0, 40, .inl (upd pp qa 1)))] H := hP
  have hD : va_D A [(qo, .inr (4, [.int qk, .int (nI qa), .int (nI qb), .int qd, .int qw, .int qn])), (h, .inr (5, [.ref r0])), (r0, .inl (dA 0, 40, .inl (upd pp qa 1)))] := hD
  refine lv_aload_n hx hb dX1_nameParts_17 rfl (lv_at hl 0 rfl) ?_
  refine va_get (D := D) (ci := 4) (v := .int qk) (C := RX1) (T := TX1) (N := 6) hx hb hts inAX1 hown hK hP 0 rfl rfl 0 (by decide) (hts _ q301) (fun _ h9 => h9) rfl dX1_nameParts_18 ?_
  refine lv_bipush (v := 120) hx hb dX1_nameParts_21 (by decide) ?_
  refine lv_icmp_ne (tgt := 30) hx hb dX1_nameParts_23 (by decide) (fun c7 => ?_) (fun c7 => ?_)
  · refine lv_aload_n hx hb dX1_nameParts_30 rfl (lv_at hl 1 rfl) ?_
    refine lv_aload_n hx hb dX1_nameParts_31 rfl (lv_at hl 0 rfl) ?_
    refine va_get (D := D) (ci := 4) (v := .int (nI qb)) (C := RX1) (T := TX1) (N := 6) hx hb hts inAX1 hown hK hP 0 rfl rfl 2 (by decide) (hts _ q303) (fun _ h9 => h9) rfl dX1_nameParts_32 ?_
    refine lv_iconst (v := 1) hx hb dX1_nameParts_35 (by decide) ?_
    have hPc := hP.sub (ws' := [(h, .inr (5, [.ref r0])), (r0, .inl (dA 0, 40, .inl (upd pp qa 1)))]) [1, 2] rfl
    have hDc := hD.sub (ws' := [(h, .inr (5, [.ref r0])), (r0, .inl (dA 0, 40, .inl (upd pp qa 1)))]) [1, 2] (by decide) rfl
    have hFc := va_free (wc := [(h, .inr (5, [.ref r0])), (r0, .inl (dA 0, 40, .inl (upd pp qa 1)))]) hD hS hA [1, 2] rfl
    refine va_callv (va_runV (As := [.int (nI qb), .int 1]) (rest := []) ⟨hx, hb, hml, hown, hts⟩ (t_putN l D dA E h r0 40 (upd pp qa 1) qb 1 H.size  (by omega) (by decide)) (cwV 2 hts (ga_V q419 q210 q207 q204 q208) rfl rfl rfl (by decide +kernel) ⟨(Nat.le_of_ble_eq_true rfl), (Nat.le_of_ble_eq_true rfl)⟩) ⟨pb_blind, va_recv hK hPc (ci := 5) (q0 := 0) rfl rfl, pb_pre hK hPc hDc hZ hS hFc _⟩ rfl rfl hl.1 rfl (lv_room (Nat.le_of_ble_eq_true rfl)) dX1_nameParts_36 ⟨(Nat.le_of_ble_eq_true rfl), (Nat.le_of_ble_eq_true rfl)⟩) hS (fun q _ h => hFc q h) hFc (fun u t H1 locs ht hvm hw hB hz1 hk1 hS => ?_)
    refine W.widen (k := 0) (n := 0) (Nat.le_of_ble_eq_true rfl) (Nat.le_of_ble_eq_true rfl) ?_
    obtain ⟨u8, rfl⟩ : ∃ z, z = u := ⟨_, rfl⟩
    have hw9 := hw
    clear hw
    obtain ⟨hP1, hD1⟩ := hB
    rw [ht] at hP1
    obtain ⟨hP, hD⟩ := va_join (wr := [(qo, .inr (4, [.int qk, .int (nI qa), .int (nI qb), .int qd, .int qw, .int qn]))]) (w1 := [(h, .inr (5, [.ref r0])), (r0, .inl (dA 0, 40, .inl (upd (upd pp qa 1) qb 1)))]) hP hD [1, 2] [0] rfl rfl (by decide) (by decide) hk1 hFc hP1 hD1
    generalize H1 = H at hP hS ⊢
    have hP : va_P D vwCl [(qo, .inr (4, [.int qk, .int (nI qa), .int (nI qb), .int qd, .int qw, .int qn])), (h, .inr (5, [.ref r0])), (r0, .inl (dA 0, 40, .inl (upd (upd pp qa 1) qb 1)))] H := hP
    have hD : va_D A [(qo, .inr (4, [.int qk, .int (nI qa), .int (nI qb), .int qd, .int qw, .int qn])), (h, .inr (5, [.ref r0])), (r0, .inl (dA 0, 40, .inl (upd (upd pp qa 1) qb 1)))] := hD
    refine W.widen (k := 0) (n := 0) (Nat.le_of_ble_eq_true rfl) (Nat.le_of_ble_eq_true rfl) ?_
    have hP9 := hP.sub (ws' := [(qo, .inr (4, [.int qk, .int (nI qa), .int (nI qb), .int qd, .int qw, .int qn])), (h, .inr (5, [.ref r0])), (r0, .inl (dA 0, 40, .inl (upd (upd pp qa 1) qb 1)))]) [0, 1, 2] rfl
    have hD9 := hD.sub (ws' := [(qo, .inr (4, [.int qk, .int (nI qa), .int (nI qb), .int qd, .int qw, .int qn])), (h, .inr (5, [.ref r0])), (r0, .inl (dA 0, 40, .inl (upd (upd pp qa 1) qb 1)))]) [0, 1, 2] (by decide) rfl
    exact W.vret hx hb hr (fun t ht hW => ⟨⟨(), rfl, trivial, ⟨by rw [ht]; exact hP9, hD9⟩⟩, hS.F ht⟩) hS.2.2 dX1_nameParts_39
  · refine lv_iload_n hx hb dX1_nameParts_26 rfl (lv_at hl 2 rfl) ?_
    refine lv_if_ne (tgt := 39) hx hb dX1_nameParts_27 (by decide) (fun c10 => absurd (by decide) c10) (fun _ => ?_)
    refine lv_aload_n hx hb dX1_nameParts_30 rfl (lv_at hl 1 rfl) ?_
    refine lv_aload_n hx hb dX1_nameParts_31 rfl (lv_at hl 0 rfl) ?_
    refine va_get (D := D) (ci := 4) (v := .int (nI qb)) (C := RX1) (T := TX1) (N := 6) hx hb hts inAX1 hown hK hP 0 rfl rfl 2 (by decide) (hts _ q303) (fun _ h9 => h9) rfl dX1_nameParts_32 ?_
    refine lv_iconst (v := 1) hx hb dX1_nameParts_35 (by decide) ?_
    have hPc := hP.sub (ws' := [(h, .inr (5, [.ref r0])), (r0, .inl (dA 0, 40, .inl (upd pp qa 1)))]) [1, 2] rfl
    have hDc := hD.sub (ws' := [(h, .inr (5, [.ref r0])), (r0, .inl (dA 0, 40, .inl (upd pp qa 1)))]) [1, 2] (by decide) rfl
    have hFc := va_free (wc := [(h, .inr (5, [.ref r0])), (r0, .inl (dA 0, 40, .inl (upd pp qa 1)))]) hD hS hA [1, 2] rfl
    refine va_callv (va_runV (As := [.int (nI qb), .int 1]) (rest := []) ⟨hx, hb, hml, hown, hts⟩ (t_putN l D dA E h r0 40 (upd pp qa 1) qb 1 H.size  (by omega) (by decide)) (cwV 2 hts (ga_V q419 q210 q207 q204 q208) rfl rfl rfl (by decide +kernel) ⟨(Nat.le_of_ble_eq_true rfl), (Nat.le_of_ble_eq_true rfl)⟩) ⟨pb_blind, va_recv hK hPc (ci := 5) (q0 := 0) rfl rfl, pb_pre hK hPc hDc hZ hS hFc _⟩ rfl rfl hl.1 rfl (lv_room (Nat.le_of_ble_eq_true rfl)) dX1_nameParts_36 ⟨(Nat.le_of_ble_eq_true rfl), (Nat.le_of_ble_eq_true rfl)⟩) hS (fun q _ h => hFc q h) hFc (fun u t H1 locs ht hvm hw hB hz1 hk1 hS => ?_)
    refine W.widen (k := 0) (n := 0) (Nat.le_of_ble_eq_true rfl) (Nat.le_of_ble_eq_true rfl) ?_
    obtain ⟨u11, rfl⟩ : ∃ z, z = u := ⟨_, rfl⟩
    have hw12 := hw
    clear hw
    obtain ⟨hP1, hD1⟩ := hB
    rw [ht] at hP1
    obtain ⟨hP, hD⟩ := va_join (wr := [(qo, .inr (4, [.int qk, .int (nI qa), .int (nI qb), .int qd, .int qw, .int qn]))]) (w1 := [(h, .inr (5, [.ref r0])), (r0, .inl (dA 0, 40, .inl (upd (upd pp qa 1) qb 1)))]) hP hD [1, 2] [0] rfl rfl (by decide) (by decide) hk1 hFc hP1 hD1
    generalize H1 = H at hP hS ⊢
    have hP : va_P D vwCl [(qo, .inr (4, [.int qk, .int (nI qa), .int (nI qb), .int qd, .int qw, .int qn])), (h, .inr (5, [.ref r0])), (r0, .inl (dA 0, 40, .inl (upd (upd pp qa 1) qb 1)))] H := hP
    have hD : va_D A [(qo, .inr (4, [.int qk, .int (nI qa), .int (nI qb), .int qd, .int qw, .int qn])), (h, .inr (5, [.ref r0])), (r0, .inl (dA 0, 40, .inl (upd (upd pp qa 1) qb 1)))] := hD
    refine W.widen (k := 0) (n := 0) (Nat.le_of_ble_eq_true rfl) (Nat.le_of_ble_eq_true rfl) ?_
    have hP9 := hP.sub (ws' := [(qo, .inr (4, [.int qk, .int (nI qa), .int (nI qb), .int qd, .int qw, .int qn])), (h, .inr (5, [.ref r0])), (r0, .inl (dA 0, 40, .inl (upd (upd pp qa 1) qb 1)))]) [0, 1, 2] rfl
    have hD9 := hD.sub (ws' := [(qo, .inr (4, [.int qk, .int (nI qa), .int (nI qb), .int qd, .int qw, .int qn])), (h, .inr (5, [.ref r0])), (r0, .inl (dA 0, 40, .inl (upd (upd pp qa 1) qb 1)))]) [0, 1, 2] (by decide) rfl
    exact W.vret hx hb hr (fun t ht hW => ⟨⟨(), rfl, trivial, ⟨by rw [ht]; exact hP9, hD9⟩⟩, hS.F ht⟩) hS.2.2 dX1_nameParts_39

set_option maxHeartbeats 4000000 in
set_option maxRecDepth 100000 in
theorem q_nameParts1 (l : Launch) (D : va_G) (dA : Nat → ClassId) (E : Nat) (qo qa qb : Nat) (qk qd qw qn : Int32) (h r0 : Nat) (pp : Nat → Int32) (sz : Nat) (hqa : qa < 40) (hqb : qb < 40) (hoj : (okJ qk) = true) : Met l yX1_nameParts (wq (.code yX1_nameParts cX1_nameParts 3 none)) { frames := 2, cells := 0, slots := 0, locals := 40 } (va_Pc [.ref qo, .ref h, .int 1] (PcB D dA E [(qo, .inr (4, [.int qk, .int (nI qa), .int (nI qb), .int qd, .int qw, .int qn])), (h, .inr (5, [.ref r0])), (r0, .inl (dA 0, 40, .inl pp))] sz)) (va_Qv (fun (u : Nat → Int32) => True) (fun u t => va_P D vwCl [(qo, .inr (4, [.int qk, .int (nI qa), .int (nI qb), .int qd, .int qw, .int qn])), (h, .inr (5, [.ref r0])), (r0, .inl (dA 0, 40, .inl u))] t.heap ∧ va_D (va_A [(qo, .inr (4, [.int qk, .int (nI qa), .int (nI qb), .int qd, .int qw, .int qn])), (h, .inr (5, [.ref r0])), (r0, .inl (dA 0, 40, .inl pp))] sz) [(qo, .inr (4, [.int qk, .int (nI qa), .int (nI qb), .int qd, .int qw, .int qn])), (h, .inr (5, [.ref r0])), (r0, .inl (dA 0, 40, .inl u))]) (va_A [(qo, .inr (4, [.int qk, .int (nI qa), .int (nI qb), .int qd, .int qw, .int qn])), (h, .inr (5, [.ref r0])), (r0, .inl (dA 0, 40, .inl pp))] sz)) 0 0 (va_A [(qo, .inr (4, [.int qk, .int (nI qa), .int (nI qb), .int qd, .int qw, .int qn])), (h, .inr (5, [.ref r0])), (r0, .inl (dA 0, 40, .inl pp))] sz) := by
  refine mb_of (Qc := fun A => va_Qv (fun (u : Nat → Int32) => True) (fun u t => va_P D vwCl [(qo, .inr (4, [.int qk, .int (nI qa), .int (nI qb), .int qd, .int qw, .int qn])), (h, .inr (5, [.ref r0])), (r0, .inl (dA 0, 40, .inl u))] t.heap ∧ va_D A [(qo, .inr (4, [.int qk, .int (nI qa), .int (nI qb), .int qd, .int qw, .int qn])), (h, .inr (5, [.ref r0])), (r0, .inl (dA 0, 40, .inl u))]) A) RX1 rfl (by decide) (Nat.le_of_ble_eq_true rfl) ?_
  intro p e s m args below meth c hae hx hb hr hts hown hlocks hml hnm hP hK A hAe hD hZ hS hA ls hl
  have hl : lv_has ls 3 [(0, .ref qo), (1, .ref h), (2, .int 1)] := hl
  refine lv_aload_n hx hb dX1_nameParts_0 rfl (lv_at hl 0 rfl) ?_
  have hPc := hP.sub (ws' := [(qo, .inr (4, [.int qk, .int (nI qa), .int (nI qb), .int qd, .int qw, .int qn]))]) [0] rfl
  have hDc := hD.sub (ws' := [(qo, .inr (4, [.int qk, .int (nI qa), .int (nI qb), .int qd, .int qw, .int qn]))]) [0] (by decide) rfl
  have hFc := va_free (wc := [(qo, .inr (4, [.int qk, .int (nI qa), .int (nI qb), .int qd, .int qw, .int qn]))]) hD hS hA [0] rfl
  refine va_calli (va_runV (As := []) (rest := []) ⟨hx, hb, hml, hown, hts⟩ (q_isOfWords l D dA E qo qk (nI qa) (nI qb) qd qw qn s.heap.size ) (cwV 0 hts (ga_V q417 q418 q415 q414 q416) rfl rfl rfl (by decide +kernel) ⟨(Nat.le_of_ble_eq_true rfl), (Nat.le_of_ble_eq_true rfl)⟩) ⟨pb_blind, va_recv hK hPc (ci := 4) (q0 := 0) rfl rfl, pb_pre hK hPc hDc hZ hS hFc _⟩ rfl rfl hl.1 rfl (lv_room (Nat.le_of_ble_eq_true rfl)) dX1_nameParts_1 ⟨(Nat.le_of_ble_eq_true rfl), (Nat.le_of_ble_eq_true rfl)⟩) hS (fun q _ h => hFc q h) hFc (fun r u t H1 locs ht hvm hw hB hz1 hk1 hS => ?_)
  refine W.widen (k := 0) (n := 0) (Nat.le_of_ble_eq_true rfl) (Nat.le_of_ble_eq_true rfl) ?_
  obtain ⟨r1, rfl⟩ : ∃ z, z = r := ⟨_, rfl⟩
  obtain ⟨u2, rfl⟩ : ∃ z, z = u := ⟨_, rfl⟩
  have hw3 := hw
  clear hw
  obtain ⟨hP1, hD1⟩ := hB
  rw [ht] at hP1
  obtain ⟨hP, hD⟩ := va_join (wr := [(h, .inr (5, [.ref r0])), (r0, .inl (dA 0, 40, .inl pp))]) (w1 := [(qo, .inr (4, [.int qk, .int (nI qa), .int (nI qb), .int qd, .int qw, .int qn]))]) hP hD [0] [1, 2] rfl rfl (by decide) (by decide) hk1 hFc hP1 hD1
  generalize H1 = H at hP hS ⊢
  have hP : va_P D vwCl [(h, .inr (5, [.ref r0])), (r0, .inl (dA 0, 40, .inl pp)), (qo, .inr (4, [.int qk, .int (nI qa), .int (nI qb), .int qd, .int qw, .int qn]))] H := hP
  have hD : va_D A [(h, .inr (5, [.ref r0])), (r0, .inl (dA 0, 40, .inl pp)), (qo, .inr (4, [.int qk, .int (nI qa), .int (nI qb), .int qd, .int qw, .int qn]))] := hD
  obtain rfl : r1 = 0 := hw3.trans (by rw [hoj]; rfl)
  refine lv_if_eq (tgt := 8) hx hb dX1_nameParts_4 (by decide) (fun _ => ?_) (fun c4 => absurd (by decide) c4)
  refine lv_aload_n hx hb dX1_nameParts_8 rfl (lv_at hl 1 rfl) ?_
  refine lv_aload_n hx hb dX1_nameParts_9 rfl (lv_at hl 0 rfl) ?_
  refine va_get (D := D) (ci := 4) (v := .int (nI qa)) (C := RX1) (T := TX1) (N := 6) hx hb hts inAX1 hown hK hP 2 rfl rfl 1 (by decide) (hts _ q302) (fun _ h9 => h9) rfl dX1_nameParts_10 ?_
  refine lv_iconst (v := 1) hx hb dX1_nameParts_13 (by decide) ?_
  have hPc := hP.sub (ws' := [(h, .inr (5, [.ref r0])), (r0, .inl (dA 0, 40, .inl pp))]) [0, 1] rfl
  have hDc := hD.sub (ws' := [(h, .inr (5, [.ref r0])), (r0, .inl (dA 0, 40, .inl pp))]) [0, 1] (by decide) rfl
  have hFc := va_free (wc := [(h, .inr (5, [.ref r0])), (r0, .inl (dA 0, 40, .inl pp))]) hD hS hA [0, 1] rfl
  refine va_callv (va_runV (As := [.int (nI qa), .int 1]) (rest := []) ⟨hx, hb, hml, hown, hts⟩ (t_putN l D dA E h r0 40 pp qa 1 H.size  (by omega) (by decide)) (cwV 2 hts (ga_V q419 q210 q207 q204 q208) rfl rfl rfl (by decide +kernel) ⟨(Nat.le_of_ble_eq_true rfl), (Nat.le_of_ble_eq_true rfl)⟩) ⟨pb_blind, va_recv hK hPc (ci := 5) (q0 := 0) rfl rfl, pb_pre hK hPc hDc hZ hS hFc _⟩ rfl rfl hl.1 rfl (lv_room (Nat.le_of_ble_eq_true rfl)) dX1_nameParts_14 ⟨(Nat.le_of_ble_eq_true rfl), (Nat.le_of_ble_eq_true rfl)⟩) hS (fun q _ h => hFc q h) hFc (fun u t H1 locs ht hvm hw hB hz1 hk1 hS => ?_)
  refine W.widen (k := 0) (n := 0) (Nat.le_of_ble_eq_true rfl) (Nat.le_of_ble_eq_true rfl) ?_
  obtain ⟨u5, rfl⟩ : ∃ z, z = u := ⟨_, rfl⟩
  have hw6 := hw
  clear hw
  obtain ⟨hP1, hD1⟩ := hB
  rw [ht] at hP1
  obtain ⟨hP, hD⟩ := va_join (wr := [(qo, .inr (4, [.int qk, .int (nI qa), .int (nI qb), .int qd, .int qw, .int qn]))]) (w1 := [(h, .inr (5, [.ref r0])), (r0, .inl (dA 0, 40, .inl (upd pp qa 1)))]) hP hD [0, 1] [2] rfl rfl (by decide) (by decide) hk1 hFc hP1 hD1
  generalize H1 = H at hP hS ⊢
  have hP : va_P D vwCl [(qo, .inr (4, [.int qk, .int (nI qa), .int (nI qb), .int qd, .int qw, .int qn])), (h, .inr (5, [.ref r0])), (r0, .inl (dA 0, 40, .inl (upd pp qa 1)))] H := hP
  have hD : va_D A [(qo, .inr (4, [.int qk, .int (nI qa), .int (nI qb), .int qd, .int qw, .int qn])), (h, .inr (5, [.ref r0])), (r0, .inl (dA 0, 40, .inl (upd pp qa 1)))] := hD
  refine lv_aload_n hx hb dX1_nameParts_17 rfl (lv_at hl 0 rfl) ?_
  refine va_get (D := D) (ci := 4) (v := .int qk) (C := RX1) (T := TX1) (N := 6) hx hb hts inAX1 hown hK hP 0 rfl rfl 0 (by decide) (hts _ q301) (fun _ h9 => h9) rfl dX1_nameParts_18 ?_
  refine lv_bipush (v := 120) hx hb dX1_nameParts_21 (by decide) ?_
  refine lv_icmp_ne (tgt := 30) hx hb dX1_nameParts_23 (by decide) (fun c7 => ?_) (fun c7 => ?_)
  · refine lv_aload_n hx hb dX1_nameParts_30 rfl (lv_at hl 1 rfl) ?_
    refine lv_aload_n hx hb dX1_nameParts_31 rfl (lv_at hl 0 rfl) ?_
    refine va_get (D := D) (ci := 4) (v := .int (nI qb)) (C := RX1) (T := TX1) (N := 6) hx hb hts inAX1 hown hK hP 0 rfl rfl 2 (by decide) (hts _ q303) (fun _ h9 => h9) rfl dX1_nameParts_32 ?_
    refine lv_iconst (v := 1) hx hb dX1_nameParts_35 (by decide) ?_
    have hPc := hP.sub (ws' := [(h, .inr (5, [.ref r0])), (r0, .inl (dA 0, 40, .inl (upd pp qa 1)))]) [1, 2] rfl
    have hDc := hD.sub (ws' := [(h, .inr (5, [.ref r0])), (r0, .inl (dA 0, 40, .inl (upd pp qa 1)))]) [1, 2] (by decide) rfl
    have hFc := va_free (wc := [(h, .inr (5, [.ref r0])), (r0, .inl (dA 0, 40, .inl (upd pp qa 1)))]) hD hS hA [1, 2] rfl
    refine va_callv (va_runV (As := [.int (nI qb), .int 1]) (rest := []) ⟨hx, hb, hml, hown, hts⟩ (t_putN l D dA E h r0 40 (upd pp qa 1) qb 1 H.size  (by omega) (by decide)) (cwV 2 hts (ga_V q419 q210 q207 q204 q208) rfl rfl rfl (by decide +kernel) ⟨(Nat.le_of_ble_eq_true rfl), (Nat.le_of_ble_eq_true rfl)⟩) ⟨pb_blind, va_recv hK hPc (ci := 5) (q0 := 0) rfl rfl, pb_pre hK hPc hDc hZ hS hFc _⟩ rfl rfl hl.1 rfl (lv_room (Nat.le_of_ble_eq_true rfl)) dX1_nameParts_36 ⟨(Nat.le_of_ble_eq_true rfl), (Nat.le_of_ble_eq_true rfl)⟩) hS (fun q _ h => hFc q h) hFc (fun u t H1 locs ht hvm hw hB hz1 hk1 hS => ?_)
    refine W.widen (k := 0) (n := 0) (Nat.le_of_ble_eq_true rfl) (Nat.le_of_ble_eq_true rfl) ?_
    obtain ⟨u8, rfl⟩ : ∃ z, z = u := ⟨_, rfl⟩
    have hw9 := hw
    clear hw
    obtain ⟨hP1, hD1⟩ := hB
    rw [ht] at hP1
    obtain ⟨hP, hD⟩ := va_join (wr := [(qo, .inr (4, [.int qk, .int (nI qa), .int (nI qb), .int qd, .int qw, .int qn]))]) (w1 := [(h, .inr (5, [.ref r0])), (r0, .inl (dA 0, 40, .inl (upd (upd pp qa 1) qb 1)))]) hP hD [1, 2] [0] rfl rfl (by decide) (by decide) hk1 hFc hP1 hD1
    generalize H1 = H at hP hS ⊢
    have hP : va_P D vwCl [(qo, .inr (4, [.int qk, .int (nI qa), .int (nI qb), .int qd, .int qw, .int qn])), (h, .inr (5, [.ref r0])), (r0, .inl (dA 0, 40, .inl (upd (upd pp qa 1) qb 1)))] H := hP
    have hD : va_D A [(qo, .inr (4, [.int qk, .int (nI qa), .int (nI qb), .int qd, .int qw, .int qn])), (h, .inr (5, [.ref r0])), (r0, .inl (dA 0, 40, .inl (upd (upd pp qa 1) qb 1)))] := hD
    refine W.widen (k := 0) (n := 0) (Nat.le_of_ble_eq_true rfl) (Nat.le_of_ble_eq_true rfl) ?_
    have hP9 := hP.sub (ws' := [(qo, .inr (4, [.int qk, .int (nI qa), .int (nI qb), .int qd, .int qw, .int qn])), (h, .inr (5, [.ref r0])), (r0, .inl (dA 0, 40, .inl (upd (upd pp qa 1) qb 1)))]) [0, 1, 2] rfl
    have hD9 := hD.sub (ws' := [(qo, .inr (4, [.int qk, .int (nI qa), .int (nI qb), .int qd, .int qw, .int qn])), (h, .inr (5, [.ref r0])), (r0, .inl (dA 0, 40, .inl (upd (upd pp qa 1) qb 1)))]) [0, 1, 2] (by decide) rfl
    exact W.vret hx hb hr (fun t ht hW => ⟨⟨upd (upd pp qa 1) qb 1, rfl, trivial, ⟨by rw [ht]; exact hP9, hD9⟩⟩, hS.F ht⟩) hS.2.2 dX1_nameParts_39
  · refine lv_iload_n hx hb dX1_nameParts_26 rfl (lv_at hl 2 rfl) ?_
    refine lv_if_ne (tgt := 39) hx hb dX1_nameParts_27 (by decide) (fun _ => ?_) (fun c10 => absurd c10 (by decide))
    refine W.widen (k := 0) (n := 0) (Nat.le_of_ble_eq_true rfl) (Nat.le_of_ble_eq_true rfl) ?_
    have hP9 := hP.sub (ws' := [(qo, .inr (4, [.int qk, .int (nI qa), .int (nI qb), .int qd, .int qw, .int qn])), (h, .inr (5, [.ref r0])), (r0, .inl (dA 0, 40, .inl (upd pp qa 1)))]) [0, 1, 2] rfl
    have hD9 := hD.sub (ws' := [(qo, .inr (4, [.int qk, .int (nI qa), .int (nI qb), .int qd, .int qw, .int qn])), (h, .inr (5, [.ref r0])), (r0, .inl (dA 0, 40, .inl (upd pp qa 1)))]) [0, 1, 2] (by decide) rfl
    exact W.vret hx hb hr (fun t ht hW => ⟨⟨upd pp qa 1, rfl, trivial, ⟨by rw [ht]; exact hP9, hD9⟩⟩, hS.F ht⟩) hS.2.2 dX1_nameParts_39

set_option maxHeartbeats 4000000 in
set_option maxRecDepth 100000 in
theorem q_namePartsW (l : Launch) (D : va_G) (dA : Nat → ClassId) (E : Nat) (qo : Nat) (qk qa qb qd qw qn : Int32) (h r0 : Nat) (pp : Nat → Int32) (fm : Int32) (sz : Nat)  (hoj : (okJ qk) = false) : Met l yX1_nameParts (wq (.code yX1_nameParts cX1_nameParts 3 none)) { frames := 2, cells := 0, slots := 0, locals := 40 } (va_Pc [.ref qo, .ref h, .int fm] (PcB D dA E [(qo, .inr (4, [.int qk, .int qa, .int qb, .int qd, .int qw, .int qn])), (h, .inr (5, [.ref r0])), (r0, .inl (dA 0, 40, .inl pp))] sz)) (va_Qv (fun (u : Unit) => True) (fun u t => va_P D vwCl [(qo, .inr (4, [.int qk, .int qa, .int qb, .int qd, .int qw, .int qn])), (h, .inr (5, [.ref r0])), (r0, .inl (dA 0, 40, .inl pp))] t.heap ∧ va_D (va_A [(qo, .inr (4, [.int qk, .int qa, .int qb, .int qd, .int qw, .int qn])), (h, .inr (5, [.ref r0])), (r0, .inl (dA 0, 40, .inl pp))] sz) [(qo, .inr (4, [.int qk, .int qa, .int qb, .int qd, .int qw, .int qn])), (h, .inr (5, [.ref r0])), (r0, .inl (dA 0, 40, .inl pp))]) (va_A [(qo, .inr (4, [.int qk, .int qa, .int qb, .int qd, .int qw, .int qn])), (h, .inr (5, [.ref r0])), (r0, .inl (dA 0, 40, .inl pp))] sz)) 0 0 (va_A [(qo, .inr (4, [.int qk, .int qa, .int qb, .int qd, .int qw, .int qn])), (h, .inr (5, [.ref r0])), (r0, .inl (dA 0, 40, .inl pp))] sz) := by
  refine mb_of (Qc := fun A => va_Qv (fun (u : Unit) => True) (fun u t => va_P D vwCl [(qo, .inr (4, [.int qk, .int qa, .int qb, .int qd, .int qw, .int qn])), (h, .inr (5, [.ref r0])), (r0, .inl (dA 0, 40, .inl pp))] t.heap ∧ va_D A [(qo, .inr (4, [.int qk, .int qa, .int qb, .int qd, .int qw, .int qn])), (h, .inr (5, [.ref r0])), (r0, .inl (dA 0, 40, .inl pp))]) A) RX1 rfl (by decide) (Nat.le_of_ble_eq_true rfl) ?_
  intro p e s m args below meth c hae hx hb hr hts hown hlocks hml hnm hP hK A hAe hD hZ hS hA ls hl
  have hl : lv_has ls 3 [(0, .ref qo), (1, .ref h), (2, .int fm)] := hl
  refine lv_aload_n hx hb dX1_nameParts_0 rfl (lv_at hl 0 rfl) ?_
  have hPc := hP.sub (ws' := [(qo, .inr (4, [.int qk, .int qa, .int qb, .int qd, .int qw, .int qn]))]) [0] rfl
  have hDc := hD.sub (ws' := [(qo, .inr (4, [.int qk, .int qa, .int qb, .int qd, .int qw, .int qn]))]) [0] (by decide) rfl
  have hFc := va_free (wc := [(qo, .inr (4, [.int qk, .int qa, .int qb, .int qd, .int qw, .int qn]))]) hD hS hA [0] rfl
  refine va_calli (va_runV (As := []) (rest := []) ⟨hx, hb, hml, hown, hts⟩ (q_isOfWords l D dA E qo qk qa qb qd qw qn s.heap.size ) (cwV 0 hts (ga_V q417 q418 q415 q414 q416) rfl rfl rfl (by decide +kernel) ⟨(Nat.le_of_ble_eq_true rfl), (Nat.le_of_ble_eq_true rfl)⟩) ⟨pb_blind, va_recv hK hPc (ci := 4) (q0 := 0) rfl rfl, pb_pre hK hPc hDc hZ hS hFc _⟩ rfl rfl hl.1 rfl (lv_room (Nat.le_of_ble_eq_true rfl)) dX1_nameParts_1 ⟨(Nat.le_of_ble_eq_true rfl), (Nat.le_of_ble_eq_true rfl)⟩) hS (fun q _ h => hFc q h) hFc (fun r u t H1 locs ht hvm hw hB hz1 hk1 hS => ?_)
  refine W.widen (k := 0) (n := 0) (Nat.le_of_ble_eq_true rfl) (Nat.le_of_ble_eq_true rfl) ?_
  obtain ⟨r1, rfl⟩ : ∃ z, z = r := ⟨_, rfl⟩
  obtain ⟨u2, rfl⟩ : ∃ z, z = u := ⟨_, rfl⟩
  have hw3 := hw
  clear hw
  obtain ⟨hP1, hD1⟩ := hB
  rw [ht] at hP1
  obtain ⟨hP, hD⟩ := va_join (wr := [(h, .inr (5, [.ref r0])), (r0, .inl (dA 0, 40, .inl pp))]) (w1 := [(qo, .inr (4, [.int qk, .int qa, .int qb, .int qd, .int qw, .int qn]))]) hP hD [0] [1, 2] rfl rfl (by decide) (by decide) hk1 hFc hP1 hD1
  generalize H1 = H at hP hS ⊢
  have hP : va_P D vwCl [(h, .inr (5, [.ref r0])), (r0, .inl (dA 0, 40, .inl pp)), (qo, .inr (4, [.int qk, .int qa, .int qb, .int qd, .int qw, .int qn]))] H := hP
  have hD : va_D A [(h, .inr (5, [.ref r0])), (r0, .inl (dA 0, 40, .inl pp)), (qo, .inr (4, [.int qk, .int qa, .int qb, .int qd, .int qw, .int qn]))] := hD
  obtain rfl : r1 = 1 := hw3.trans (by rw [hoj]; rfl)
  refine lv_if_eq (tgt := 8) hx hb dX1_nameParts_4 (by decide) (fun c4 => absurd c4 (by decide)) (fun _ => ?_)
  refine W.widen (k := 0) (n := 0) (Nat.le_of_ble_eq_true rfl) (Nat.le_of_ble_eq_true rfl) ?_
  have hP9 := hP.sub (ws' := [(qo, .inr (4, [.int qk, .int qa, .int qb, .int qd, .int qw, .int qn])), (h, .inr (5, [.ref r0])), (r0, .inl (dA 0, 40, .inl pp))]) [2, 0, 1] rfl
  have hD9 := hD.sub (ws' := [(qo, .inr (4, [.int qk, .int qa, .int qb, .int qd, .int qw, .int qn])), (h, .inr (5, [.ref r0])), (r0, .inl (dA 0, 40, .inl pp))]) [2, 0, 1] (by decide) rfl
  exact W.vret hx hb hr (fun t ht hW => ⟨⟨(), rfl, trivial, ⟨by rw [ht]; exact hP9, hD9⟩⟩, hS.F ht⟩) hS.2.2 dX1_nameParts_7

set_option maxHeartbeats 4000000 in
set_option maxRecDepth 100000 in
theorem q_isCouple (l : Launch) (D : va_G) (dA : Nat → ClassId) (E : Nat) (qo : Nat) (qk qa qb qd qw qn : Int32) (tt : Nat → Nat) (tw tp tx : Nat → Int32) (nm : Nat) (ki kj : Nat) (sz : Nat) (hnm : nm ≤ 84) (hki : ki < 84) (hkj : kj < 84)  : Met l yX1_isCouple (wq (.code yX1_isCouple cX1_isCouple 5 (some .boolean))) { frames := 1, cells := 0, slots := 0, locals := 21 } (va_Pc [.ref qo, .ref (tt 0), .int (nI ki), .int (nI kj)] (PcB D dA E [(qo, .inr (4, [.int qk, .int qa, .int qb, .int qd, .int qw, .int qn])), (tt 0, .inr (9, [.ref (tt 1), .ref (tt 3), .ref (tt 5), .int (nI nm)])), (tt 1, .inr (5, [.ref (tt 2)])), (tt 2, .inl (dA 0, 84, .inl tw)), (tt 3, .inr (5, [.ref (tt 4)])), (tt 4, .inl (dA 0, 84, .inl tp)), (tt 5, .inr (5, [.ref (tt 6)])), (tt 6, .inl (dA 0, 84, .inl tx))] sz)) (va_Qi (fun (r : Int32) (u : Unit) => r = bI (icB qk qb qd tw tp ki kj)) (fun u t => va_P D vwCl [(qo, .inr (4, [.int qk, .int qa, .int qb, .int qd, .int qw, .int qn])), (tt 0, .inr (9, [.ref (tt 1), .ref (tt 3), .ref (tt 5), .int (nI nm)])), (tt 1, .inr (5, [.ref (tt 2)])), (tt 2, .inl (dA 0, 84, .inl tw)), (tt 3, .inr (5, [.ref (tt 4)])), (tt 4, .inl (dA 0, 84, .inl tp)), (tt 5, .inr (5, [.ref (tt 6)])), (tt 6, .inl (dA 0, 84, .inl tx))] t.heap ∧ va_D (va_A [(qo, .inr (4, [.int qk, .int qa, .int qb, .int qd, .int qw, .int qn])), (tt 0, .inr (9, [.ref (tt 1), .ref (tt 3), .ref (tt 5), .int (nI nm)])), (tt 1, .inr (5, [.ref (tt 2)])), (tt 2, .inl (dA 0, 84, .inl tw)), (tt 3, .inr (5, [.ref (tt 4)])), (tt 4, .inl (dA 0, 84, .inl tp)), (tt 5, .inr (5, [.ref (tt 6)])), (tt 6, .inl (dA 0, 84, .inl tx))] sz) [(qo, .inr (4, [.int qk, .int qa, .int qb, .int qd, .int qw, .int qn])), (tt 0, .inr (9, [.ref (tt 1), .ref (tt 3), .ref (tt 5), .int (nI nm)])), (tt 1, .inr (5, [.ref (tt 2)])), (tt 2, .inl (dA 0, 84, .inl tw)), (tt 3, .inr (5, [.ref (tt 4)])), (tt 4, .inl (dA 0, 84, .inl tp)), (tt 5, .inr (5, [.ref (tt 6)])), (tt 6, .inl (dA 0, 84, .inl tx))]) (va_A [(qo, .inr (4, [.int qk, .int qa, .int qb, .int qd, .int qw, .int qn])), (tt 0, .inr (9, [.ref (tt 1), .ref (tt 3), .ref (tt 5), .int (nI nm)])), (tt 1, .inr (5, [.ref (tt 2)])), (tt 2, .inl (dA 0, 84, .inl tw)), (tt 3, .inr (5, [.ref (tt 4)])), (tt 4, .inl (dA 0, 84, .inl tp)), (tt 5, .inr (5, [.ref (tt 6)])), (tt 6, .inl (dA 0, 84, .inl tx))] sz)) 0 0 (va_A [(qo, .inr (4, [.int qk, .int qa, .int qb, .int qd, .int qw, .int qn])), (tt 0, .inr (9, [.ref (tt 1), .ref (tt 3), .ref (tt 5), .int (nI nm)])), (tt 1, .inr (5, [.ref (tt 2)])), (tt 2, .inl (dA 0, 84, .inl tw)), (tt 3, .inr (5, [.ref (tt 4)])), (tt 4, .inl (dA 0, 84, .inl tp)), (tt 5, .inr (5, [.ref (tt 6)])), (tt 6, .inl (dA 0, 84, .inl tx))] sz) := by
  refine mb_of (Qc := fun A => va_Qi (fun (r : Int32) (u : Unit) => r = bI (icB qk qb qd tw tp ki kj)) (fun u t => va_P D vwCl [(qo, .inr (4, [.int qk, .int qa, .int qb, .int qd, .int qw, .int qn])), (tt 0, .inr (9, [.ref (tt 1), .ref (tt 3), .ref (tt 5), .int (nI nm)])), (tt 1, .inr (5, [.ref (tt 2)])), (tt 2, .inl (dA 0, 84, .inl tw)), (tt 3, .inr (5, [.ref (tt 4)])), (tt 4, .inl (dA 0, 84, .inl tp)), (tt 5, .inr (5, [.ref (tt 6)])), (tt 6, .inl (dA 0, 84, .inl tx))] t.heap ∧ va_D A [(qo, .inr (4, [.int qk, .int qa, .int qb, .int qd, .int qw, .int qn])), (tt 0, .inr (9, [.ref (tt 1), .ref (tt 3), .ref (tt 5), .int (nI nm)])), (tt 1, .inr (5, [.ref (tt 2)])), (tt 2, .inl (dA 0, 84, .inl tw)), (tt 3, .inr (5, [.ref (tt 4)])), (tt 4, .inl (dA 0, 84, .inl tp)), (tt 5, .inr (5, [.ref (tt 6)])), (tt 6, .inl (dA 0, 84, .inl tx))]) A) RX1 rfl (by decide) (Nat.le_of_ble_eq_true rfl) ?_
  intro p e s m args below meth c hae hx hb hr hts hown hlocks hml hnm hP hK A hAe hD hZ hS hA ls hl
  have hl : lv_has ls 5 [(0, .ref qo), (1, .ref (tt 0)), (2, .int (nI ki)), (3, .int (nI kj))] := hl
  refine lv_aload_n hx hb dX1_isCouple_0 rfl (lv_at hl 1 rfl) ?_
  refine va_getN (D := D) (ci := 9) (v := .ref (tt 1)) (C := RX6) (T := TX6) (N := 4) hx hb hts inAX6 hown hK hP 1 rfl rfl 0 (by decide) (va_Nw.use rfl (hZ.1.2.2.1 _ (List.mem_of_getElem? (i := 2) rfl))) (fun _ h9 => h9) rfl dX1_isCouple_1 ?_
  refine lv_iload_n hx hb dX1_isCouple_4 rfl (lv_at hl 3 rfl) ?_
  have hPc := hP.sub (ws' := [(tt 1, .inr (5, [.ref (tt 2)])), (tt 2, .inl (dA 0, 84, .inl tw))]) [2, 3] rfl
  have hDc := hD.sub (ws' := [(tt 1, .inr (5, [.ref (tt 2)])), (tt 2, .inl (dA 0, 84, .inl tw))]) [2, 3] (by decide) rfl
  have hFc := va_free (wc := [(tt 1, .inr (5, [.ref (tt 2)])), (tt 2, .inl (dA 0, 84, .inl tw))]) hD hS hA [2, 3] rfl
  refine va_calli (va_runV (As := [.int (nI kj)]) (rest := []) ⟨hx, hb, hml, hown, hts⟩ (t_getN l D dA E (tt 1) (tt 2) 84 tw kj s.heap.size  (by omega) (by decide)) (cwV 1 hts (ga_V q420 q203 q200 q204 q201) rfl rfl rfl (by decide +kernel) ⟨(Nat.le_of_ble_eq_true rfl), (Nat.le_of_ble_eq_true rfl)⟩) ⟨pb_blind, va_recv hK hPc (ci := 5) (q0 := 0) rfl rfl, pb_pre hK hPc hDc hZ hS hFc _⟩ rfl rfl hl.1 rfl (lv_room (Nat.le_of_ble_eq_true rfl)) dX1_isCouple_5 ⟨(Nat.le_of_ble_eq_true rfl), (Nat.le_of_ble_eq_true rfl)⟩) hS (fun q _ h => hFc q h) hFc (fun r u t H1 locs ht hvm hw hB hz1 hk1 hS => ?_)
  refine W.widen (k := 0) (n := 0) (Nat.le_of_ble_eq_true rfl) (Nat.le_of_ble_eq_true rfl) ?_
  obtain ⟨r1, rfl⟩ : ∃ z, z = r := ⟨_, rfl⟩
  obtain ⟨u2, rfl⟩ : ∃ z, z = u := ⟨_, rfl⟩
  have hw3 := hw
  clear hw
  obtain ⟨hP1, hD1⟩ := hB
  rw [ht] at hP1
  obtain ⟨hP, hD⟩ := va_join (wr := [(qo, .inr (4, [.int qk, .int qa, .int qb, .int qd, .int qw, .int qn])), (tt 0, .inr (9, [.ref (tt 1), .ref (tt 3), .ref (tt 5), .int (nI nm)])), (tt 3, .inr (5, [.ref (tt 4)])), (tt 4, .inl (dA 0, 84, .inl tp)), (tt 5, .inr (5, [.ref (tt 6)])), (tt 6, .inl (dA 0, 84, .inl tx))]) (w1 := [(tt 1, .inr (5, [.ref (tt 2)])), (tt 2, .inl (dA 0, 84, .inl tw))]) hP hD [2, 3] [0, 1, 4, 5, 6, 7] rfl rfl (by decide) (by decide) hk1 hFc hP1 hD1
  generalize H1 = H at hP hS ⊢
  have hP : va_P D vwCl [(qo, .inr (4, [.int qk, .int qa, .int qb, .int qd, .int qw, .int qn])), (tt 0, .inr (9, [.ref (tt 1), .ref (tt 3), .ref (tt 5), .int (nI nm)])), (tt 3, .inr (5, [.ref (tt 4)])), (tt 4, .inl (dA 0, 84, .inl tp)), (tt 5, .inr (5, [.ref (tt 6)])), (tt 6, .inl (dA 0, 84, .inl tx)), (tt 1, .inr (5, [.ref (tt 2)])), (tt 2, .inl (dA 0, 84, .inl tw))] H := hP
  have hD : va_D A [(qo, .inr (4, [.int qk, .int qa, .int qb, .int qd, .int qw, .int qn])), (tt 0, .inr (9, [.ref (tt 1), .ref (tt 3), .ref (tt 5), .int (nI nm)])), (tt 3, .inr (5, [.ref (tt 4)])), (tt 4, .inl (dA 0, 84, .inl tp)), (tt 5, .inr (5, [.ref (tt 6)])), (tt 6, .inl (dA 0, 84, .inl tx)), (tt 1, .inr (5, [.ref (tt 2)])), (tt 2, .inl (dA 0, 84, .inl tw))] := hD
  obtain rfl : r1 = tw kj := hw3
  refine lv_aload_n hx hb dX1_isCouple_8 rfl (lv_at hl 0 rfl) ?_
  refine va_get (D := D) (ci := 4) (v := .int qb) (C := RX1) (T := TX1) (N := 6) hx hb hts inAX1 hown hK hP 0 rfl rfl 2 (by decide) (hts _ q303) (fun _ h9 => h9) rfl dX1_isCouple_9 ?_
  refine lv_icmp_eq (tgt := 17) hx hb dX1_isCouple_12 (by decide) (fun c4 => ?_) (fun c4 => ?_)
  · refine lv_aload_n hx hb dX1_isCouple_17 rfl (lv_at hl 1 rfl) ?_
    refine va_getN (D := D) (ci := 9) (v := .ref (tt 3)) (C := RX6) (T := TX6) (N := 4) hx hb hts inAX6 hown hK hP 1 rfl rfl 1 (by decide) (va_Nw.use rfl (hZ.1.2.2.1 _ (List.mem_of_getElem? (i := 3) rfl))) (fun _ h9 => h9) rfl dX1_isCouple_18 ?_
    refine lv_iload_n hx hb dX1_isCouple_21 rfl (lv_at hl 3 rfl) ?_
    have hPc := hP.sub (ws' := [(tt 3, .inr (5, [.ref (tt 4)])), (tt 4, .inl (dA 0, 84, .inl tp))]) [2, 3] rfl
    have hDc := hD.sub (ws' := [(tt 3, .inr (5, [.ref (tt 4)])), (tt 4, .inl (dA 0, 84, .inl tp))]) [2, 3] (by decide) rfl
    have hFc := va_free (wc := [(tt 3, .inr (5, [.ref (tt 4)])), (tt 4, .inl (dA 0, 84, .inl tp))]) hD hS hA [2, 3] rfl
    refine va_calli (va_runV (As := [.int (nI kj)]) (rest := []) ⟨hx, hb, hml, hown, hts⟩ (t_getN l D dA E (tt 3) (tt 4) 84 tp kj H.size  (by omega) (by decide)) (cwV 1 hts (ga_V q420 q203 q200 q204 q201) rfl rfl rfl (by decide +kernel) ⟨(Nat.le_of_ble_eq_true rfl), (Nat.le_of_ble_eq_true rfl)⟩) ⟨pb_blind, va_recv hK hPc (ci := 5) (q0 := 0) rfl rfl, pb_pre hK hPc hDc hZ hS hFc _⟩ rfl rfl hl.1 rfl (lv_room (Nat.le_of_ble_eq_true rfl)) dX1_isCouple_22 ⟨(Nat.le_of_ble_eq_true rfl), (Nat.le_of_ble_eq_true rfl)⟩) hS (fun q _ h => hFc q h) hFc (fun r u t H1 locs ht hvm hw hB hz1 hk1 hS => ?_)
    refine W.widen (k := 0) (n := 0) (Nat.le_of_ble_eq_true rfl) (Nat.le_of_ble_eq_true rfl) ?_
    obtain ⟨r5, rfl⟩ : ∃ z, z = r := ⟨_, rfl⟩
    obtain ⟨u6, rfl⟩ : ∃ z, z = u := ⟨_, rfl⟩
    have hw7 := hw
    clear hw
    obtain ⟨hP1, hD1⟩ := hB
    rw [ht] at hP1
    obtain ⟨hP, hD⟩ := va_join (wr := [(qo, .inr (4, [.int qk, .int qa, .int qb, .int qd, .int qw, .int qn])), (tt 0, .inr (9, [.ref (tt 1), .ref (tt 3), .ref (tt 5), .int (nI nm)])), (tt 5, .inr (5, [.ref (tt 6)])), (tt 6, .inl (dA 0, 84, .inl tx)), (tt 1, .inr (5, [.ref (tt 2)])), (tt 2, .inl (dA 0, 84, .inl tw))]) (w1 := [(tt 3, .inr (5, [.ref (tt 4)])), (tt 4, .inl (dA 0, 84, .inl tp))]) hP hD [2, 3] [0, 1, 4, 5, 6, 7] rfl rfl (by decide) (by decide) hk1 hFc hP1 hD1
    generalize H1 = H at hP hS ⊢
    have hP : va_P D vwCl [(qo, .inr (4, [.int qk, .int qa, .int qb, .int qd, .int qw, .int qn])), (tt 0, .inr (9, [.ref (tt 1), .ref (tt 3), .ref (tt 5), .int (nI nm)])), (tt 5, .inr (5, [.ref (tt 6)])), (tt 6, .inl (dA 0, 84, .inl tx)), (tt 1, .inr (5, [.ref (tt 2)])), (tt 2, .inl (dA 0, 84, .inl tw)), (tt 3, .inr (5, [.ref (tt 4)])), (tt 4, .inl (dA 0, 84, .inl tp))] H := hP
    have hD : va_D A [(qo, .inr (4, [.int qk, .int qa, .int qb, .int qd, .int qw, .int qn])), (tt 0, .inr (9, [.ref (tt 1), .ref (tt 3), .ref (tt 5), .int (nI nm)])), (tt 5, .inr (5, [.ref (tt 6)])), (tt 6, .inl (dA 0, 84, .inl tx)), (tt 1, .inr (5, [.ref (tt 2)])), (tt 2, .inl (dA 0, 84, .inl tw)), (tt 3, .inr (5, [.ref (tt 4)])), (tt 4, .inl (dA 0, 84, .inl tp))] := hD
    obtain rfl : r5 = tp kj := hw7
    refine lv_aload_n hx hb dX1_isCouple_25 rfl (lv_at hl 1 rfl) ?_
    refine va_getN (D := D) (ci := 9) (v := .ref (tt 3)) (C := RX6) (T := TX6) (N := 4) hx hb hts inAX6 hown hK hP 1 rfl rfl 1 (by decide) (va_Nw.use rfl (hZ.1.2.2.1 _ (List.mem_of_getElem? (i := 3) rfl))) (fun _ h9 => h9) rfl dX1_isCouple_26 ?_
    refine lv_iload_n hx hb dX1_isCouple_29 rfl (lv_at hl 2 rfl) ?_
    have hPc := hP.sub (ws' := [(tt 3, .inr (5, [.ref (tt 4)])), (tt 4, .inl (dA 0, 84, .inl tp))]) [6, 7] rfl
    have hDc := hD.sub (ws' := [(tt 3, .inr (5, [.ref (tt 4)])), (tt 4, .inl (dA 0, 84, .inl tp))]) [6, 7] (by decide) rfl
    have hFc := va_free (wc := [(tt 3, .inr (5, [.ref (tt 4)])), (tt 4, .inl (dA 0, 84, .inl tp))]) hD hS hA [6, 7] rfl
    refine va_calli (va_runV (As := [.int (nI ki)]) (rest := [.int (tp kj)]) ⟨hx, hb, hml, hown, hts⟩ (t_getN l D dA E (tt 3) (tt 4) 84 tp ki H.size  (by omega) (by decide)) (cwV 1 hts (ga_V q420 q203 q200 q204 q201) rfl rfl rfl (by decide +kernel) ⟨(Nat.le_of_ble_eq_true rfl), (Nat.le_of_ble_eq_true rfl)⟩) ⟨pb_blind, va_recv hK hPc (ci := 5) (q0 := 0) rfl rfl, pb_pre hK hPc hDc hZ hS hFc _⟩ rfl rfl hl.1 rfl (lv_room (Nat.le_of_ble_eq_true rfl)) dX1_isCouple_30 ⟨(Nat.le_of_ble_eq_true rfl), (Nat.le_of_ble_eq_true rfl)⟩) hS (fun q _ h => hFc q h) hFc (fun r u t H1 locs ht hvm hw hB hz1 hk1 hS => ?_)
    refine W.widen (k := 0) (n := 0) (Nat.le_of_ble_eq_true rfl) (Nat.le_of_ble_eq_true rfl) ?_
    obtain ⟨r8, rfl⟩ : ∃ z, z = r := ⟨_, rfl⟩
    obtain ⟨u9, rfl⟩ : ∃ z, z = u := ⟨_, rfl⟩
    have hw10 := hw
    clear hw
    obtain ⟨hP1, hD1⟩ := hB
    rw [ht] at hP1
    obtain ⟨hP, hD⟩ := va_join (wr := [(qo, .inr (4, [.int qk, .int qa, .int qb, .int qd, .int qw, .int qn])), (tt 0, .inr (9, [.ref (tt 1), .ref (tt 3), .ref (tt 5), .int (nI nm)])), (tt 5, .inr (5, [.ref (tt 6)])), (tt 6, .inl (dA 0, 84, .inl tx)), (tt 1, .inr (5, [.ref (tt 2)])), (tt 2, .inl (dA 0, 84, .inl tw))]) (w1 := [(tt 3, .inr (5, [.ref (tt 4)])), (tt 4, .inl (dA 0, 84, .inl tp))]) hP hD [6, 7] [0, 1, 2, 3, 4, 5] rfl rfl (by decide) (by decide) hk1 hFc hP1 hD1
    generalize H1 = H at hP hS ⊢
    have hP : va_P D vwCl [(qo, .inr (4, [.int qk, .int qa, .int qb, .int qd, .int qw, .int qn])), (tt 0, .inr (9, [.ref (tt 1), .ref (tt 3), .ref (tt 5), .int (nI nm)])), (tt 5, .inr (5, [.ref (tt 6)])), (tt 6, .inl (dA 0, 84, .inl tx)), (tt 1, .inr (5, [.ref (tt 2)])), (tt 2, .inl (dA 0, 84, .inl tw)), (tt 3, .inr (5, [.ref (tt 4)])), (tt 4, .inl (dA 0, 84, .inl tp))] H := hP
    have hD : va_D A [(qo, .inr (4, [.int qk, .int qa, .int qb, .int qd, .int qw, .int qn])), (tt 0, .inr (9, [.ref (tt 1), .ref (tt 3), .ref (tt 5), .int (nI nm)])), (tt 5, .inr (5, [.ref (tt 6)])), (tt 6, .inl (dA 0, 84, .inl tx)), (tt 1, .inr (5, [.ref (tt 2)])), (tt 2, .inl (dA 0, 84, .inl tw)), (tt 3, .inr (5, [.ref (tt 4)])), (tt 4, .inl (dA 0, 84, .inl tp))] := hD
    obtain rfl : r8 = tp ki := hw10
    refine lv_isub hx hb dX1_isCouple_33 ?_
    refine lv_istore (lv' := [(4, .int ((tp kj) - (tp ki))), (0, .ref qo), (1, .ref (tt 0)), (2, .int (nI ki)), (3, .int (nI kj))]) hx hb dX1_isCouple_34 hl (by decide) rfl (fun ls hl => ?_)
    refine lv_aload_n hx hb dX1_isCouple_36 rfl (lv_at hl 1 rfl) ?_
    refine va_get (D := D) (ci := 4) (v := .int qk) (C := RX1) (T := TX1) (N := 6) hx hb hts inAX1 hown hK hP 0 rfl rfl 0 (by decide) (hts _ q301) (fun _ h9 => h9) rfl dX1_isCouple_37 ?_
    refine lv_bipush (v := 112) hx hb dX1_isCouple_40 (by decide) ?_
    refine lv_icmp_ne (tgt := 57) hx hb dX1_isCouple_42 (by decide) (fun c11 => ?_) (fun c11 => ?_)
    · refine lv_iload hx hb dX1_isCouple_57 (lv_at hl 0 rfl) ?_
      refine lv_if_eq (tgt := 85) hx hb dX1_isCouple_59 (by decide) (fun c12 => ?_) (fun c12 => ?_)
      · refine lv_iconst (v := 0) hx hb dX1_isCouple_85 (by decide) ?_
        refine W.widen (k := 0) (n := 0) (Nat.le_of_ble_eq_true rfl) (Nat.le_of_ble_eq_true rfl) ?_
        have hP9 := hP.sub (ws' := [(qo, .inr (4, [.int qk, .int qa, .int qb, .int qd, .int qw, .int qn])), (tt 0, .inr (9, [.ref (tt 1), .ref (tt 3), .ref (tt 5), .int (nI nm)])), (tt 1, .inr (5, [.ref (tt 2)])), (tt 2, .inl (dA 0, 84, .inl tw)), (tt 3, .inr (5, [.ref (tt 4)])), (tt 4, .inl (dA 0, 84, .inl tp)), (tt 5, .inr (5, [.ref (tt 6)])), (tt 6, .inl (dA 0, 84, .inl tx))]) [0, 1, 4, 5, 6, 7, 2, 3] rfl
        have hD9 := hD.sub (ws' := [(qo, .inr (4, [.int qk, .int qa, .int qb, .int qd, .int qw, .int qn])), (tt 0, .inr (9, [.ref (tt 1), .ref (tt 3), .ref (tt 5), .int (nI nm)])), (tt 1, .inr (5, [.ref (tt 2)])), (tt 2, .inl (dA 0, 84, .inl tw)), (tt 3, .inr (5, [.ref (tt 4)])), (tt 4, .inl (dA 0, 84, .inl tp)), (tt 5, .inr (5, [.ref (tt 6)])), (tt 6, .inl (dA 0, 84, .inl tx))]) [0, 1, 4, 5, 6, 7, 2, 3] (by decide) rfl
        exact W.zret (v := 0) hx hb hr rfl (fun t ht hW => ⟨⟨0, (), rfl, (show _ = bI (icB qk qb qd tw tp ki kj) from by simp [icB, bI, c4, c11, c12]), ⟨by rw [ht]; exact hP9, hD9⟩⟩, hS.F ht⟩) hS.2.2 dX1_isCouple_86
      · refine lv_iload hx hb dX1_isCouple_62 (lv_at hl 0 rfl) ?_
        refine lv_aload_n hx hb dX1_isCouple_64 rfl (lv_at hl 1 rfl) ?_
        refine va_get (D := D) (ci := 4) (v := .int qd) (C := RX1) (T := TX1) (N := 6) hx hb hts inAX1 hown hK hP 0 rfl rfl 3 (by decide) (hts _ q304) (fun _ h9 => h9) rfl dX1_isCouple_65 ?_
        refine lv_ineg hx hb dX1_isCouple_68 ?_
        refine lv_icmp_lt (tgt := 85) hx hb dX1_isCouple_69 (by decide) (fun c13 => ?_) (fun c13 => ?_)
        · refine lv_iconst (v := 0) hx hb dX1_isCouple_85 (by decide) ?_
          refine W.widen (k := 0) (n := 0) (Nat.le_of_ble_eq_true rfl) (Nat.le_of_ble_eq_true rfl) ?_
          have hP9 := hP.sub (ws' := [(qo, .inr (4, [.int qk, .int qa, .int qb, .int qd, .int qw, .int qn])), (tt 0, .inr (9, [.ref (tt 1), .ref (tt 3), .ref (tt 5), .int (nI nm)])), (tt 1, .inr (5, [.ref (tt 2)])), (tt 2, .inl (dA 0, 84, .inl tw)), (tt 3, .inr (5, [.ref (tt 4)])), (tt 4, .inl (dA 0, 84, .inl tp)), (tt 5, .inr (5, [.ref (tt 6)])), (tt 6, .inl (dA 0, 84, .inl tx))]) [0, 1, 4, 5, 6, 7, 2, 3] rfl
          have hD9 := hD.sub (ws' := [(qo, .inr (4, [.int qk, .int qa, .int qb, .int qd, .int qw, .int qn])), (tt 0, .inr (9, [.ref (tt 1), .ref (tt 3), .ref (tt 5), .int (nI nm)])), (tt 1, .inr (5, [.ref (tt 2)])), (tt 2, .inl (dA 0, 84, .inl tw)), (tt 3, .inr (5, [.ref (tt 4)])), (tt 4, .inl (dA 0, 84, .inl tp)), (tt 5, .inr (5, [.ref (tt 6)])), (tt 6, .inl (dA 0, 84, .inl tx))]) [0, 1, 4, 5, 6, 7, 2, 3] (by decide) rfl
          exact W.zret (v := 0) hx hb hr rfl (fun t ht hW => ⟨⟨0, (), rfl, (show _ = bI (icB qk qb qd tw tp ki kj) from by simp [icB, bI, c4, c11, c12, c13]), ⟨by rw [ht]; exact hP9, hD9⟩⟩, hS.F ht⟩) hS.2.2 dX1_isCouple_86
        · refine lv_iload hx hb dX1_isCouple_72 (lv_at hl 0 rfl) ?_
          refine lv_aload_n hx hb dX1_isCouple_74 rfl (lv_at hl 1 rfl) ?_
          refine va_get (D := D) (ci := 4) (v := .int qd) (C := RX1) (T := TX1) (N := 6) hx hb hts inAX1 hown hK hP 0 rfl rfl 3 (by decide) (hts _ q304) (fun _ h9 => h9) rfl dX1_isCouple_75 ?_
          refine lv_icmp_gt (tgt := 85) hx hb dX1_isCouple_78 (by decide) (fun c14 => ?_) (fun c14 => ?_)
          · refine lv_iconst (v := 0) hx hb dX1_isCouple_85 (by decide) ?_
            refine W.widen (k := 0) (n := 0) (Nat.le_of_ble_eq_true rfl) (Nat.le_of_ble_eq_true rfl) ?_
            have hP9 := hP.sub (ws' := [(qo, .inr (4, [.int qk, .int qa, .int qb, .int qd, .int qw, .int qn])), (tt 0, .inr (9, [.ref (tt 1), .ref (tt 3), .ref (tt 5), .int (nI nm)])), (tt 1, .inr (5, [.ref (tt 2)])), (tt 2, .inl (dA 0, 84, .inl tw)), (tt 3, .inr (5, [.ref (tt 4)])), (tt 4, .inl (dA 0, 84, .inl tp)), (tt 5, .inr (5, [.ref (tt 6)])), (tt 6, .inl (dA 0, 84, .inl tx))]) [0, 1, 4, 5, 6, 7, 2, 3] rfl
            have hD9 := hD.sub (ws' := [(qo, .inr (4, [.int qk, .int qa, .int qb, .int qd, .int qw, .int qn])), (tt 0, .inr (9, [.ref (tt 1), .ref (tt 3), .ref (tt 5), .int (nI nm)])), (tt 1, .inr (5, [.ref (tt 2)])), (tt 2, .inl (dA 0, 84, .inl tw)), (tt 3, .inr (5, [.ref (tt 4)])), (tt 4, .inl (dA 0, 84, .inl tp)), (tt 5, .inr (5, [.ref (tt 6)])), (tt 6, .inl (dA 0, 84, .inl tx))]) [0, 1, 4, 5, 6, 7, 2, 3] (by decide) rfl
            exact W.zret (v := 0) hx hb hr rfl (fun t ht hW => ⟨⟨0, (), rfl, (show _ = bI (icB qk qb qd tw tp ki kj) from by simp [icB, bI, c4, c11, c12, c13, c14]), ⟨by rw [ht]; exact hP9, hD9⟩⟩, hS.F ht⟩) hS.2.2 dX1_isCouple_86
          · refine lv_iconst (v := 1) hx hb dX1_isCouple_81 (by decide) ?_
            refine lv_goto (tgt := 86) hx hb dX1_isCouple_82 (by decide) ?_
            refine W.widen (k := 0) (n := 0) (Nat.le_of_ble_eq_true rfl) (Nat.le_of_ble_eq_true rfl) ?_
            have hP9 := hP.sub (ws' := [(qo, .inr (4, [.int qk, .int qa, .int qb, .int qd, .int qw, .int qn])), (tt 0, .inr (9, [.ref (tt 1), .ref (tt 3), .ref (tt 5), .int (nI nm)])), (tt 1, .inr (5, [.ref (tt 2)])), (tt 2, .inl (dA 0, 84, .inl tw)), (tt 3, .inr (5, [.ref (tt 4)])), (tt 4, .inl (dA 0, 84, .inl tp)), (tt 5, .inr (5, [.ref (tt 6)])), (tt 6, .inl (dA 0, 84, .inl tx))]) [0, 1, 4, 5, 6, 7, 2, 3] rfl
            have hD9 := hD.sub (ws' := [(qo, .inr (4, [.int qk, .int qa, .int qb, .int qd, .int qw, .int qn])), (tt 0, .inr (9, [.ref (tt 1), .ref (tt 3), .ref (tt 5), .int (nI nm)])), (tt 1, .inr (5, [.ref (tt 2)])), (tt 2, .inl (dA 0, 84, .inl tw)), (tt 3, .inr (5, [.ref (tt 4)])), (tt 4, .inl (dA 0, 84, .inl tp)), (tt 5, .inr (5, [.ref (tt 6)])), (tt 6, .inl (dA 0, 84, .inl tx))]) [0, 1, 4, 5, 6, 7, 2, 3] (by decide) rfl
            exact W.zret (v := 1) hx hb hr rfl (fun t ht hW => ⟨⟨1, (), rfl, (show _ = bI (icB qk qb qd tw tp ki kj) from by simp [icB, bI, c4, c11, c12, c13, c14]), ⟨by rw [ht]; exact hP9, hD9⟩⟩, hS.F ht⟩) hS.2.2 dX1_isCouple_86
    · refine lv_iload hx hb dX1_isCouple_45 (lv_at hl 0 rfl) ?_
      refine lv_iconst (v := 1) hx hb dX1_isCouple_47 (by decide) ?_
      refine lv_icmp_ne (tgt := 55) hx hb dX1_isCouple_48 (by decide) (fun c15 => ?_) (fun c15 => ?_)
      · refine lv_iconst (v := 0) hx hb dX1_isCouple_55 (by decide) ?_
        refine W.widen (k := 0) (n := 0) (Nat.le_of_ble_eq_true rfl) (Nat.le_of_ble_eq_true rfl) ?_
        have hP9 := hP.sub (ws' := [(qo, .inr (4, [.int qk, .int qa, .int qb, .int qd, .int qw, .int qn])), (tt 0, .inr (9, [.ref (tt 1), .ref (tt 3), .ref (tt 5), .int (nI nm)])), (tt 1, .inr (5, [.ref (tt 2)])), (tt 2, .inl (dA 0, 84, .inl tw)), (tt 3, .inr (5, [.ref (tt 4)])), (tt 4, .inl (dA 0, 84, .inl tp)), (tt 5, .inr (5, [.ref (tt 6)])), (tt 6, .inl (dA 0, 84, .inl tx))]) [0, 1, 4, 5, 6, 7, 2, 3] rfl
        have hD9 := hD.sub (ws' := [(qo, .inr (4, [.int qk, .int qa, .int qb, .int qd, .int qw, .int qn])), (tt 0, .inr (9, [.ref (tt 1), .ref (tt 3), .ref (tt 5), .int (nI nm)])), (tt 1, .inr (5, [.ref (tt 2)])), (tt 2, .inl (dA 0, 84, .inl tw)), (tt 3, .inr (5, [.ref (tt 4)])), (tt 4, .inl (dA 0, 84, .inl tp)), (tt 5, .inr (5, [.ref (tt 6)])), (tt 6, .inl (dA 0, 84, .inl tx))]) [0, 1, 4, 5, 6, 7, 2, 3] (by decide) rfl
        exact W.zret (v := 0) hx hb hr rfl (fun t ht hW => ⟨⟨0, (), rfl, (show _ = bI (icB qk qb qd tw tp ki kj) from by simp [icB, bI, c4, c11, c15]), ⟨by rw [ht]; exact hP9, hD9⟩⟩, hS.F ht⟩) hS.2.2 dX1_isCouple_56
      · refine lv_iconst (v := 1) hx hb dX1_isCouple_51 (by decide) ?_
        refine lv_goto (tgt := 56) hx hb dX1_isCouple_52 (by decide) ?_
        refine W.widen (k := 0) (n := 0) (Nat.le_of_ble_eq_true rfl) (Nat.le_of_ble_eq_true rfl) ?_
        have hP9 := hP.sub (ws' := [(qo, .inr (4, [.int qk, .int qa, .int qb, .int qd, .int qw, .int qn])), (tt 0, .inr (9, [.ref (tt 1), .ref (tt 3), .ref (tt 5), .int (nI nm)])), (tt 1, .inr (5, [.ref (tt 2)])), (tt 2, .inl (dA 0, 84, .inl tw)), (tt 3, .inr (5, [.ref (tt 4)])), (tt 4, .inl (dA 0, 84, .inl tp)), (tt 5, .inr (5, [.ref (tt 6)])), (tt 6, .inl (dA 0, 84, .inl tx))]) [0, 1, 4, 5, 6, 7, 2, 3] rfl
        have hD9 := hD.sub (ws' := [(qo, .inr (4, [.int qk, .int qa, .int qb, .int qd, .int qw, .int qn])), (tt 0, .inr (9, [.ref (tt 1), .ref (tt 3), .ref (tt 5), .int (nI nm)])), (tt 1, .inr (5, [.ref (tt 2)])), (tt 2, .inl (dA 0, 84, .inl tw)), (tt 3, .inr (5, [.ref (tt 4)])), (tt 4, .inl (dA 0, 84, .inl tp)), (tt 5, .inr (5, [.ref (tt 6)])), (tt 6, .inl (dA 0, 84, .inl tx))]) [0, 1, 4, 5, 6, 7, 2, 3] (by decide) rfl
        exact W.zret (v := 1) hx hb hr rfl (fun t ht hW => ⟨⟨1, (), rfl, (show _ = bI (icB qk qb qd tw tp ki kj) from by simp [icB, bI, c4, c11, c15]), ⟨by rw [ht]; exact hP9, hD9⟩⟩, hS.F ht⟩) hS.2.2 dX1_isCouple_56
  · refine lv_iconst (v := 0) hx hb dX1_isCouple_15 (by decide) ?_
    refine W.widen (k := 0) (n := 0) (Nat.le_of_ble_eq_true rfl) (Nat.le_of_ble_eq_true rfl) ?_
    have hP9 := hP.sub (ws' := [(qo, .inr (4, [.int qk, .int qa, .int qb, .int qd, .int qw, .int qn])), (tt 0, .inr (9, [.ref (tt 1), .ref (tt 3), .ref (tt 5), .int (nI nm)])), (tt 1, .inr (5, [.ref (tt 2)])), (tt 2, .inl (dA 0, 84, .inl tw)), (tt 3, .inr (5, [.ref (tt 4)])), (tt 4, .inl (dA 0, 84, .inl tp)), (tt 5, .inr (5, [.ref (tt 6)])), (tt 6, .inl (dA 0, 84, .inl tx))]) [0, 1, 6, 7, 2, 3, 4, 5] rfl
    have hD9 := hD.sub (ws' := [(qo, .inr (4, [.int qk, .int qa, .int qb, .int qd, .int qw, .int qn])), (tt 0, .inr (9, [.ref (tt 1), .ref (tt 3), .ref (tt 5), .int (nI nm)])), (tt 1, .inr (5, [.ref (tt 2)])), (tt 2, .inl (dA 0, 84, .inl tw)), (tt 3, .inr (5, [.ref (tt 4)])), (tt 4, .inl (dA 0, 84, .inl tp)), (tt 5, .inr (5, [.ref (tt 6)])), (tt 6, .inl (dA 0, 84, .inl tx))]) [0, 1, 6, 7, 2, 3, 4, 5] (by decide) rfl
    exact W.zret (v := 0) hx hb hr rfl (fun t ht hW => ⟨⟨0, (), rfl, (show _ = bI (icB qk qb qd tw tp ki kj) from by simp [icB, bI, c4]), ⟨by rw [ht]; exact hP9, hD9⟩⟩, hS.F ht⟩) hS.2.2 dX1_isCouple_16

set_option maxHeartbeats 4000000 in
set_option maxRecDepth 100000 in
theorem q_timesIn (l : Launch) (D : va_G) (dA : Nat → ClassId) (E : Nat) (qo : Nat) (qk qa qb qd qw qn : Int32) (tt : Nat → Nat) (tw tp tx : Nat → Int32) (nm : Nat) (sz : Nat) (hnm : nm ≤ 84)  : Met l yX1_timesIn (wq (.code yX1_timesIn cX1_timesIn 5 (some .int))) { frames := 2, cells := 0, slots := 0, locals := 45 } (va_Pc [.ref qo, .ref (tt 0)] (PcB D dA E [(qo, .inr (4, [.int qk, .int qa, .int qb, .int qd, .int qw, .int qn])), (tt 0, .inr (9, [.ref (tt 1), .ref (tt 3), .ref (tt 5), .int (nI nm)])), (tt 1, .inr (5, [.ref (tt 2)])), (tt 2, .inl (dA 0, 84, .inl tw)), (tt 3, .inr (5, [.ref (tt 4)])), (tt 4, .inl (dA 0, 84, .inl tp)), (tt 5, .inr (5, [.ref (tt 6)])), (tt 6, .inl (dA 0, 84, .inl tx))] sz)) (va_Qi (fun (r : Int32) (u : Unit) => r = nI (tiV qk qa qb qd tw tp nm)) (fun u t => va_P D vwCl [(qo, .inr (4, [.int qk, .int qa, .int qb, .int qd, .int qw, .int qn])), (tt 0, .inr (9, [.ref (tt 1), .ref (tt 3), .ref (tt 5), .int (nI nm)])), (tt 1, .inr (5, [.ref (tt 2)])), (tt 2, .inl (dA 0, 84, .inl tw)), (tt 3, .inr (5, [.ref (tt 4)])), (tt 4, .inl (dA 0, 84, .inl tp)), (tt 5, .inr (5, [.ref (tt 6)])), (tt 6, .inl (dA 0, 84, .inl tx))] t.heap ∧ va_D (va_A [(qo, .inr (4, [.int qk, .int qa, .int qb, .int qd, .int qw, .int qn])), (tt 0, .inr (9, [.ref (tt 1), .ref (tt 3), .ref (tt 5), .int (nI nm)])), (tt 1, .inr (5, [.ref (tt 2)])), (tt 2, .inl (dA 0, 84, .inl tw)), (tt 3, .inr (5, [.ref (tt 4)])), (tt 4, .inl (dA 0, 84, .inl tp)), (tt 5, .inr (5, [.ref (tt 6)])), (tt 6, .inl (dA 0, 84, .inl tx))] sz) [(qo, .inr (4, [.int qk, .int qa, .int qb, .int qd, .int qw, .int qn])), (tt 0, .inr (9, [.ref (tt 1), .ref (tt 3), .ref (tt 5), .int (nI nm)])), (tt 1, .inr (5, [.ref (tt 2)])), (tt 2, .inl (dA 0, 84, .inl tw)), (tt 3, .inr (5, [.ref (tt 4)])), (tt 4, .inl (dA 0, 84, .inl tp)), (tt 5, .inr (5, [.ref (tt 6)])), (tt 6, .inl (dA 0, 84, .inl tx))]) (va_A [(qo, .inr (4, [.int qk, .int qa, .int qb, .int qd, .int qw, .int qn])), (tt 0, .inr (9, [.ref (tt 1), .ref (tt 3), .ref (tt 5), .int (nI nm)])), (tt 1, .inr (5, [.ref (tt 2)])), (tt 2, .inl (dA 0, 84, .inl tw)), (tt 3, .inr (5, [.ref (tt 4)])), (tt 4, .inl (dA 0, 84, .inl tp)), (tt 5, .inr (5, [.ref (tt 6)])), (tt 6, .inl (dA 0, 84, .inl tx))] sz)) 0 0 (va_A [(qo, .inr (4, [.int qk, .int qa, .int qb, .int qd, .int qw, .int qn])), (tt 0, .inr (9, [.ref (tt 1), .ref (tt 3), .ref (tt 5), .int (nI nm)])), (tt 1, .inr (5, [.ref (tt 2)])), (tt 2, .inl (dA 0, 84, .inl tw)), (tt 3, .inr (5, [.ref (tt 4)])), (tt 4, .inl (dA 0, 84, .inl tp)), (tt 5, .inr (5, [.ref (tt 6)])), (tt 6, .inl (dA 0, 84, .inl tx))] sz) := by
  refine mb_of (Qc := fun A => va_Qi (fun (r : Int32) (u : Unit) => r = nI (tiV qk qa qb qd tw tp nm)) (fun u t => va_P D vwCl [(qo, .inr (4, [.int qk, .int qa, .int qb, .int qd, .int qw, .int qn])), (tt 0, .inr (9, [.ref (tt 1), .ref (tt 3), .ref (tt 5), .int (nI nm)])), (tt 1, .inr (5, [.ref (tt 2)])), (tt 2, .inl (dA 0, 84, .inl tw)), (tt 3, .inr (5, [.ref (tt 4)])), (tt 4, .inl (dA 0, 84, .inl tp)), (tt 5, .inr (5, [.ref (tt 6)])), (tt 6, .inl (dA 0, 84, .inl tx))] t.heap ∧ va_D A [(qo, .inr (4, [.int qk, .int qa, .int qb, .int qd, .int qw, .int qn])), (tt 0, .inr (9, [.ref (tt 1), .ref (tt 3), .ref (tt 5), .int (nI nm)])), (tt 1, .inr (5, [.ref (tt 2)])), (tt 2, .inl (dA 0, 84, .inl tw)), (tt 3, .inr (5, [.ref (tt 4)])), (tt 4, .inl (dA 0, 84, .inl tp)), (tt 5, .inr (5, [.ref (tt 6)])), (tt 6, .inl (dA 0, 84, .inl tx))]) A) RX1 rfl (by decide) (Nat.le_of_ble_eq_true rfl) ?_
  intro p e s m args below meth c hae hx hb hr hts hown hlocks hml hnm hP hK A hAe hD hZ hS hA ls hl
  have hl : lv_has ls 5 [(0, .ref qo), (1, .ref (tt 0))] := hl
  refine lv_aload_n hx hb dX1_timesIn_0 rfl (lv_at hl 0 rfl) ?_
  refine va_get (D := D) (ci := 4) (v := .int qk) (C := RX1) (T := TX1) (N := 6) hx hb hts inAX1 hown hK hP 0 rfl rfl 0 (by decide) (hts _ q301) (fun _ h9 => h9) rfl dX1_timesIn_1 ?_
  refine lv_bipush (v := 119) hx hb dX1_timesIn_4 (by decide) ?_
  refine lv_icmp_ne (tgt := 18) hx hb dX1_timesIn_6 (by decide) (fun c1 => ?_) (fun c1 => ?_)
  · refine lv_iconst (v := 0) hx hb dX1_timesIn_18 (by decide) ?_
    refine lv_istore_n (lv' := [(2, .int 0), (0, .ref qo), (1, .ref (tt 0))]) hx hb dX1_timesIn_19 rfl hl (by decide) rfl (fun ls hl => ?_)
    refine lv_iconst (v := 0) hx hb dX1_timesIn_20 (by decide) ?_
    refine lv_istore_n (lv' := [(3, .int 0), (2, .int 0), (0, .ref qo), (1, .ref (tt 0))]) hx hb dX1_timesIn_21 rfl hl (by decide) rfl (fun ls hl => ?_)
    have K22 : ∀ (k22 i22 : Nat) (g22_0 : Int32), 0 ≤ i22 → i22 ≤ nm → nm < i22 + k22 → (g22_0 = nI (tiN qk qa qb qd tw tp nm i22)) → ∀ (H : Heap) (locs : List Loc), va_P D vwCl [(qo, .inr (4, [.int qk, .int qa, .int qb, .int qd, .int qw, .int qn])), (tt 0, .inr (9, [.ref (tt 1), .ref (tt 3), .ref (tt 5), .int (nI nm)])), (tt 1, .inr (5, [.ref (tt 2)])), (tt 2, .inl (dA 0, 84, .inl tw)), (tt 3, .inr (5, [.ref (tt 4)])), (tt 4, .inl (dA 0, 84, .inl tp)), (tt 5, .inr (5, [.ref (tt 6)])), (tt 6, .inl (dA 0, 84, .inl tx))] H → va_D A [(qo, .inr (4, [.int qk, .int qa, .int qb, .int qd, .int qw, .int qn])), (tt 0, .inr (9, [.ref (tt 1), .ref (tt 3), .ref (tt 5), .int (nI nm)])), (tt 1, .inr (5, [.ref (tt 2)])), (tt 2, .inl (dA 0, 84, .inl tw)), (tt 3, .inr (5, [.ref (tt 4)])), (tt 4, .inl (dA 0, 84, .inl tp)), (tt 5, .inr (5, [.ref (tt 6)])), (tt 6, .inl (dA 0, 84, .inl tx))] → va_S A s.heap H locs → ∀ ls : Array Slot, lv_has ls 5 [(3, .int (nI i22)), (2, .int g22_0), (0, .ref qo), (1, .ref (tt 0))] → W p l e { frames := 2, cells := 0, slots := 0, locals := 45 } s m args below meth c H locs 0 0 (MQ below (va_Qi (fun (r : Int32) (u : Unit) => r = nI (tiV qk qa qb qd tw tp nm)) (fun u t => va_P D vwCl [(qo, .inr (4, [.int qk, .int qa, .int qb, .int qd, .int qw, .int qn])), (tt 0, .inr (9, [.ref (tt 1), .ref (tt 3), .ref (tt 5), .int (nI nm)])), (tt 1, .inr (5, [.ref (tt 2)])), (tt 2, .inl (dA 0, 84, .inl tw)), (tt 3, .inr (5, [.ref (tt 4)])), (tt 4, .inl (dA 0, 84, .inl tp)), (tt 5, .inr (5, [.ref (tt 6)])), (tt 6, .inl (dA 0, 84, .inl tx))] t.heap ∧ va_D A [(qo, .inr (4, [.int qk, .int qa, .int qb, .int qd, .int qw, .int qn])), (tt 0, .inr (9, [.ref (tt 1), .ref (tt 3), .ref (tt 5), .int (nI nm)])), (tt 1, .inr (5, [.ref (tt 2)])), (tt 2, .inl (dA 0, 84, .inl tw)), (tt 3, .inr (5, [.ref (tt 4)])), (tt 4, .inl (dA 0, 84, .inl tp)), (tt 5, .inr (5, [.ref (tt 6)])), (tt 6, .inl (dA 0, 84, .inl tx))]) A) args s 0 0 A) (F0 m 22 ls []) := by
      intro k22
      induction k22 with
      | zero => intro i22 g22_0 h1 h2 h3; exact absurd h3 (by omega)
      | succ k22 ih22 =>
        intro i22 g22_0 hlo22 hhi22 hms22 hinv22 H locs hP hD hS ls hl
        have eg22_0 := hinv22
        subst eg22_0
        have hti := tiN_le (k := qk) (a := qa) (b := qb) (d := qd) (w := tw) (p := tp) (n := nm) i22
        have htj : nm * i22 ≤ 84 * 84 := Nat.mul_le_mul (show nm ≤ 84 by omega) (by omega)
        refine lv_iload_n hx hb dX1_timesIn_22 rfl (lv_at hl 0 rfl) ?_
        refine lv_aload_n hx hb dX1_timesIn_23 rfl (lv_at hl 3 rfl) ?_
        refine va_getN (D := D) (ci := 9) (v := .int (nI nm)) (C := RX6) (T := TX6) (N := 4) hx hb hts inAX6 hown hK hP 1 rfl rfl 3 (by decide) (va_Nw.use rfl (hZ.1.2.2.1 _ (List.mem_of_getElem? (i := 6) rfl))) (fun _ h9 => h9) rfl dX1_timesIn_24 ?_
        refine lv_icmp_ge (tgt := 103) hx hb dX1_timesIn_27 (by decide) (fun c2 => ?_) (fun c2 => ?_)
        · replace c2 := (nI_leI (a := nm) (b := i22) (by omega) (by omega)).mp c2
          obtain rfl : nm = i22 := (by omega)
          have hP : va_P D vwCl [(qo, .inr (4, [.int qk, .int qa, .int qb, .int qd, .int qw, .int qn])), (tt 0, .inr (9, [.ref (tt 1), .ref (tt 3), .ref (tt 5), .int (nI nm)])), (tt 1, .inr (5, [.ref (tt 2)])), (tt 2, .inl (dA 0, 84, .inl tw)), (tt 3, .inr (5, [.ref (tt 4)])), (tt 4, .inl (dA 0, 84, .inl tp)), (tt 5, .inr (5, [.ref (tt 6)])), (tt 6, .inl (dA 0, 84, .inl tx))] H := hP
          have hD : va_D A [(qo, .inr (4, [.int qk, .int qa, .int qb, .int qd, .int qw, .int qn])), (tt 0, .inr (9, [.ref (tt 1), .ref (tt 3), .ref (tt 5), .int (nI nm)])), (tt 1, .inr (5, [.ref (tt 2)])), (tt 2, .inl (dA 0, 84, .inl tw)), (tt 3, .inr (5, [.ref (tt 4)])), (tt 4, .inl (dA 0, 84, .inl tp)), (tt 5, .inr (5, [.ref (tt 6)])), (tt 6, .inl (dA 0, 84, .inl tx))] := hD
          refine lv_iload_n hx hb dX1_timesIn_103 rfl (lv_at hl 1 rfl) ?_
          refine W.widen (k := 0) (n := 0) (Nat.le_of_ble_eq_true rfl) (Nat.le_of_ble_eq_true rfl) ?_
          have hP9 := hP.sub (ws' := [(qo, .inr (4, [.int qk, .int qa, .int qb, .int qd, .int qw, .int qn])), (tt 0, .inr (9, [.ref (tt 1), .ref (tt 3), .ref (tt 5), .int (nI nm)])), (tt 1, .inr (5, [.ref (tt 2)])), (tt 2, .inl (dA 0, 84, .inl tw)), (tt 3, .inr (5, [.ref (tt 4)])), (tt 4, .inl (dA 0, 84, .inl tp)), (tt 5, .inr (5, [.ref (tt 6)])), (tt 6, .inl (dA 0, 84, .inl tx))]) [0, 1, 2, 3, 4, 5, 6, 7] rfl
          have hD9 := hD.sub (ws' := [(qo, .inr (4, [.int qk, .int qa, .int qb, .int qd, .int qw, .int qn])), (tt 0, .inr (9, [.ref (tt 1), .ref (tt 3), .ref (tt 5), .int (nI nm)])), (tt 1, .inr (5, [.ref (tt 2)])), (tt 2, .inl (dA 0, 84, .inl tw)), (tt 3, .inr (5, [.ref (tt 4)])), (tt 4, .inl (dA 0, 84, .inl tp)), (tt 5, .inr (5, [.ref (tt 6)])), (tt 6, .inl (dA 0, 84, .inl tx))]) [0, 1, 2, 3, 4, 5, 6, 7] (by decide) rfl
          exact W.iret (v := (nI (tiN qk qa qb qd tw tp nm nm))) hx hb hr (fun t ht hW => ⟨⟨(nI (tiN qk qa qb qd tw tp nm nm)), (), rfl, (show _ = nI (tiV _ _ _ _ _ _ _) from by rw [tiV, if_neg c1]), ⟨by rw [ht]; exact hP9, hD9⟩⟩, hS.F ht⟩) hS.2.2 dX1_timesIn_104
        · replace c2 := mt (nI_leI (a := nm) (b := i22) (by omega) (by omega)).mpr c2
          refine lv_aload_n hx hb dX1_timesIn_30 rfl (lv_at hl 3 rfl) ?_
          refine va_getN (D := D) (ci := 9) (v := .ref (tt 1)) (C := RX6) (T := TX6) (N := 4) hx hb hts inAX6 hown hK hP 1 rfl rfl 0 (by decide) (va_Nw.use rfl (hZ.1.2.2.1 _ (List.mem_of_getElem? (i := 2) rfl))) (fun _ h9 => h9) rfl dX1_timesIn_31 ?_
          refine lv_iload_n hx hb dX1_timesIn_34 rfl (lv_at hl 0 rfl) ?_
          have hPc := hP.sub (ws' := [(tt 1, .inr (5, [.ref (tt 2)])), (tt 2, .inl (dA 0, 84, .inl tw))]) [2, 3] rfl
          have hDc := hD.sub (ws' := [(tt 1, .inr (5, [.ref (tt 2)])), (tt 2, .inl (dA 0, 84, .inl tw))]) [2, 3] (by decide) rfl
          have hFc := va_free (wc := [(tt 1, .inr (5, [.ref (tt 2)])), (tt 2, .inl (dA 0, 84, .inl tw))]) hD hS hA [2, 3] rfl
          refine va_calli (va_runV (As := [.int (nI i22)]) (rest := []) ⟨hx, hb, hml, hown, hts⟩ (t_getN l D dA E (tt 1) (tt 2) 84 tw i22 H.size  (by omega) (by decide)) (cwV 1 hts (ga_V q420 q203 q200 q204 q201) rfl rfl rfl (by decide +kernel) ⟨(Nat.le_of_ble_eq_true rfl), (Nat.le_of_ble_eq_true rfl)⟩) ⟨pb_blind, va_recv hK hPc (ci := 5) (q0 := 0) rfl rfl, pb_pre hK hPc hDc hZ hS hFc _⟩ rfl rfl hl.1 rfl (lv_room (Nat.le_of_ble_eq_true rfl)) dX1_timesIn_35 ⟨(Nat.le_of_ble_eq_true rfl), (Nat.le_of_ble_eq_true rfl)⟩) hS (fun q _ h => hFc q h) hFc (fun r u t H1 locs ht hvm hw hB hz1 hk1 hS => ?_)
          refine W.widen (k := 0) (n := 0) (Nat.le_of_ble_eq_true rfl) (Nat.le_of_ble_eq_true rfl) ?_
          obtain ⟨r3, rfl⟩ : ∃ z, z = r := ⟨_, rfl⟩
          obtain ⟨u4, rfl⟩ : ∃ z, z = u := ⟨_, rfl⟩
          have hw5 := hw
          clear hw
          obtain ⟨hP1, hD1⟩ := hB
          rw [ht] at hP1
          obtain ⟨hP, hD⟩ := va_join (wr := [(qo, .inr (4, [.int qk, .int qa, .int qb, .int qd, .int qw, .int qn])), (tt 0, .inr (9, [.ref (tt 1), .ref (tt 3), .ref (tt 5), .int (nI nm)])), (tt 3, .inr (5, [.ref (tt 4)])), (tt 4, .inl (dA 0, 84, .inl tp)), (tt 5, .inr (5, [.ref (tt 6)])), (tt 6, .inl (dA 0, 84, .inl tx))]) (w1 := [(tt 1, .inr (5, [.ref (tt 2)])), (tt 2, .inl (dA 0, 84, .inl tw))]) hP hD [2, 3] [0, 1, 4, 5, 6, 7] rfl rfl (by decide) (by decide) hk1 hFc hP1 hD1
          generalize H1 = H at hP hS ⊢
          have hP : va_P D vwCl [(qo, .inr (4, [.int qk, .int qa, .int qb, .int qd, .int qw, .int qn])), (tt 0, .inr (9, [.ref (tt 1), .ref (tt 3), .ref (tt 5), .int (nI nm)])), (tt 3, .inr (5, [.ref (tt 4)])), (tt 4, .inl (dA 0, 84, .inl tp)), (tt 5, .inr (5, [.ref (tt 6)])), (tt 6, .inl (dA 0, 84, .inl tx)), (tt 1, .inr (5, [.ref (tt 2)])), (tt 2, .inl (dA 0, 84, .inl tw))] H := hP
          have hD : va_D A [(qo, .inr (4, [.int qk, .int qa, .int qb, .int qd, .int qw, .int qn])), (tt 0, .inr (9, [.ref (tt 1), .ref (tt 3), .ref (tt 5), .int (nI nm)])), (tt 3, .inr (5, [.ref (tt 4)])), (tt 4, .inl (dA 0, 84, .inl tp)), (tt 5, .inr (5, [.ref (tt 6)])), (tt 6, .inl (dA 0, 84, .inl tx)), (tt 1, .inr (5, [.ref (tt 2)])), (tt 2, .inl (dA 0, 84, .inl tw))] := hD
          obtain rfl : r3 = tw i22 := hw5
          refine lv_aload_n hx hb dX1_timesIn_38 rfl (lv_at hl 2 rfl) ?_
          refine va_get (D := D) (ci := 4) (v := .int qa) (C := RX1) (T := TX1) (N := 6) hx hb hts inAX1 hown hK hP 0 rfl rfl 1 (by decide) (hts _ q302) (fun _ h9 => h9) rfl dX1_timesIn_39 ?_
          refine lv_icmp_ne (tgt := 97) hx hb dX1_timesIn_42 (by decide) (fun c6 => ?_) (fun c6 => ?_)
          · refine lv_iinc (v := nI (i22 + 1)) (lv' := [(3, .int (nI (i22 + 1))), (2, .int (nI (tiN qk qa qb qd tw tp nm i22))), (0, .ref qo), (1, .ref (tt 0))]) hx hb dX1_timesIn_97 hl (k := 0) rfl (nI_add i22 1) (by decide) rfl (fun ls hl => ?_)
            refine lv_goto (tgt := 22) hx hb dX1_timesIn_100 (by decide) ?_
            have hP := hP.sub (ws' := [(qo, .inr (4, [.int qk, .int qa, .int qb, .int qd, .int qw, .int qn])), (tt 0, .inr (9, [.ref (tt 1), .ref (tt 3), .ref (tt 5), .int (nI nm)])), (tt 1, .inr (5, [.ref (tt 2)])), (tt 2, .inl (dA 0, 84, .inl tw)), (tt 3, .inr (5, [.ref (tt 4)])), (tt 4, .inl (dA 0, 84, .inl tp)), (tt 5, .inr (5, [.ref (tt 6)])), (tt 6, .inl (dA 0, 84, .inl tx))]) [0, 1, 6, 7, 2, 3, 4, 5] rfl
            have hD := hD.sub (ws' := [(qo, .inr (4, [.int qk, .int qa, .int qb, .int qd, .int qw, .int qn])), (tt 0, .inr (9, [.ref (tt 1), .ref (tt 3), .ref (tt 5), .int (nI nm)])), (tt 1, .inr (5, [.ref (tt 2)])), (tt 2, .inl (dA 0, 84, .inl tw)), (tt 3, .inr (5, [.ref (tt 4)])), (tt 4, .inl (dA 0, 84, .inl tp)), (tt 5, .inr (5, [.ref (tt 6)])), (tt 6, .inl (dA 0, 84, .inl tx))]) [0, 1, 6, 7, 2, 3, 4, 5] (by decide) rfl
            exact ih22 (i22 + 1) (nI (tiN qk qa qb qd tw tp nm i22)) (by omega) (by omega) (by omega) (ti_n c6) _ _ hP hD hS ls (lv_sub hl [0, 1, 2, 3] rfl)
          · refine lv_aload_n hx hb dX1_timesIn_45 rfl (lv_at hl 3 rfl) ?_
            refine lv_iload_n hx hb dX1_timesIn_46 rfl (lv_at hl 0 rfl) ?_
            have hPc := hP.sub (ws' := [(tt 0, .inr (9, [.ref (tt 1), .ref (tt 3), .ref (tt 5), .int (nI nm)])), (tt 1, .inr (5, [.ref (tt 2)])), (tt 2, .inl (dA 0, 84, .inl tw)), (tt 3, .inr (5, [.ref (tt 4)])), (tt 4, .inl (dA 0, 84, .inl tp)), (tt 5, .inr (5, [.ref (tt 6)])), (tt 6, .inl (dA 0, 84, .inl tx))]) [1, 6, 7, 2, 3, 4, 5] rfl
            have hDc := hD.sub (ws' := [(tt 0, .inr (9, [.ref (tt 1), .ref (tt 3), .ref (tt 5), .int (nI nm)])), (tt 1, .inr (5, [.ref (tt 2)])), (tt 2, .inl (dA 0, 84, .inl tw)), (tt 3, .inr (5, [.ref (tt 4)])), (tt 4, .inl (dA 0, 84, .inl tp)), (tt 5, .inr (5, [.ref (tt 6)])), (tt 6, .inl (dA 0, 84, .inl tx))]) [1, 6, 7, 2, 3, 4, 5] (by decide) rfl
            have hFc := va_free (wc := [(tt 0, .inr (9, [.ref (tt 1), .ref (tt 3), .ref (tt 5), .int (nI nm)])), (tt 1, .inr (5, [.ref (tt 2)])), (tt 2, .inl (dA 0, 84, .inl tw)), (tt 3, .inr (5, [.ref (tt 4)])), (tt 4, .inl (dA 0, 84, .inl tp)), (tt 5, .inr (5, [.ref (tt 6)])), (tt 6, .inl (dA 0, 84, .inl tx))]) hD hS hA [1, 6, 7, 2, 3, 4, 5] rfl
            refine va_calli (va_runV (As := [.int (nI i22)]) (rest := []) ⟨hx, hb, hml, hown, hts⟩ (t_isFirstAtPlace l D dA E tt tw tp tx nm i22 H.size  (by omega) (by omega)) (cwV 1 hts (ga_V q423 q424 q421 q218 q422) rfl rfl rfl (by decide +kernel) ⟨(Nat.le_of_ble_eq_true rfl), (Nat.le_of_ble_eq_true rfl)⟩) ⟨pb_blind, va_recv hK hPc (ci := 9) (q0 := 0) rfl rfl, pb_pre hK hPc hDc hZ hS hFc _⟩ rfl rfl hl.1 rfl (lv_room (Nat.le_of_ble_eq_true rfl)) dX1_timesIn_47 ⟨(Nat.le_of_ble_eq_true rfl), (Nat.le_of_ble_eq_true rfl)⟩) hS (fun q _ h => hFc q h) hFc (fun r u t H1 locs ht hvm hw hB hz1 hk1 hS => ?_)
            refine W.widen (k := 0) (n := 0) (Nat.le_of_ble_eq_true rfl) (Nat.le_of_ble_eq_true rfl) ?_
            obtain ⟨r7, rfl⟩ : ∃ z, z = r := ⟨_, rfl⟩
            obtain ⟨u8, rfl⟩ : ∃ z, z = u := ⟨_, rfl⟩
            have hw9 := hw
            clear hw
            obtain ⟨hP1, hD1⟩ := hB
            rw [ht] at hP1
            obtain ⟨hP, hD⟩ := va_join (wr := [(qo, .inr (4, [.int qk, .int qa, .int qb, .int qd, .int qw, .int qn]))]) (w1 := [(tt 0, .inr (9, [.ref (tt 1), .ref (tt 3), .ref (tt 5), .int (nI nm)])), (tt 1, .inr (5, [.ref (tt 2)])), (tt 2, .inl (dA 0, 84, .inl tw)), (tt 3, .inr (5, [.ref (tt 4)])), (tt 4, .inl (dA 0, 84, .inl tp)), (tt 5, .inr (5, [.ref (tt 6)])), (tt 6, .inl (dA 0, 84, .inl tx))]) hP hD [1, 6, 7, 2, 3, 4, 5] [0] rfl rfl (by decide) (by decide) hk1 hFc hP1 hD1
            generalize H1 = H at hP hS ⊢
            have hP : va_P D vwCl [(qo, .inr (4, [.int qk, .int qa, .int qb, .int qd, .int qw, .int qn])), (tt 0, .inr (9, [.ref (tt 1), .ref (tt 3), .ref (tt 5), .int (nI nm)])), (tt 1, .inr (5, [.ref (tt 2)])), (tt 2, .inl (dA 0, 84, .inl tw)), (tt 3, .inr (5, [.ref (tt 4)])), (tt 4, .inl (dA 0, 84, .inl tp)), (tt 5, .inr (5, [.ref (tt 6)])), (tt 6, .inl (dA 0, 84, .inl tx))] H := hP
            have hD : va_D A [(qo, .inr (4, [.int qk, .int qa, .int qb, .int qd, .int qw, .int qn])), (tt 0, .inr (9, [.ref (tt 1), .ref (tt 3), .ref (tt 5), .int (nI nm)])), (tt 1, .inr (5, [.ref (tt 2)])), (tt 2, .inl (dA 0, 84, .inl tw)), (tt 3, .inr (5, [.ref (tt 4)])), (tt 4, .inl (dA 0, 84, .inl tp)), (tt 5, .inr (5, [.ref (tt 6)])), (tt 6, .inl (dA 0, 84, .inl tx))] := hD
            refine bt (b := (ffB tw tp i22 i22)) ?_ ?_
            · intro hB10
              obtain rfl : r7 = 1 := hw9.trans (by rw [hB10]; rfl)
              refine lv_if_ne (tgt := 56) hx hb dX1_timesIn_50 (by decide) (fun _ => ?_) (fun c11 => absurd c11 (by decide))
              refine lv_iconst (v := 0) hx hb dX1_timesIn_56 (by decide) ?_
              refine lv_istore (lv' := [(4, .int 0), (3, .int (nI i22)), (2, .int (nI (tiN qk qa qb qd tw tp nm i22))), (0, .ref qo), (1, .ref (tt 0))]) hx hb dX1_timesIn_57 hl (by decide) rfl (fun ls hl => ?_)
              have K59 : ∀ (k59 i59 : Nat) (g59_0 : Int32), 0 ≤ i59 → i59 ≤ nm → nm < i59 + k59 → (g59_0 = nI (tiN qk qa qb qd tw tp nm i22 + cn (icF qk qb qd tw tp i22) i59)) → ∀ (H : Heap) (locs : List Loc), va_P D vwCl [(qo, .inr (4, [.int qk, .int qa, .int qb, .int qd, .int qw, .int qn])), (tt 0, .inr (9, [.ref (tt 1), .ref (tt 3), .ref (tt 5), .int (nI nm)])), (tt 1, .inr (5, [.ref (tt 2)])), (tt 2, .inl (dA 0, 84, .inl tw)), (tt 3, .inr (5, [.ref (tt 4)])), (tt 4, .inl (dA 0, 84, .inl tp)), (tt 5, .inr (5, [.ref (tt 6)])), (tt 6, .inl (dA 0, 84, .inl tx))] H → va_D A [(qo, .inr (4, [.int qk, .int qa, .int qb, .int qd, .int qw, .int qn])), (tt 0, .inr (9, [.ref (tt 1), .ref (tt 3), .ref (tt 5), .int (nI nm)])), (tt 1, .inr (5, [.ref (tt 2)])), (tt 2, .inl (dA 0, 84, .inl tw)), (tt 3, .inr (5, [.ref (tt 4)])), (tt 4, .inl (dA 0, 84, .inl tp)), (tt 5, .inr (5, [.ref (tt 6)])), (tt 6, .inl (dA 0, 84, .inl tx))] → va_S A s.heap H locs → ∀ ls : Array Slot, lv_has ls 5 [(4, .int (nI i59)), (3, .int (nI i22)), (2, .int g59_0), (0, .ref qo), (1, .ref (tt 0))] → W p l e { frames := 2, cells := 0, slots := 0, locals := 45 } s m args below meth c H locs 0 0 (MQ below (va_Qi (fun (r : Int32) (u : Unit) => r = nI (tiV qk qa qb qd tw tp nm)) (fun u t => va_P D vwCl [(qo, .inr (4, [.int qk, .int qa, .int qb, .int qd, .int qw, .int qn])), (tt 0, .inr (9, [.ref (tt 1), .ref (tt 3), .ref (tt 5), .int (nI nm)])), (tt 1, .inr (5, [.ref (tt 2)])), (tt 2, .inl (dA 0, 84, .inl tw)), (tt 3, .inr (5, [.ref (tt 4)])), (tt 4, .inl (dA 0, 84, .inl tp)), (tt 5, .inr (5, [.ref (tt 6)])), (tt 6, .inl (dA 0, 84, .inl tx))] t.heap ∧ va_D A [(qo, .inr (4, [.int qk, .int qa, .int qb, .int qd, .int qw, .int qn])), (tt 0, .inr (9, [.ref (tt 1), .ref (tt 3), .ref (tt 5), .int (nI nm)])), (tt 1, .inr (5, [.ref (tt 2)])), (tt 2, .inl (dA 0, 84, .inl tw)), (tt 3, .inr (5, [.ref (tt 4)])), (tt 4, .inl (dA 0, 84, .inl tp)), (tt 5, .inr (5, [.ref (tt 6)])), (tt 6, .inl (dA 0, 84, .inl tx))]) A) args s 0 0 A) (F0 m 59 ls []) := by
                intro k59
                induction k59 with
                | zero => intro i59 g59_0 h1 h2 h3; exact absurd h3 (by omega)
                | succ k59 ih59 =>
                  intro i59 g59_0 hlo59 hhi59 hms59 hinv59 H locs hP hD hS ls hl
                  have eg59_0 := hinv59
                  subst eg59_0
                  have hci := cn_le (icF qk qb qd tw tp i22) i59
                  refine lv_iload hx hb dX1_timesIn_59 (lv_at hl 0 rfl) ?_
                  refine lv_aload_n hx hb dX1_timesIn_61 rfl (lv_at hl 4 rfl) ?_
                  refine va_getN (D := D) (ci := 9) (v := .int (nI nm)) (C := RX6) (T := TX6) (N := 4) hx hb hts inAX6 hown hK hP 1 rfl rfl 3 (by decide) (va_Nw.use rfl (hZ.1.2.2.1 _ (List.mem_of_getElem? (i := 6) rfl))) (fun _ h9 => h9) rfl dX1_timesIn_62 ?_
                  refine lv_icmp_ge (tgt := 97) hx hb dX1_timesIn_65 (by decide) (fun c12 => ?_) (fun c12 => ?_)
                  · replace c12 := (nI_leI (a := nm) (b := i59) (by omega) (by omega)).mp c12
                    obtain rfl : nm = i59 := (by omega)
                    have hP : va_P D vwCl [(qo, .inr (4, [.int qk, .int qa, .int qb, .int qd, .int qw, .int qn])), (tt 0, .inr (9, [.ref (tt 1), .ref (tt 3), .ref (tt 5), .int (nI nm)])), (tt 1, .inr (5, [.ref (tt 2)])), (tt 2, .inl (dA 0, 84, .inl tw)), (tt 3, .inr (5, [.ref (tt 4)])), (tt 4, .inl (dA 0, 84, .inl tp)), (tt 5, .inr (5, [.ref (tt 6)])), (tt 6, .inl (dA 0, 84, .inl tx))] H := hP
                    have hD : va_D A [(qo, .inr (4, [.int qk, .int qa, .int qb, .int qd, .int qw, .int qn])), (tt 0, .inr (9, [.ref (tt 1), .ref (tt 3), .ref (tt 5), .int (nI nm)])), (tt 1, .inr (5, [.ref (tt 2)])), (tt 2, .inl (dA 0, 84, .inl tw)), (tt 3, .inr (5, [.ref (tt 4)])), (tt 4, .inl (dA 0, 84, .inl tp)), (tt 5, .inr (5, [.ref (tt 6)])), (tt 6, .inl (dA 0, 84, .inl tx))] := hD
                    refine lv_iinc (v := nI (i22 + 1)) (lv' := [(3, .int (nI (i22 + 1))), (4, .int (nI nm)), (2, .int (nI (tiN qk qa qb qd tw tp nm i22 + cn (icF qk qb qd tw tp i22) nm))), (0, .ref qo), (1, .ref (tt 0))]) hx hb dX1_timesIn_97 hl (k := 1) rfl (nI_add i22 1) (by decide) rfl (fun ls hl => ?_)
                    refine lv_goto (tgt := 22) hx hb dX1_timesIn_100 (by decide) ?_
                    exact ih22 (i22 + 1) (nI (tiN qk qa qb qd tw tp nm i22 + cn (icF qk qb qd tw tp i22) nm)) (by omega) (by omega) (by omega) (ti_y c6 hB10) _ _ hP hD hS ls (lv_sub hl [0, 2, 3, 4] rfl)
                  · replace c12 := mt (nI_leI (a := nm) (b := i59) (by omega) (by omega)).mpr c12
                    refine lv_aload_n hx hb dX1_timesIn_68 rfl (lv_at hl 3 rfl) ?_
                    refine lv_aload_n hx hb dX1_timesIn_69 rfl (lv_at hl 4 rfl) ?_
                    refine lv_iload_n hx hb dX1_timesIn_70 rfl (lv_at hl 1 rfl) ?_
                    refine lv_iload hx hb dX1_timesIn_71 (lv_at hl 0 rfl) ?_
                    have hPc := hP.sub (ws' := [(qo, .inr (4, [.int qk, .int qa, .int qb, .int qd, .int qw, .int qn])), (tt 0, .inr (9, [.ref (tt 1), .ref (tt 3), .ref (tt 5), .int (nI nm)])), (tt 1, .inr (5, [.ref (tt 2)])), (tt 2, .inl (dA 0, 84, .inl tw)), (tt 3, .inr (5, [.ref (tt 4)])), (tt 4, .inl (dA 0, 84, .inl tp)), (tt 5, .inr (5, [.ref (tt 6)])), (tt 6, .inl (dA 0, 84, .inl tx))]) [0, 1, 2, 3, 4, 5, 6, 7] rfl
                    have hDc := hD.sub (ws' := [(qo, .inr (4, [.int qk, .int qa, .int qb, .int qd, .int qw, .int qn])), (tt 0, .inr (9, [.ref (tt 1), .ref (tt 3), .ref (tt 5), .int (nI nm)])), (tt 1, .inr (5, [.ref (tt 2)])), (tt 2, .inl (dA 0, 84, .inl tw)), (tt 3, .inr (5, [.ref (tt 4)])), (tt 4, .inl (dA 0, 84, .inl tp)), (tt 5, .inr (5, [.ref (tt 6)])), (tt 6, .inl (dA 0, 84, .inl tx))]) [0, 1, 2, 3, 4, 5, 6, 7] (by decide) rfl
                    have hFc := va_free (wc := [(qo, .inr (4, [.int qk, .int qa, .int qb, .int qd, .int qw, .int qn])), (tt 0, .inr (9, [.ref (tt 1), .ref (tt 3), .ref (tt 5), .int (nI nm)])), (tt 1, .inr (5, [.ref (tt 2)])), (tt 2, .inl (dA 0, 84, .inl tw)), (tt 3, .inr (5, [.ref (tt 4)])), (tt 4, .inl (dA 0, 84, .inl tp)), (tt 5, .inr (5, [.ref (tt 6)])), (tt 6, .inl (dA 0, 84, .inl tx))]) hD hS hA [0, 1, 2, 3, 4, 5, 6, 7] rfl
                    refine va_calli (va_runV (As := [.ref (tt 0), .int (nI i22), .int (nI i59)]) (rest := []) ⟨hx, hb, hml, hown, hts⟩ (q_isCouple l D dA E qo qk qa qb qd qw qn tt tw tp tx nm i22 i59 H.size  (by omega) (by omega) (by omega)) (cwV 3 hts (ga_V q427 q428 q425 q414 q426) rfl rfl rfl (by decide +kernel) ⟨(Nat.le_of_ble_eq_true rfl), (Nat.le_of_ble_eq_true rfl)⟩) ⟨pb_blind, va_recv hK hPc (ci := 4) (q0 := 0) rfl rfl, pb_pre hK hPc hDc hZ hS hFc _⟩ rfl rfl hl.1 rfl (lv_room (Nat.le_of_ble_eq_true rfl)) dX1_timesIn_73 ⟨(Nat.le_of_ble_eq_true rfl), (Nat.le_of_ble_eq_true rfl)⟩) hS (fun q _ h => hFc q h) hFc (fun r u t H1 locs ht hvm hw hB hz1 hk1 hS => ?_)
                    refine W.widen (k := 0) (n := 0) (Nat.le_of_ble_eq_true rfl) (Nat.le_of_ble_eq_true rfl) ?_
                    obtain ⟨r13, rfl⟩ : ∃ z, z = r := ⟨_, rfl⟩
                    obtain ⟨u14, rfl⟩ : ∃ z, z = u := ⟨_, rfl⟩
                    have hw15 := hw
                    clear hw
                    obtain ⟨hP1, hD1⟩ := hB
                    rw [ht] at hP1
                    obtain ⟨hP, hD⟩ := va_join (wr := []) (w1 := [(qo, .inr (4, [.int qk, .int qa, .int qb, .int qd, .int qw, .int qn])), (tt 0, .inr (9, [.ref (tt 1), .ref (tt 3), .ref (tt 5), .int (nI nm)])), (tt 1, .inr (5, [.ref (tt 2)])), (tt 2, .inl (dA 0, 84, .inl tw)), (tt 3, .inr (5, [.ref (tt 4)])), (tt 4, .inl (dA 0, 84, .inl tp)), (tt 5, .inr (5, [.ref (tt 6)])), (tt 6, .inl (dA 0, 84, .inl tx))]) hP hD [0, 1, 2, 3, 4, 5, 6, 7] [] rfl rfl (by decide) (by decide) hk1 hFc hP1 hD1
                    generalize H1 = H at hP hS ⊢
                    have hP : va_P D vwCl [(qo, .inr (4, [.int qk, .int qa, .int qb, .int qd, .int qw, .int qn])), (tt 0, .inr (9, [.ref (tt 1), .ref (tt 3), .ref (tt 5), .int (nI nm)])), (tt 1, .inr (5, [.ref (tt 2)])), (tt 2, .inl (dA 0, 84, .inl tw)), (tt 3, .inr (5, [.ref (tt 4)])), (tt 4, .inl (dA 0, 84, .inl tp)), (tt 5, .inr (5, [.ref (tt 6)])), (tt 6, .inl (dA 0, 84, .inl tx))] H := hP
                    have hD : va_D A [(qo, .inr (4, [.int qk, .int qa, .int qb, .int qd, .int qw, .int qn])), (tt 0, .inr (9, [.ref (tt 1), .ref (tt 3), .ref (tt 5), .int (nI nm)])), (tt 1, .inr (5, [.ref (tt 2)])), (tt 2, .inl (dA 0, 84, .inl tw)), (tt 3, .inr (5, [.ref (tt 4)])), (tt 4, .inl (dA 0, 84, .inl tp)), (tt 5, .inr (5, [.ref (tt 6)])), (tt 6, .inl (dA 0, 84, .inl tx))] := hD
                    refine bt (b := (icB qk qb qd tw tp i22 i59)) ?_ ?_
                    · intro hB16
                      obtain rfl : r13 = 1 := hw15.trans (by rw [hB16]; rfl)
                      refine lv_if_eq (tgt := 91) hx hb dX1_timesIn_76 (by decide) (fun c17 => absurd c17 (by decide)) (fun _ => ?_)
                      refine lv_aload_n hx hb dX1_timesIn_79 rfl (lv_at hl 4 rfl) ?_
                      refine lv_iload hx hb dX1_timesIn_80 (lv_at hl 0 rfl) ?_
                      have hPc := hP.sub (ws' := [(tt 0, .inr (9, [.ref (tt 1), .ref (tt 3), .ref (tt 5), .int (nI nm)])), (tt 1, .inr (5, [.ref (tt 2)])), (tt 2, .inl (dA 0, 84, .inl tw)), (tt 3, .inr (5, [.ref (tt 4)])), (tt 4, .inl (dA 0, 84, .inl tp)), (tt 5, .inr (5, [.ref (tt 6)])), (tt 6, .inl (dA 0, 84, .inl tx))]) [1, 2, 3, 4, 5, 6, 7] rfl
                      have hDc := hD.sub (ws' := [(tt 0, .inr (9, [.ref (tt 1), .ref (tt 3), .ref (tt 5), .int (nI nm)])), (tt 1, .inr (5, [.ref (tt 2)])), (tt 2, .inl (dA 0, 84, .inl tw)), (tt 3, .inr (5, [.ref (tt 4)])), (tt 4, .inl (dA 0, 84, .inl tp)), (tt 5, .inr (5, [.ref (tt 6)])), (tt 6, .inl (dA 0, 84, .inl tx))]) [1, 2, 3, 4, 5, 6, 7] (by decide) rfl
                      have hFc := va_free (wc := [(tt 0, .inr (9, [.ref (tt 1), .ref (tt 3), .ref (tt 5), .int (nI nm)])), (tt 1, .inr (5, [.ref (tt 2)])), (tt 2, .inl (dA 0, 84, .inl tw)), (tt 3, .inr (5, [.ref (tt 4)])), (tt 4, .inl (dA 0, 84, .inl tp)), (tt 5, .inr (5, [.ref (tt 6)])), (tt 6, .inl (dA 0, 84, .inl tx))]) hD hS hA [1, 2, 3, 4, 5, 6, 7] rfl
                      refine va_calli (va_runV (As := [.int (nI i59)]) (rest := []) ⟨hx, hb, hml, hown, hts⟩ (t_isFirstAtPlace l D dA E tt tw tp tx nm i59 H.size  (by omega) (by omega)) (cwV 1 hts (ga_V q423 q424 q421 q218 q422) rfl rfl rfl (by decide +kernel) ⟨(Nat.le_of_ble_eq_true rfl), (Nat.le_of_ble_eq_true rfl)⟩) ⟨pb_blind, va_recv hK hPc (ci := 9) (q0 := 0) rfl rfl, pb_pre hK hPc hDc hZ hS hFc _⟩ rfl rfl hl.1 rfl (lv_room (Nat.le_of_ble_eq_true rfl)) dX1_timesIn_82 ⟨(Nat.le_of_ble_eq_true rfl), (Nat.le_of_ble_eq_true rfl)⟩) hS (fun q _ h => hFc q h) hFc (fun r u t H1 locs ht hvm hw hB hz1 hk1 hS => ?_)
                      refine W.widen (k := 0) (n := 0) (Nat.le_of_ble_eq_true rfl) (Nat.le_of_ble_eq_true rfl) ?_
                      obtain ⟨r18, rfl⟩ : ∃ z, z = r := ⟨_, rfl⟩
                      obtain ⟨u19, rfl⟩ : ∃ z, z = u := ⟨_, rfl⟩
                      have hw20 := hw
                      clear hw
                      obtain ⟨hP1, hD1⟩ := hB
                      rw [ht] at hP1
                      obtain ⟨hP, hD⟩ := va_join (wr := [(qo, .inr (4, [.int qk, .int qa, .int qb, .int qd, .int qw, .int qn]))]) (w1 := [(tt 0, .inr (9, [.ref (tt 1), .ref (tt 3), .ref (tt 5), .int (nI nm)])), (tt 1, .inr (5, [.ref (tt 2)])), (tt 2, .inl (dA 0, 84, .inl tw)), (tt 3, .inr (5, [.ref (tt 4)])), (tt 4, .inl (dA 0, 84, .inl tp)), (tt 5, .inr (5, [.ref (tt 6)])), (tt 6, .inl (dA 0, 84, .inl tx))]) hP hD [1, 2, 3, 4, 5, 6, 7] [0] rfl rfl (by decide) (by decide) hk1 hFc hP1 hD1
                      generalize H1 = H at hP hS ⊢
                      have hP : va_P D vwCl [(qo, .inr (4, [.int qk, .int qa, .int qb, .int qd, .int qw, .int qn])), (tt 0, .inr (9, [.ref (tt 1), .ref (tt 3), .ref (tt 5), .int (nI nm)])), (tt 1, .inr (5, [.ref (tt 2)])), (tt 2, .inl (dA 0, 84, .inl tw)), (tt 3, .inr (5, [.ref (tt 4)])), (tt 4, .inl (dA 0, 84, .inl tp)), (tt 5, .inr (5, [.ref (tt 6)])), (tt 6, .inl (dA 0, 84, .inl tx))] H := hP
                      have hD : va_D A [(qo, .inr (4, [.int qk, .int qa, .int qb, .int qd, .int qw, .int qn])), (tt 0, .inr (9, [.ref (tt 1), .ref (tt 3), .ref (tt 5), .int (nI nm)])), (tt 1, .inr (5, [.ref (tt 2)])), (tt 2, .inl (dA 0, 84, .inl tw)), (tt 3, .inr (5, [.ref (tt 4)])), (tt 4, .inl (dA 0, 84, .inl tp)), (tt 5, .inr (5, [.ref (tt 6)])), (tt 6, .inl (dA 0, 84, .inl tx))] := hD
                      refine bt (b := (ffB tw tp i59 i59)) ?_ ?_
                      · intro hB21
                        obtain rfl : r18 = 1 := hw20.trans (by rw [hB21]; rfl)
                        refine lv_if_eq (tgt := 91) hx hb dX1_timesIn_85 (by decide) (fun c22 => absurd c22 (by decide)) (fun _ => ?_)
                        refine lv_iinc (v := nI ((tiN qk qa qb qd tw tp nm i22 + cn (icF qk qb qd tw tp i22) i59) + 1)) (lv' := [(2, .int (nI ((tiN qk qa qb qd tw tp nm i22 + cn (icF qk qb qd tw tp i22) i59) + 1))), (4, .int (nI i59)), (3, .int (nI i22)), (0, .ref qo), (1, .ref (tt 0))]) hx hb dX1_timesIn_88 hl (k := 2) rfl (nI_add (tiN qk qa qb qd tw tp nm i22 + cn (icF qk qb qd tw tp i22) i59) 1) (by decide) rfl (fun ls hl => ?_)
                        refine lv_iinc (v := nI (i59 + 1)) (lv' := [(4, .int (nI (i59 + 1))), (2, .int (nI ((tiN qk qa qb qd tw tp nm i22 + cn (icF qk qb qd tw tp i22) i59) + 1))), (3, .int (nI i22)), (0, .ref qo), (1, .ref (tt 0))]) hx hb dX1_timesIn_91 hl (k := 1) rfl (nI_add i59 1) (by decide) rfl (fun ls hl => ?_)
                        refine lv_goto (tgt := 59) hx hb dX1_timesIn_94 (by decide) ?_
                        exact ih59 (i59 + 1) (nI ((tiN qk qa qb qd tw tp nm i22 + cn (icF qk qb qd tw tp i22) i59) + 1)) (by omega) (by omega) (by omega) (ic_y (by simp only [icF, hB16, hB21]; rfl)) _ _ hP hD hS ls (lv_sub hl [0, 2, 1, 3, 4] rfl)
                      · intro hB21
                        obtain rfl : r18 = 0 := hw20.trans (by rw [hB21]; rfl)
                        refine lv_if_eq (tgt := 91) hx hb dX1_timesIn_85 (by decide) (fun _ => ?_) (fun c23 => absurd (by decide) c23)
                        refine lv_iinc (v := nI (i59 + 1)) (lv' := [(4, .int (nI (i59 + 1))), (3, .int (nI i22)), (2, .int (nI (tiN qk qa qb qd tw tp nm i22 + cn (icF qk qb qd tw tp i22) i59))), (0, .ref qo), (1, .ref (tt 0))]) hx hb dX1_timesIn_91 hl (k := 0) rfl (nI_add i59 1) (by decide) rfl (fun ls hl => ?_)
                        refine lv_goto (tgt := 59) hx hb dX1_timesIn_94 (by decide) ?_
                        exact ih59 (i59 + 1) (nI (tiN qk qa qb qd tw tp nm i22 + cn (icF qk qb qd tw tp i22) i59)) (by omega) (by omega) (by omega) (ic_n (by simp only [icF, hB16, hB21]; rfl)) _ _ hP hD hS ls (lv_sub hl [0, 1, 2, 3, 4] rfl)
                    · intro hB16
                      obtain rfl : r13 = 0 := hw15.trans (by rw [hB16]; rfl)
                      refine lv_if_eq (tgt := 91) hx hb dX1_timesIn_76 (by decide) (fun _ => ?_) (fun c24 => absurd (by decide) c24)
                      refine lv_iinc (v := nI (i59 + 1)) (lv' := [(4, .int (nI (i59 + 1))), (3, .int (nI i22)), (2, .int (nI (tiN qk qa qb qd tw tp nm i22 + cn (icF qk qb qd tw tp i22) i59))), (0, .ref qo), (1, .ref (tt 0))]) hx hb dX1_timesIn_91 hl (k := 0) rfl (nI_add i59 1) (by decide) rfl (fun ls hl => ?_)
                      refine lv_goto (tgt := 59) hx hb dX1_timesIn_94 (by decide) ?_
                      exact ih59 (i59 + 1) (nI (tiN qk qa qb qd tw tp nm i22 + cn (icF qk qb qd tw tp i22) i59)) (by omega) (by omega) (by omega) (ic_n (by simp only [icF, hB16, Bool.false_and])) _ _ hP hD hS ls (lv_sub hl [0, 1, 2, 3, 4] rfl)
              exact K59 (nm + 1) 0 (nI (tiN qk qa qb qd tw tp nm i22)) (by omega) (by omega) (by omega) rfl _ _ hP hD hS ls hl
            · intro hB10
              obtain rfl : r7 = 0 := hw9.trans (by rw [hB10]; rfl)
              refine lv_if_ne (tgt := 56) hx hb dX1_timesIn_50 (by decide) (fun c25 => absurd (by decide) c25) (fun _ => ?_)
              refine lv_goto (tgt := 97) hx hb dX1_timesIn_53 (by decide) ?_
              refine lv_iinc (v := nI (i22 + 1)) (lv' := [(3, .int (nI (i22 + 1))), (2, .int (nI (tiN qk qa qb qd tw tp nm i22))), (0, .ref qo), (1, .ref (tt 0))]) hx hb dX1_timesIn_97 hl (k := 0) rfl (nI_add i22 1) (by decide) rfl (fun ls hl => ?_)
              refine lv_goto (tgt := 22) hx hb dX1_timesIn_100 (by decide) ?_
              exact ih22 (i22 + 1) (nI (tiN qk qa qb qd tw tp nm i22)) (by omega) (by omega) (by omega) (ti_n2 hB10) _ _ hP hD hS ls (lv_sub hl [0, 1, 2, 3] rfl)
    exact K22 (nm + 1) 0 0 (by omega) (by omega) (by omega) rfl _ _ hP hD hS ls hl
  · refine lv_aload_n hx hb dX1_timesIn_9 rfl (lv_at hl 1 rfl) ?_
    refine lv_aload_n hx hb dX1_timesIn_10 rfl (lv_at hl 0 rfl) ?_
    refine va_get (D := D) (ci := 4) (v := .int qa) (C := RX1) (T := TX1) (N := 6) hx hb hts inAX1 hown hK hP 0 rfl rfl 1 (by decide) (hts _ q302) (fun _ h9 => h9) rfl dX1_timesIn_11 ?_
    have hPc := hP.sub (ws' := [(tt 0, .inr (9, [.ref (tt 1), .ref (tt 3), .ref (tt 5), .int (nI nm)])), (tt 1, .inr (5, [.ref (tt 2)])), (tt 2, .inl (dA 0, 84, .inl tw)), (tt 3, .inr (5, [.ref (tt 4)])), (tt 4, .inl (dA 0, 84, .inl tp)), (tt 5, .inr (5, [.ref (tt 6)])), (tt 6, .inl (dA 0, 84, .inl tx))]) [1, 2, 3, 4, 5, 6, 7] rfl
    have hDc := hD.sub (ws' := [(tt 0, .inr (9, [.ref (tt 1), .ref (tt 3), .ref (tt 5), .int (nI nm)])), (tt 1, .inr (5, [.ref (tt 2)])), (tt 2, .inl (dA 0, 84, .inl tw)), (tt 3, .inr (5, [.ref (tt 4)])), (tt 4, .inl (dA 0, 84, .inl tp)), (tt 5, .inr (5, [.ref (tt 6)])), (tt 6, .inl (dA 0, 84, .inl tx))]) [1, 2, 3, 4, 5, 6, 7] (by decide) rfl
    have hFc := va_free (wc := [(tt 0, .inr (9, [.ref (tt 1), .ref (tt 3), .ref (tt 5), .int (nI nm)])), (tt 1, .inr (5, [.ref (tt 2)])), (tt 2, .inl (dA 0, 84, .inl tw)), (tt 3, .inr (5, [.ref (tt 4)])), (tt 4, .inl (dA 0, 84, .inl tp)), (tt 5, .inr (5, [.ref (tt 6)])), (tt 6, .inl (dA 0, 84, .inl tx))]) hD hS hA [1, 2, 3, 4, 5, 6, 7] rfl
    refine va_calli (va_runV (As := [.int qa]) (rest := []) ⟨hx, hb, hml, hown, hts⟩ (t_times l D dA E tt tw tp tx nm qa s.heap.size  (by omega)) (cwV 1 hts (ga_V q431 q432 q429 q218 q430) rfl rfl rfl (by decide +kernel) ⟨(Nat.le_of_ble_eq_true rfl), (Nat.le_of_ble_eq_true rfl)⟩) ⟨pb_blind, va_recv hK hPc (ci := 9) (q0 := 0) rfl rfl, pb_pre hK hPc hDc hZ hS hFc _⟩ rfl rfl hl.1 rfl (lv_room (Nat.le_of_ble_eq_true rfl)) dX1_timesIn_14 ⟨(Nat.le_of_ble_eq_true rfl), (Nat.le_of_ble_eq_true rfl)⟩) hS (fun q _ h => hFc q h) hFc (fun r u t H1 locs ht hvm hw hB hz1 hk1 hS => ?_)
    refine W.widen (k := 0) (n := 0) (Nat.le_of_ble_eq_true rfl) (Nat.le_of_ble_eq_true rfl) ?_
    obtain ⟨r26, rfl⟩ : ∃ z, z = r := ⟨_, rfl⟩
    obtain ⟨u27, rfl⟩ : ∃ z, z = u := ⟨_, rfl⟩
    have hw28 := hw
    clear hw
    obtain ⟨hP1, hD1⟩ := hB
    rw [ht] at hP1
    obtain ⟨hP, hD⟩ := va_join (wr := [(qo, .inr (4, [.int qk, .int qa, .int qb, .int qd, .int qw, .int qn]))]) (w1 := [(tt 0, .inr (9, [.ref (tt 1), .ref (tt 3), .ref (tt 5), .int (nI nm)])), (tt 1, .inr (5, [.ref (tt 2)])), (tt 2, .inl (dA 0, 84, .inl tw)), (tt 3, .inr (5, [.ref (tt 4)])), (tt 4, .inl (dA 0, 84, .inl tp)), (tt 5, .inr (5, [.ref (tt 6)])), (tt 6, .inl (dA 0, 84, .inl tx))]) hP hD [1, 2, 3, 4, 5, 6, 7] [0] rfl rfl (by decide) (by decide) hk1 hFc hP1 hD1
    generalize H1 = H at hP hS ⊢
    have hP : va_P D vwCl [(qo, .inr (4, [.int qk, .int qa, .int qb, .int qd, .int qw, .int qn])), (tt 0, .inr (9, [.ref (tt 1), .ref (tt 3), .ref (tt 5), .int (nI nm)])), (tt 1, .inr (5, [.ref (tt 2)])), (tt 2, .inl (dA 0, 84, .inl tw)), (tt 3, .inr (5, [.ref (tt 4)])), (tt 4, .inl (dA 0, 84, .inl tp)), (tt 5, .inr (5, [.ref (tt 6)])), (tt 6, .inl (dA 0, 84, .inl tx))] H := hP
    have hD : va_D A [(qo, .inr (4, [.int qk, .int qa, .int qb, .int qd, .int qw, .int qn])), (tt 0, .inr (9, [.ref (tt 1), .ref (tt 3), .ref (tt 5), .int (nI nm)])), (tt 1, .inr (5, [.ref (tt 2)])), (tt 2, .inl (dA 0, 84, .inl tw)), (tt 3, .inr (5, [.ref (tt 4)])), (tt 4, .inl (dA 0, 84, .inl tp)), (tt 5, .inr (5, [.ref (tt 6)])), (tt 6, .inl (dA 0, 84, .inl tx))] := hD
    obtain rfl : r26 = nI (cn (fun i => decide (tw i = qa)) nm) := hw28
    have hcw28 := cn_le (fun i => decide (tw i = qa)) nm
    refine W.widen (k := 0) (n := 0) (Nat.le_of_ble_eq_true rfl) (Nat.le_of_ble_eq_true rfl) ?_
    have hP9 := hP.sub (ws' := [(qo, .inr (4, [.int qk, .int qa, .int qb, .int qd, .int qw, .int qn])), (tt 0, .inr (9, [.ref (tt 1), .ref (tt 3), .ref (tt 5), .int (nI nm)])), (tt 1, .inr (5, [.ref (tt 2)])), (tt 2, .inl (dA 0, 84, .inl tw)), (tt 3, .inr (5, [.ref (tt 4)])), (tt 4, .inl (dA 0, 84, .inl tp)), (tt 5, .inr (5, [.ref (tt 6)])), (tt 6, .inl (dA 0, 84, .inl tx))]) [0, 1, 2, 3, 4, 5, 6, 7] rfl
    have hD9 := hD.sub (ws' := [(qo, .inr (4, [.int qk, .int qa, .int qb, .int qd, .int qw, .int qn])), (tt 0, .inr (9, [.ref (tt 1), .ref (tt 3), .ref (tt 5), .int (nI nm)])), (tt 1, .inr (5, [.ref (tt 2)])), (tt 2, .inl (dA 0, 84, .inl tw)), (tt 3, .inr (5, [.ref (tt 4)])), (tt 4, .inl (dA 0, 84, .inl tp)), (tt 5, .inr (5, [.ref (tt 6)])), (tt 6, .inl (dA 0, 84, .inl tx))]) [0, 1, 2, 3, 4, 5, 6, 7] (by decide) rfl
    exact W.iret (v := (nI (cn (fun i => decide (tw i = qa)) nm))) hx hb hr (fun t ht hW => ⟨⟨(nI (cn (fun i => decide (tw i = qa)) nm)), (), rfl, (show _ = nI (tiV _ _ _ _ _ _ _) from by rw [tiV, if_pos c1]), ⟨by rw [ht]; exact hP9, hD9⟩⟩, hS.F ht⟩) hS.2.2 dX1_timesIn_17

set_option maxHeartbeats 4000000 in
set_option maxRecDepth 100000 in
theorem q_scoreFor (l : Launch) (D : va_G) (dA : Nat → ClassId) (E : Nat) (qo qw : Nat) (qk qa qb qd qn : Int32) (ts kl ns ms : Nat) (sz : Nat) (ht : ts ≤ 9216) (hk : kl ≤ 96) (hn : ns ≤ 30) (hm : ms ≤ 30) (hw9 : qw ≤ 9)  : Met l yX1_scoreFor (wq (.code yX1_scoreFor cX1_scoreFor 6 (some .int))) { frames := 0, cells := 0, slots := 0, locals := 0 } (va_Pc [.ref qo, .int (nI ts), .int (nI kl), .int (nI ns), .int (nI ms)] (PcB D dA E [(qo, .inr (4, [.int qk, .int qa, .int qb, .int qd, .int (nI qw), .int qn]))] sz)) (va_Qi (fun (r : Int32) (u : Unit) => r = nI (scL ts ns ms kl qw)) (fun u t => va_P D vwCl [(qo, .inr (4, [.int qk, .int qa, .int qb, .int qd, .int (nI qw), .int qn]))] t.heap ∧ va_D (va_A [(qo, .inr (4, [.int qk, .int qa, .int qb, .int qd, .int (nI qw), .int qn]))] sz) [(qo, .inr (4, [.int qk, .int qa, .int qb, .int qd, .int (nI qw), .int qn]))]) (va_A [(qo, .inr (4, [.int qk, .int qa, .int qb, .int qd, .int (nI qw), .int qn]))] sz)) 0 0 (va_A [(qo, .inr (4, [.int qk, .int qa, .int qb, .int qd, .int (nI qw), .int qn]))] sz) := by
  refine mb_of (Qc := fun A => va_Qi (fun (r : Int32) (u : Unit) => r = nI (scL ts ns ms kl qw)) (fun u t => va_P D vwCl [(qo, .inr (4, [.int qk, .int qa, .int qb, .int qd, .int (nI qw), .int qn]))] t.heap ∧ va_D A [(qo, .inr (4, [.int qk, .int qa, .int qb, .int qd, .int (nI qw), .int qn]))]) A) RX1 rfl (by decide) (Nat.le_of_ble_eq_true rfl) ?_
  intro p e s m args below meth c hae hx hb hr hts hown hlocks hml hnm hP hK A hAe hD hZ hS hA ls hl
  have hl : lv_has ls 6 [(0, .ref qo), (1, .int (nI ts)), (2, .int (nI kl)), (3, .int (nI ns)), (4, .int (nI ms))] := hl
  have hdv0 : 0 < (ms + 1) * (kl + 4) := Nat.mul_pos (by omega) (by omega)
  have hdv1 := div31 hm hk
  have hmu := mul31 ht hn
  refine lv_iload hx hb dX1_scoreFor_0 (lv_at hl 4 rfl) ?_
  refine lv_iconst (v := 1) hx hb dX1_scoreFor_2 (by decide) ?_
  refine lv_iadd hx hb dX1_scoreFor_3 ?_
  refine lv_topi (fun x1 ex1 => ?_)
  obtain rfl : x1 = nI (ms + 1) := ex1.trans (nI_add ms 1)
  refine lv_iload_n hx hb dX1_scoreFor_4 rfl (lv_at hl 2 rfl) ?_
  refine lv_iconst (v := 4) hx hb dX1_scoreFor_5 (by decide) ?_
  refine lv_iadd hx hb dX1_scoreFor_6 ?_
  refine lv_topi (fun x2 ex2 => ?_)
  obtain rfl : x2 = nI (kl + 4) := ex2.trans (nI_add kl 4)
  refine lv_imul hx hb dX1_scoreFor_7 ?_
  refine lv_topi (fun x3 ex3 => ?_)
  obtain rfl : x3 = nI ((ms + 1) * (kl + 4)) := ex3.trans (pk_mul (ms + 1) (kl + 4))
  refine lv_istore (lv' := [(5, .int (nI ((ms + 1) * (kl + 4)))), (0, .ref qo), (1, .int (nI ts)), (2, .int (nI kl)), (3, .int (nI ns)), (4, .int (nI ms))]) hx hb dX1_scoreFor_8 hl (by decide) rfl (fun ls hl => ?_)
  refine lv_iload hx hb dX1_scoreFor_10 (lv_at hl 0 rfl) ?_
  refine lv_if_gt (tgt := 17) hx hb dX1_scoreFor_12 (by decide) (fun _ => ?_) (fun c4 => absurd ((nI_ltI (a := 0) (b := ((ms + 1) * (kl + 4))) (by omega) (by omega)).mpr (by omega)) c4)
  refine lv_bipush (v := 100) hx hb dX1_scoreFor_17 (by decide) ?_
  refine lv_iload_n hx hb dX1_scoreFor_19 rfl (lv_at hl 2 rfl) ?_
  refine lv_imul hx hb dX1_scoreFor_20 ?_
  refine lv_topi (fun x5 ex5 => ?_)
  obtain rfl : x5 = nI (100 * ts) := ex5.trans (pk_mul 100 ts)
  refine lv_iload_n hx hb dX1_scoreFor_21 rfl (lv_at hl 4 rfl) ?_
  refine lv_iconst (v := 1) hx hb dX1_scoreFor_22 (by decide) ?_
  refine lv_iadd hx hb dX1_scoreFor_23 ?_
  refine lv_topi (fun x6 ex6 => ?_)
  obtain rfl : x6 = nI (ns + 1) := ex6.trans (nI_add ns 1)
  refine lv_imul hx hb dX1_scoreFor_24 ?_
  refine lv_topi (fun x7 ex7 => ?_)
  obtain rfl : x7 = nI ((100 * ts) * (ns + 1)) := ex7.trans (pk_mul (100 * ts) (ns + 1))
  refine lv_iload hx hb dX1_scoreFor_25 (lv_at hl 0 rfl) ?_
  refine lv_idiv hx hb dX1_scoreFor_27 (nI_ne0 hdv0 hdv1) ?_
  refine lv_topi (fun x8 ex8 => ?_)
  obtain rfl : x8 = nI (((100 * ts) * (ns + 1)) / ((ms + 1) * (kl + 4))) := ex8.trans (pk_div (a := ((100 * ts) * (ns + 1))) (d := ((ms + 1) * (kl + 4))) hmu hdv0 hdv1)
  refine lv_aload_n hx hb dX1_scoreFor_28 rfl (lv_at hl 1 rfl) ?_
  refine va_get (D := D) (ci := 4) (v := .int (nI qw)) (C := RX1) (T := TX1) (N := 6) hx hb hts inAX1 hown hK hP 0 rfl rfl 4 (by decide) (hts _ q305) (fun _ h9 => h9) rfl dX1_scoreFor_29 ?_
  refine lv_imul hx hb dX1_scoreFor_32 ?_
  refine lv_topi (fun x9 ex9 => ?_)
  obtain rfl : x9 = nI ((((100 * ts) * (ns + 1)) / ((ms + 1) * (kl + 4))) * qw) := ex9.trans (pk_mul (((100 * ts) * (ns + 1)) / ((ms + 1) * (kl + 4))) qw)
  refine W.widen (k := 0) (n := 0) (Nat.le_of_ble_eq_true rfl) (Nat.le_of_ble_eq_true rfl) ?_
  have hP9 := hP.sub (ws' := [(qo, .inr (4, [.int qk, .int qa, .int qb, .int qd, .int (nI qw), .int qn]))]) [0] rfl
  have hD9 := hD.sub (ws' := [(qo, .inr (4, [.int qk, .int qa, .int qb, .int qd, .int (nI qw), .int qn]))]) [0] (by decide) rfl
  exact W.iret (v := (nI ((((100 * ts) * (ns + 1)) / ((ms + 1) * (kl + 4))) * qw))) hx hb hr (fun t ht hW => ⟨⟨(nI ((((100 * ts) * (ns + 1)) / ((ms + 1) * (kl + 4))) * qw)), (), rfl, rfl, ⟨by rw [ht]; exact hP9, hD9⟩⟩, hS.F ht⟩) hS.2.2 dX1_scoreFor_33

set_option maxHeartbeats 4000000 in
set_option maxRecDepth 100000 in
theorem q_joinScores (l : Launch) (D : va_G) (dA : Nat → ClassId) (E : Nat) (qo : Nat) (qk qa qb qd qw qn : Int32) (p0 p1 : Int32) (sz : Nat)   : Met l yX1_joinScores (wq (.code yX1_joinScores cX1_joinScores 4 (some .int))) { frames := 0, cells := 0, slots := 0, locals := 0 } (va_Pc [.ref qo, .int p0, .int p1] (PcB D dA E [(qo, .inr (4, [.int qk, .int qa, .int qb, .int qd, .int qw, .int qn]))] sz)) (va_Qi (fun (r : Int32) (u : Unit) => r = jsF qk p0 p1) (fun u t => va_P D vwCl [(qo, .inr (4, [.int qk, .int qa, .int qb, .int qd, .int qw, .int qn]))] t.heap ∧ va_D (va_A [(qo, .inr (4, [.int qk, .int qa, .int qb, .int qd, .int qw, .int qn]))] sz) [(qo, .inr (4, [.int qk, .int qa, .int qb, .int qd, .int qw, .int qn]))]) (va_A [(qo, .inr (4, [.int qk, .int qa, .int qb, .int qd, .int qw, .int qn]))] sz)) 0 0 (va_A [(qo, .inr (4, [.int qk, .int qa, .int qb, .int qd, .int qw, .int qn]))] sz) := by
  refine mb_of (Qc := fun A => va_Qi (fun (r : Int32) (u : Unit) => r = jsF qk p0 p1) (fun u t => va_P D vwCl [(qo, .inr (4, [.int qk, .int qa, .int qb, .int qd, .int qw, .int qn]))] t.heap ∧ va_D A [(qo, .inr (4, [.int qk, .int qa, .int qb, .int qd, .int qw, .int qn]))]) A) RX1 rfl (by decide) (Nat.le_of_ble_eq_true rfl) ?_
  intro p e s m args below meth c hae hx hb hr hts hown hlocks hml hnm hP hK A hAe hD hZ hS hA ls hl
  have hl : lv_has ls 4 [(0, .ref qo), (1, .int p0), (2, .int p1)] := hl
  refine lv_iload_n hx hb dX1_joinScores_0 rfl (lv_at hl 1 rfl) ?_
  refine lv_iconst (v := (-1)) hx hb dX1_joinScores_1 (by decide) ?_
  refine lv_icmp_eq (tgt := 14) hx hb dX1_joinScores_2 (by decide) (fun c1 => ?_) (fun c1 => ?_)
  · refine lv_iconst (v := 0) hx hb dX1_joinScores_14 (by decide) ?_
    refine lv_istore_n (lv' := [(3, .int 0), (0, .ref qo), (1, .int p0), (2, .int p1)]) hx hb dX1_joinScores_15 rfl hl (by decide) rfl (fun ls hl => ?_)
    refine lv_aload_n hx hb dX1_joinScores_16 rfl (lv_at hl 1 rfl) ?_
    refine va_get (D := D) (ci := 4) (v := .int qk) (C := RX1) (T := TX1) (N := 6) hx hb hts inAX1 hown hK hP 0 rfl rfl 0 (by decide) (hts _ q301) (fun _ h9 => h9) rfl dX1_joinScores_17 ?_
    refine lv_bipush (v := 120) hx hb dX1_joinScores_20 (by decide) ?_
    refine lv_icmp_ne (tgt := 36) hx hb dX1_joinScores_22 (by decide) (fun c2 => ?_) (fun c2 => ?_)
    · refine lv_iload_n hx hb dX1_joinScores_36 rfl (lv_at hl 0 rfl) ?_
      refine lv_if_eq (tgt := 44) hx hb dX1_joinScores_37 (by decide) (fun _ => ?_) (fun c3 => absurd (by decide) c3)
      refine lv_aload_n hx hb dX1_joinScores_44 rfl (lv_at hl 1 rfl) ?_
      refine va_get (D := D) (ci := 4) (v := .int qk) (C := RX1) (T := TX1) (N := 6) hx hb hts inAX1 hown hK hP 0 rfl rfl 0 (by decide) (hts _ q301) (fun _ h9 => h9) rfl dX1_joinScores_45 ?_
      refine lv_bipush (v := 97) hx hb dX1_joinScores_48 (by decide) ?_
      refine lv_icmp_ne (tgt := 55) hx hb dX1_joinScores_50 (by decide) (fun c4 => ?_) (fun c4 => ?_)
      · refine lv_aload_n hx hb dX1_joinScores_55 rfl (lv_at hl 1 rfl) ?_
        refine va_get (D := D) (ci := 4) (v := .int qk) (C := RX1) (T := TX1) (N := 6) hx hb hts inAX1 hown hK hP 0 rfl rfl 0 (by decide) (hts _ q301) (fun _ h9 => h9) rfl dX1_joinScores_56 ?_
        refine lv_bipush (v := 105) hx hb dX1_joinScores_59 (by decide) ?_
        refine lv_icmp_ne (tgt := 66) hx hb dX1_joinScores_61 (by decide) (fun c5 => ?_) (fun c5 => ?_)
        · refine lv_iload_n hx hb dX1_joinScores_66 rfl (lv_at hl 2 rfl) ?_
          refine lv_iconst (v := (-1)) hx hb dX1_joinScores_67 (by decide) ?_
          refine lv_icmp_ne (tgt := 75) hx hb dX1_joinScores_68 (by decide) (fun c6 => absurd c1 c6) (fun _ => ?_)
          refine lv_iload_n hx hb dX1_joinScores_71 rfl (lv_at hl 3 rfl) ?_
          refine lv_goto (tgt := 76) hx hb dX1_joinScores_72 (by decide) ?_
          refine W.widen (k := 0) (n := 0) (Nat.le_of_ble_eq_true rfl) (Nat.le_of_ble_eq_true rfl) ?_
          have hP9 := hP.sub (ws' := [(qo, .inr (4, [.int qk, .int qa, .int qb, .int qd, .int qw, .int qn]))]) [0] rfl
          have hD9 := hD.sub (ws' := [(qo, .inr (4, [.int qk, .int qa, .int qb, .int qd, .int qw, .int qn]))]) [0] (by decide) rfl
          exact W.iret (v := p1) hx hb hr (fun t ht hW => ⟨⟨p1, (), rfl, (show _ = jsF qk p0 p1 from by simp [jsF, c1, c2, c4, c5]), ⟨by rw [ht]; exact hP9, hD9⟩⟩, hS.F ht⟩) hS.2.2 dX1_joinScores_76
        · refine lv_iload_n hx hb dX1_joinScores_64 rfl (lv_at hl 2 rfl) ?_
          refine W.widen (k := 0) (n := 0) (Nat.le_of_ble_eq_true rfl) (Nat.le_of_ble_eq_true rfl) ?_
          have hP9 := hP.sub (ws' := [(qo, .inr (4, [.int qk, .int qa, .int qb, .int qd, .int qw, .int qn]))]) [0] rfl
          have hD9 := hD.sub (ws' := [(qo, .inr (4, [.int qk, .int qa, .int qb, .int qd, .int qw, .int qn]))]) [0] (by decide) rfl
          exact W.iret (v := p0) hx hb hr (fun t ht hW => ⟨⟨p0, (), rfl, (show _ = jsF qk p0 p1 from by simp [jsF, c1, c2, c4, c5]), ⟨by rw [ht]; exact hP9, hD9⟩⟩, hS.F ht⟩) hS.2.2 dX1_joinScores_65
      · refine lv_iconst (v := (-1)) hx hb dX1_joinScores_53 (by decide) ?_
        refine W.widen (k := 0) (n := 0) (Nat.le_of_ble_eq_true rfl) (Nat.le_of_ble_eq_true rfl) ?_
        have hP9 := hP.sub (ws' := [(qo, .inr (4, [.int qk, .int qa, .int qb, .int qd, .int qw, .int qn]))]) [0] rfl
        have hD9 := hD.sub (ws' := [(qo, .inr (4, [.int qk, .int qa, .int qb, .int qd, .int qw, .int qn]))]) [0] (by decide) rfl
        exact W.iret (v := (-1)) hx hb hr (fun t ht hW => ⟨⟨(-1), (), rfl, (show _ = jsF qk p0 p1 from by simp [jsF, c1, c2, c4]), ⟨by rw [ht]; exact hP9, hD9⟩⟩, hS.F ht⟩) hS.2.2 dX1_joinScores_54
    · refine lv_iload_n hx hb dX1_joinScores_25 rfl (lv_at hl 3 rfl) ?_
      refine lv_iconst (v := (-1)) hx hb dX1_joinScores_26 (by decide) ?_
      refine lv_icmp_ne (tgt := 34) hx hb dX1_joinScores_27 (by decide) (fun c7 => ?_) (fun c7 => ?_)
      · refine lv_iconst (v := (-1)) hx hb dX1_joinScores_34 (by decide) ?_
        refine W.widen (k := 0) (n := 0) (Nat.le_of_ble_eq_true rfl) (Nat.le_of_ble_eq_true rfl) ?_
        have hP9 := hP.sub (ws' := [(qo, .inr (4, [.int qk, .int qa, .int qb, .int qd, .int qw, .int qn]))]) [0] rfl
        have hD9 := hD.sub (ws' := [(qo, .inr (4, [.int qk, .int qa, .int qb, .int qd, .int qw, .int qn]))]) [0] (by decide) rfl
        exact W.iret (v := (-1)) hx hb hr (fun t ht hW => ⟨⟨(-1), (), rfl, (show _ = jsF qk p0 p1 from by simp [jsF, c1, c2, c7]), ⟨by rw [ht]; exact hP9, hD9⟩⟩, hS.F ht⟩) hS.2.2 dX1_joinScores_35
      · refine lv_iload_n hx hb dX1_joinScores_30 rfl (lv_at hl 2 rfl) ?_
        refine lv_goto (tgt := 35) hx hb dX1_joinScores_31 (by decide) ?_
        refine W.widen (k := 0) (n := 0) (Nat.le_of_ble_eq_true rfl) (Nat.le_of_ble_eq_true rfl) ?_
        have hP9 := hP.sub (ws' := [(qo, .inr (4, [.int qk, .int qa, .int qb, .int qd, .int qw, .int qn]))]) [0] rfl
        have hD9 := hD.sub (ws' := [(qo, .inr (4, [.int qk, .int qa, .int qb, .int qd, .int qw, .int qn]))]) [0] (by decide) rfl
        exact W.iret (v := p0) hx hb hr (fun t ht hW => ⟨⟨p0, (), rfl, (show _ = jsF qk p0 p1 from by simp [jsF, c1, c2, c7]), ⟨by rw [ht]; exact hP9, hD9⟩⟩, hS.F ht⟩) hS.2.2 dX1_joinScores_35
  · refine lv_iload_n hx hb dX1_joinScores_5 rfl (lv_at hl 2 rfl) ?_
    refine lv_iconst (v := (-1)) hx hb dX1_joinScores_6 (by decide) ?_
    refine lv_icmp_eq (tgt := 14) hx hb dX1_joinScores_7 (by decide) (fun c8 => ?_) (fun c8 => ?_)
    · refine lv_iconst (v := 0) hx hb dX1_joinScores_14 (by decide) ?_
      refine lv_istore_n (lv' := [(3, .int 0), (0, .ref qo), (1, .int p0), (2, .int p1)]) hx hb dX1_joinScores_15 rfl hl (by decide) rfl (fun ls hl => ?_)
      refine lv_aload_n hx hb dX1_joinScores_16 rfl (lv_at hl 1 rfl) ?_
      refine va_get (D := D) (ci := 4) (v := .int qk) (C := RX1) (T := TX1) (N := 6) hx hb hts inAX1 hown hK hP 0 rfl rfl 0 (by decide) (hts _ q301) (fun _ h9 => h9) rfl dX1_joinScores_17 ?_
      refine lv_bipush (v := 120) hx hb dX1_joinScores_20 (by decide) ?_
      refine lv_icmp_ne (tgt := 36) hx hb dX1_joinScores_22 (by decide) (fun c9 => ?_) (fun c9 => ?_)
      · refine lv_iload_n hx hb dX1_joinScores_36 rfl (lv_at hl 0 rfl) ?_
        refine lv_if_eq (tgt := 44) hx hb dX1_joinScores_37 (by decide) (fun _ => ?_) (fun c10 => absurd (by decide) c10)
        refine lv_aload_n hx hb dX1_joinScores_44 rfl (lv_at hl 1 rfl) ?_
        refine va_get (D := D) (ci := 4) (v := .int qk) (C := RX1) (T := TX1) (N := 6) hx hb hts inAX1 hown hK hP 0 rfl rfl 0 (by decide) (hts _ q301) (fun _ h9 => h9) rfl dX1_joinScores_45 ?_
        refine lv_bipush (v := 97) hx hb dX1_joinScores_48 (by decide) ?_
        refine lv_icmp_ne (tgt := 55) hx hb dX1_joinScores_50 (by decide) (fun c11 => ?_) (fun c11 => ?_)
        · refine lv_aload_n hx hb dX1_joinScores_55 rfl (lv_at hl 1 rfl) ?_
          refine va_get (D := D) (ci := 4) (v := .int qk) (C := RX1) (T := TX1) (N := 6) hx hb hts inAX1 hown hK hP 0 rfl rfl 0 (by decide) (hts _ q301) (fun _ h9 => h9) rfl dX1_joinScores_56 ?_
          refine lv_bipush (v := 105) hx hb dX1_joinScores_59 (by decide) ?_
          refine lv_icmp_ne (tgt := 66) hx hb dX1_joinScores_61 (by decide) (fun c12 => ?_) (fun c12 => ?_)
          · refine lv_iload_n hx hb dX1_joinScores_66 rfl (lv_at hl 2 rfl) ?_
            refine lv_iconst (v := (-1)) hx hb dX1_joinScores_67 (by decide) ?_
            refine lv_icmp_ne (tgt := 75) hx hb dX1_joinScores_68 (by decide) (fun _ => ?_) (fun c13 => absurd c13 c1)
            refine lv_iload_n hx hb dX1_joinScores_75 rfl (lv_at hl 2 rfl) ?_
            refine W.widen (k := 0) (n := 0) (Nat.le_of_ble_eq_true rfl) (Nat.le_of_ble_eq_true rfl) ?_
            have hP9 := hP.sub (ws' := [(qo, .inr (4, [.int qk, .int qa, .int qb, .int qd, .int qw, .int qn]))]) [0] rfl
            have hD9 := hD.sub (ws' := [(qo, .inr (4, [.int qk, .int qa, .int qb, .int qd, .int qw, .int qn]))]) [0] (by decide) rfl
            exact W.iret (v := p0) hx hb hr (fun t ht hW => ⟨⟨p0, (), rfl, (show _ = jsF qk p0 p1 from by simp [jsF, c1, c8, c9, c11, c12]), ⟨by rw [ht]; exact hP9, hD9⟩⟩, hS.F ht⟩) hS.2.2 dX1_joinScores_76
          · refine lv_iload_n hx hb dX1_joinScores_64 rfl (lv_at hl 2 rfl) ?_
            refine W.widen (k := 0) (n := 0) (Nat.le_of_ble_eq_true rfl) (Nat.le_of_ble_eq_true rfl) ?_
            have hP9 := hP.sub (ws' := [(qo, .inr (4, [.int qk, .int qa, .int qb, .int qd, .int qw, .int qn]))]) [0] rfl
            have hD9 := hD.sub (ws' := [(qo, .inr (4, [.int qk, .int qa, .int qb, .int qd, .int qw, .int qn]))]) [0] (by decide) rfl
            exact W.iret (v := p0) hx hb hr (fun t ht hW => ⟨⟨p0, (), rfl, (show _ = jsF qk p0 p1 from by simp [jsF, c1, c8, c9, c11, c12]), ⟨by rw [ht]; exact hP9, hD9⟩⟩, hS.F ht⟩) hS.2.2 dX1_joinScores_65
        · refine lv_iconst (v := (-1)) hx hb dX1_joinScores_53 (by decide) ?_
          refine W.widen (k := 0) (n := 0) (Nat.le_of_ble_eq_true rfl) (Nat.le_of_ble_eq_true rfl) ?_
          have hP9 := hP.sub (ws' := [(qo, .inr (4, [.int qk, .int qa, .int qb, .int qd, .int qw, .int qn]))]) [0] rfl
          have hD9 := hD.sub (ws' := [(qo, .inr (4, [.int qk, .int qa, .int qb, .int qd, .int qw, .int qn]))]) [0] (by decide) rfl
          exact W.iret (v := (-1)) hx hb hr (fun t ht hW => ⟨⟨(-1), (), rfl, (show _ = jsF qk p0 p1 from by simp [jsF, c1, c8, c9, c11]), ⟨by rw [ht]; exact hP9, hD9⟩⟩, hS.F ht⟩) hS.2.2 dX1_joinScores_54
      · refine lv_iload_n hx hb dX1_joinScores_25 rfl (lv_at hl 3 rfl) ?_
        refine lv_iconst (v := (-1)) hx hb dX1_joinScores_26 (by decide) ?_
        refine lv_icmp_ne (tgt := 34) hx hb dX1_joinScores_27 (by decide) (fun c14 => absurd c8 c14) (fun _ => ?_)
        refine lv_iload_n hx hb dX1_joinScores_30 rfl (lv_at hl 2 rfl) ?_
        refine lv_goto (tgt := 35) hx hb dX1_joinScores_31 (by decide) ?_
        refine W.widen (k := 0) (n := 0) (Nat.le_of_ble_eq_true rfl) (Nat.le_of_ble_eq_true rfl) ?_
        have hP9 := hP.sub (ws' := [(qo, .inr (4, [.int qk, .int qa, .int qb, .int qd, .int qw, .int qn]))]) [0] rfl
        have hD9 := hD.sub (ws' := [(qo, .inr (4, [.int qk, .int qa, .int qb, .int qd, .int qw, .int qn]))]) [0] (by decide) rfl
        exact W.iret (v := p0) hx hb hr (fun t ht hW => ⟨⟨p0, (), rfl, (show _ = jsF qk p0 p1 from by simp [jsF, c1, c8, c9]), ⟨by rw [ht]; exact hP9, hD9⟩⟩, hS.F ht⟩) hS.2.2 dX1_joinScores_35
    · refine lv_iconst (v := 1) hx hb dX1_joinScores_10 (by decide) ?_
      refine lv_goto (tgt := 15) hx hb dX1_joinScores_11 (by decide) ?_
      refine lv_istore_n (lv' := [(3, .int 1), (0, .ref qo), (1, .int p0), (2, .int p1)]) hx hb dX1_joinScores_15 rfl hl (by decide) rfl (fun ls hl => ?_)
      refine lv_aload_n hx hb dX1_joinScores_16 rfl (lv_at hl 1 rfl) ?_
      refine va_get (D := D) (ci := 4) (v := .int qk) (C := RX1) (T := TX1) (N := 6) hx hb hts inAX1 hown hK hP 0 rfl rfl 0 (by decide) (hts _ q301) (fun _ h9 => h9) rfl dX1_joinScores_17 ?_
      refine lv_bipush (v := 120) hx hb dX1_joinScores_20 (by decide) ?_
      refine lv_icmp_ne (tgt := 36) hx hb dX1_joinScores_22 (by decide) (fun c15 => ?_) (fun c15 => ?_)
      · refine lv_iload_n hx hb dX1_joinScores_36 rfl (lv_at hl 0 rfl) ?_
        refine lv_if_eq (tgt := 44) hx hb dX1_joinScores_37 (by decide) (fun c16 => absurd c16 (by decide)) (fun _ => ?_)
        refine lv_iload_n hx hb dX1_joinScores_40 rfl (lv_at hl 2 rfl) ?_
        refine lv_iload_n hx hb dX1_joinScores_41 rfl (lv_at hl 3 rfl) ?_
        refine lv_iadd hx hb dX1_joinScores_42 ?_
        refine W.widen (k := 0) (n := 0) (Nat.le_of_ble_eq_true rfl) (Nat.le_of_ble_eq_true rfl) ?_
        have hP9 := hP.sub (ws' := [(qo, .inr (4, [.int qk, .int qa, .int qb, .int qd, .int qw, .int qn]))]) [0] rfl
        have hD9 := hD.sub (ws' := [(qo, .inr (4, [.int qk, .int qa, .int qb, .int qd, .int qw, .int qn]))]) [0] (by decide) rfl
        exact W.iret (v := (p0 + p1)) hx hb hr (fun t ht hW => ⟨⟨(p0 + p1), (), rfl, (show _ = jsF qk p0 p1 from by simp [jsF, c1, c8, c15]), ⟨by rw [ht]; exact hP9, hD9⟩⟩, hS.F ht⟩) hS.2.2 dX1_joinScores_43
      · refine lv_iload_n hx hb dX1_joinScores_25 rfl (lv_at hl 3 rfl) ?_
        refine lv_iconst (v := (-1)) hx hb dX1_joinScores_26 (by decide) ?_
        refine lv_icmp_ne (tgt := 34) hx hb dX1_joinScores_27 (by decide) (fun _ => ?_) (fun c17 => absurd c17 c8)
        refine lv_iconst (v := (-1)) hx hb dX1_joinScores_34 (by decide) ?_
        refine W.widen (k := 0) (n := 0) (Nat.le_of_ble_eq_true rfl) (Nat.le_of_ble_eq_true rfl) ?_
        have hP9 := hP.sub (ws' := [(qo, .inr (4, [.int qk, .int qa, .int qb, .int qd, .int qw, .int qn]))]) [0] rfl
        have hD9 := hD.sub (ws' := [(qo, .inr (4, [.int qk, .int qa, .int qb, .int qd, .int qw, .int qn]))]) [0] (by decide) rfl
        exact W.iret (v := (-1)) hx hb hr (fun t ht hW => ⟨⟨(-1), (), rfl, (show _ = jsF qk p0 p1 from by simp [jsF, c1, c8, c15]), ⟨by rw [ht]; exact hP9, hD9⟩⟩, hS.F ht⟩) hS.2.2 dX1_joinScores_35

set_option maxHeartbeats 4000000 in
set_option maxRecDepth 100000 in
theorem q_markCouples (l : Launch) (D : va_G) (dA : Nat → ClassId) (E : Nat) (qo : Nat) (qk qa qb qd qw qn : Int32) (tt : Nat → Nat) (tw tp tx : Nat → Int32) (nm : Nat) (ki : Nat) (h r0 : Nat) (mm : Nat → Int32) (sz : Nat) (hnm : nm ≤ 84) (hki : ki < 84)  : Met l yX1_markCouples (wq (.code yX1_markCouples cX1_markCouples 5 none)) { frames := 2, cells := 0, slots := 0, locals := 45 } (va_Pc [.ref qo, .ref (tt 0), .int (nI ki), .ref h] (PcB D dA E [(qo, .inr (4, [.int qk, .int qa, .int qb, .int qd, .int qw, .int qn])), (tt 0, .inr (9, [.ref (tt 1), .ref (tt 3), .ref (tt 5), .int (nI nm)])), (tt 1, .inr (5, [.ref (tt 2)])), (tt 2, .inl (dA 0, 84, .inl tw)), (tt 3, .inr (5, [.ref (tt 4)])), (tt 4, .inl (dA 0, 84, .inl tp)), (tt 5, .inr (5, [.ref (tt 6)])), (tt 6, .inl (dA 0, 84, .inl tx)), (h, .inr (5, [.ref r0])), (r0, .inl (dA 0, 12, .inl mm))] sz)) (va_Qv (fun (u : Nat → Int32) => True) (fun u t => va_P D vwCl [(qo, .inr (4, [.int qk, .int qa, .int qb, .int qd, .int qw, .int qn])), (tt 0, .inr (9, [.ref (tt 1), .ref (tt 3), .ref (tt 5), .int (nI nm)])), (tt 1, .inr (5, [.ref (tt 2)])), (tt 2, .inl (dA 0, 84, .inl tw)), (tt 3, .inr (5, [.ref (tt 4)])), (tt 4, .inl (dA 0, 84, .inl tp)), (tt 5, .inr (5, [.ref (tt 6)])), (tt 6, .inl (dA 0, 84, .inl tx)), (h, .inr (5, [.ref r0])), (r0, .inl (dA 0, 12, .inl u))] t.heap ∧ va_D (va_A [(qo, .inr (4, [.int qk, .int qa, .int qb, .int qd, .int qw, .int qn])), (tt 0, .inr (9, [.ref (tt 1), .ref (tt 3), .ref (tt 5), .int (nI nm)])), (tt 1, .inr (5, [.ref (tt 2)])), (tt 2, .inl (dA 0, 84, .inl tw)), (tt 3, .inr (5, [.ref (tt 4)])), (tt 4, .inl (dA 0, 84, .inl tp)), (tt 5, .inr (5, [.ref (tt 6)])), (tt 6, .inl (dA 0, 84, .inl tx)), (h, .inr (5, [.ref r0])), (r0, .inl (dA 0, 12, .inl mm))] sz) [(qo, .inr (4, [.int qk, .int qa, .int qb, .int qd, .int qw, .int qn])), (tt 0, .inr (9, [.ref (tt 1), .ref (tt 3), .ref (tt 5), .int (nI nm)])), (tt 1, .inr (5, [.ref (tt 2)])), (tt 2, .inl (dA 0, 84, .inl tw)), (tt 3, .inr (5, [.ref (tt 4)])), (tt 4, .inl (dA 0, 84, .inl tp)), (tt 5, .inr (5, [.ref (tt 6)])), (tt 6, .inl (dA 0, 84, .inl tx)), (h, .inr (5, [.ref r0])), (r0, .inl (dA 0, 12, .inl u))]) (va_A [(qo, .inr (4, [.int qk, .int qa, .int qb, .int qd, .int qw, .int qn])), (tt 0, .inr (9, [.ref (tt 1), .ref (tt 3), .ref (tt 5), .int (nI nm)])), (tt 1, .inr (5, [.ref (tt 2)])), (tt 2, .inl (dA 0, 84, .inl tw)), (tt 3, .inr (5, [.ref (tt 4)])), (tt 4, .inl (dA 0, 84, .inl tp)), (tt 5, .inr (5, [.ref (tt 6)])), (tt 6, .inl (dA 0, 84, .inl tx)), (h, .inr (5, [.ref r0])), (r0, .inl (dA 0, 12, .inl mm))] sz)) 0 0 (va_A [(qo, .inr (4, [.int qk, .int qa, .int qb, .int qd, .int qw, .int qn])), (tt 0, .inr (9, [.ref (tt 1), .ref (tt 3), .ref (tt 5), .int (nI nm)])), (tt 1, .inr (5, [.ref (tt 2)])), (tt 2, .inl (dA 0, 84, .inl tw)), (tt 3, .inr (5, [.ref (tt 4)])), (tt 4, .inl (dA 0, 84, .inl tp)), (tt 5, .inr (5, [.ref (tt 6)])), (tt 6, .inl (dA 0, 84, .inl tx)), (h, .inr (5, [.ref r0])), (r0, .inl (dA 0, 12, .inl mm))] sz) := by
  refine mb_of (Qc := fun A => va_Qv (fun (u : Nat → Int32) => True) (fun u t => va_P D vwCl [(qo, .inr (4, [.int qk, .int qa, .int qb, .int qd, .int qw, .int qn])), (tt 0, .inr (9, [.ref (tt 1), .ref (tt 3), .ref (tt 5), .int (nI nm)])), (tt 1, .inr (5, [.ref (tt 2)])), (tt 2, .inl (dA 0, 84, .inl tw)), (tt 3, .inr (5, [.ref (tt 4)])), (tt 4, .inl (dA 0, 84, .inl tp)), (tt 5, .inr (5, [.ref (tt 6)])), (tt 6, .inl (dA 0, 84, .inl tx)), (h, .inr (5, [.ref r0])), (r0, .inl (dA 0, 12, .inl u))] t.heap ∧ va_D A [(qo, .inr (4, [.int qk, .int qa, .int qb, .int qd, .int qw, .int qn])), (tt 0, .inr (9, [.ref (tt 1), .ref (tt 3), .ref (tt 5), .int (nI nm)])), (tt 1, .inr (5, [.ref (tt 2)])), (tt 2, .inl (dA 0, 84, .inl tw)), (tt 3, .inr (5, [.ref (tt 4)])), (tt 4, .inl (dA 0, 84, .inl tp)), (tt 5, .inr (5, [.ref (tt 6)])), (tt 6, .inl (dA 0, 84, .inl tx)), (h, .inr (5, [.ref r0])), (r0, .inl (dA 0, 12, .inl u))]) A) RX1 rfl (by decide) (Nat.le_of_ble_eq_true rfl) ?_
  intro p e s m args below meth c hae hx hb hr hts hown hlocks hml hnm hP hK A hAe hD hZ hS hA ls hl
  have hl : lv_has ls 5 [(0, .ref qo), (1, .ref (tt 0)), (2, .int (nI ki)), (3, .ref h)] := hl
  refine lv_iconst (v := 0) hx hb dX1_markCouples_0 (by decide) ?_
  refine lv_istore (lv' := [(4, .int 0), (0, .ref qo), (1, .ref (tt 0)), (2, .int (nI ki)), (3, .ref h)]) hx hb dX1_markCouples_1 hl (by decide) rfl (fun ls hl => ?_)
  have K3 : ∀ (k3 i3 : Nat) (g3_0 : Nat → Int32), 0 ≤ i3 → i3 ≤ nm → nm < i3 + k3 → True → ∀ (H : Heap) (locs : List Loc), va_P D vwCl [(qo, .inr (4, [.int qk, .int qa, .int qb, .int qd, .int qw, .int qn])), (tt 0, .inr (9, [.ref (tt 1), .ref (tt 3), .ref (tt 5), .int (nI nm)])), (tt 1, .inr (5, [.ref (tt 2)])), (tt 2, .inl (dA 0, 84, .inl tw)), (tt 3, .inr (5, [.ref (tt 4)])), (tt 4, .inl (dA 0, 84, .inl tp)), (tt 5, .inr (5, [.ref (tt 6)])), (tt 6, .inl (dA 0, 84, .inl tx)), (h, .inr (5, [.ref r0])), (r0, .inl (dA 0, 12, .inl g3_0))] H → va_D A [(qo, .inr (4, [.int qk, .int qa, .int qb, .int qd, .int qw, .int qn])), (tt 0, .inr (9, [.ref (tt 1), .ref (tt 3), .ref (tt 5), .int (nI nm)])), (tt 1, .inr (5, [.ref (tt 2)])), (tt 2, .inl (dA 0, 84, .inl tw)), (tt 3, .inr (5, [.ref (tt 4)])), (tt 4, .inl (dA 0, 84, .inl tp)), (tt 5, .inr (5, [.ref (tt 6)])), (tt 6, .inl (dA 0, 84, .inl tx)), (h, .inr (5, [.ref r0])), (r0, .inl (dA 0, 12, .inl g3_0))] → va_S A s.heap H locs → ∀ ls : Array Slot, lv_has ls 5 [(4, .int (nI i3)), (0, .ref qo), (1, .ref (tt 0)), (2, .int (nI ki)), (3, .ref h)] → W p l e { frames := 2, cells := 0, slots := 0, locals := 45 } s m args below meth c H locs 0 0 (MQ below (va_Qv (fun (u : Nat → Int32) => True) (fun u t => va_P D vwCl [(qo, .inr (4, [.int qk, .int qa, .int qb, .int qd, .int qw, .int qn])), (tt 0, .inr (9, [.ref (tt 1), .ref (tt 3), .ref (tt 5), .int (nI nm)])), (tt 1, .inr (5, [.ref (tt 2)])), (tt 2, .inl (dA 0, 84, .inl tw)), (tt 3, .inr (5, [.ref (tt 4)])), (tt 4, .inl (dA 0, 84, .inl tp)), (tt 5, .inr (5, [.ref (tt 6)])), (tt 6, .inl (dA 0, 84, .inl tx)), (h, .inr (5, [.ref r0])), (r0, .inl (dA 0, 12, .inl u))] t.heap ∧ va_D A [(qo, .inr (4, [.int qk, .int qa, .int qb, .int qd, .int qw, .int qn])), (tt 0, .inr (9, [.ref (tt 1), .ref (tt 3), .ref (tt 5), .int (nI nm)])), (tt 1, .inr (5, [.ref (tt 2)])), (tt 2, .inl (dA 0, 84, .inl tw)), (tt 3, .inr (5, [.ref (tt 4)])), (tt 4, .inl (dA 0, 84, .inl tp)), (tt 5, .inr (5, [.ref (tt 6)])), (tt 6, .inl (dA 0, 84, .inl tx)), (h, .inr (5, [.ref r0])), (r0, .inl (dA 0, 12, .inl u))]) A) args s 0 0 A) (F0 m 3 ls []) := by
    intro k3
    induction k3 with
    | zero => intro i3 g3_0 h1 h2 h3; exact absurd h3 (by omega)
    | succ k3 ih3 =>
      intro i3 g3_0 hlo3 hhi3 hms3 hinv3 H locs hP hD hS ls hl
      refine lv_iload hx hb dX1_markCouples_3 (lv_at hl 0 rfl) ?_
      refine lv_aload_n hx hb dX1_markCouples_5 rfl (lv_at hl 2 rfl) ?_
      refine va_getN (D := D) (ci := 9) (v := .int (nI nm)) (C := RX6) (T := TX6) (N := 4) hx hb hts inAX6 hown hK hP 1 rfl rfl 3 (by decide) (va_Nw.use rfl (hZ.1.2.2.1 _ (List.mem_of_getElem? (i := 6) rfl))) (fun _ h9 => h9) rfl dX1_markCouples_6 ?_
      refine lv_icmp_ge (tgt := 59) hx hb dX1_markCouples_9 (by decide) (fun c1 => ?_) (fun c1 => ?_)
      · replace c1 := (nI_leI (a := nm) (b := i3) (by omega) (by omega)).mp c1
        obtain rfl : nm = i3 := (by omega)
        have hP : va_P D vwCl [(qo, .inr (4, [.int qk, .int qa, .int qb, .int qd, .int qw, .int qn])), (tt 0, .inr (9, [.ref (tt 1), .ref (tt 3), .ref (tt 5), .int (nI nm)])), (tt 1, .inr (5, [.ref (tt 2)])), (tt 2, .inl (dA 0, 84, .inl tw)), (tt 3, .inr (5, [.ref (tt 4)])), (tt 4, .inl (dA 0, 84, .inl tp)), (tt 5, .inr (5, [.ref (tt 6)])), (tt 6, .inl (dA 0, 84, .inl tx)), (h, .inr (5, [.ref r0])), (r0, .inl (dA 0, 12, .inl g3_0))] H := hP
        have hD : va_D A [(qo, .inr (4, [.int qk, .int qa, .int qb, .int qd, .int qw, .int qn])), (tt 0, .inr (9, [.ref (tt 1), .ref (tt 3), .ref (tt 5), .int (nI nm)])), (tt 1, .inr (5, [.ref (tt 2)])), (tt 2, .inl (dA 0, 84, .inl tw)), (tt 3, .inr (5, [.ref (tt 4)])), (tt 4, .inl (dA 0, 84, .inl tp)), (tt 5, .inr (5, [.ref (tt 6)])), (tt 6, .inl (dA 0, 84, .inl tx)), (h, .inr (5, [.ref r0])), (r0, .inl (dA 0, 12, .inl g3_0))] := hD
        refine W.widen (k := 0) (n := 0) (Nat.le_of_ble_eq_true rfl) (Nat.le_of_ble_eq_true rfl) ?_
        have hP9 := hP.sub (ws' := [(qo, .inr (4, [.int qk, .int qa, .int qb, .int qd, .int qw, .int qn])), (tt 0, .inr (9, [.ref (tt 1), .ref (tt 3), .ref (tt 5), .int (nI nm)])), (tt 1, .inr (5, [.ref (tt 2)])), (tt 2, .inl (dA 0, 84, .inl tw)), (tt 3, .inr (5, [.ref (tt 4)])), (tt 4, .inl (dA 0, 84, .inl tp)), (tt 5, .inr (5, [.ref (tt 6)])), (tt 6, .inl (dA 0, 84, .inl tx)), (h, .inr (5, [.ref r0])), (r0, .inl (dA 0, 12, .inl g3_0))]) [0, 1, 2, 3, 4, 5, 6, 7, 8, 9] rfl
        have hD9 := hD.sub (ws' := [(qo, .inr (4, [.int qk, .int qa, .int qb, .int qd, .int qw, .int qn])), (tt 0, .inr (9, [.ref (tt 1), .ref (tt 3), .ref (tt 5), .int (nI nm)])), (tt 1, .inr (5, [.ref (tt 2)])), (tt 2, .inl (dA 0, 84, .inl tw)), (tt 3, .inr (5, [.ref (tt 4)])), (tt 4, .inl (dA 0, 84, .inl tp)), (tt 5, .inr (5, [.ref (tt 6)])), (tt 6, .inl (dA 0, 84, .inl tx)), (h, .inr (5, [.ref r0])), (r0, .inl (dA 0, 12, .inl g3_0))]) [0, 1, 2, 3, 4, 5, 6, 7, 8, 9] (by decide) rfl
        exact W.vret hx hb hr (fun t ht hW => ⟨⟨g3_0, rfl, trivial, ⟨by rw [ht]; exact hP9, hD9⟩⟩, hS.F ht⟩) hS.2.2 dX1_markCouples_59
      · replace c1 := mt (nI_leI (a := nm) (b := i3) (by omega) (by omega)).mpr c1
        refine lv_aload_n hx hb dX1_markCouples_12 rfl (lv_at hl 1 rfl) ?_
        refine lv_aload_n hx hb dX1_markCouples_13 rfl (lv_at hl 2 rfl) ?_
        refine lv_iload_n hx hb dX1_markCouples_14 rfl (lv_at hl 3 rfl) ?_
        refine lv_iload hx hb dX1_markCouples_15 (lv_at hl 0 rfl) ?_
        have hPc := hP.sub (ws' := [(qo, .inr (4, [.int qk, .int qa, .int qb, .int qd, .int qw, .int qn])), (tt 0, .inr (9, [.ref (tt 1), .ref (tt 3), .ref (tt 5), .int (nI nm)])), (tt 1, .inr (5, [.ref (tt 2)])), (tt 2, .inl (dA 0, 84, .inl tw)), (tt 3, .inr (5, [.ref (tt 4)])), (tt 4, .inl (dA 0, 84, .inl tp)), (tt 5, .inr (5, [.ref (tt 6)])), (tt 6, .inl (dA 0, 84, .inl tx))]) [0, 1, 2, 3, 4, 5, 6, 7] rfl
        have hDc := hD.sub (ws' := [(qo, .inr (4, [.int qk, .int qa, .int qb, .int qd, .int qw, .int qn])), (tt 0, .inr (9, [.ref (tt 1), .ref (tt 3), .ref (tt 5), .int (nI nm)])), (tt 1, .inr (5, [.ref (tt 2)])), (tt 2, .inl (dA 0, 84, .inl tw)), (tt 3, .inr (5, [.ref (tt 4)])), (tt 4, .inl (dA 0, 84, .inl tp)), (tt 5, .inr (5, [.ref (tt 6)])), (tt 6, .inl (dA 0, 84, .inl tx))]) [0, 1, 2, 3, 4, 5, 6, 7] (by decide) rfl
        have hFc := va_free (wc := [(qo, .inr (4, [.int qk, .int qa, .int qb, .int qd, .int qw, .int qn])), (tt 0, .inr (9, [.ref (tt 1), .ref (tt 3), .ref (tt 5), .int (nI nm)])), (tt 1, .inr (5, [.ref (tt 2)])), (tt 2, .inl (dA 0, 84, .inl tw)), (tt 3, .inr (5, [.ref (tt 4)])), (tt 4, .inl (dA 0, 84, .inl tp)), (tt 5, .inr (5, [.ref (tt 6)])), (tt 6, .inl (dA 0, 84, .inl tx))]) hD hS hA [0, 1, 2, 3, 4, 5, 6, 7] rfl
        refine va_calli (va_runV (As := [.ref (tt 0), .int (nI ki), .int (nI i3)]) (rest := []) ⟨hx, hb, hml, hown, hts⟩ (q_isCouple l D dA E qo qk qa qb qd qw qn tt tw tp tx nm ki i3 H.size  (by omega) (by omega) (by omega)) (cwV 3 hts (ga_V q427 q428 q425 q414 q426) rfl rfl rfl (by decide +kernel) ⟨(Nat.le_of_ble_eq_true rfl), (Nat.le_of_ble_eq_true rfl)⟩) ⟨pb_blind, va_recv hK hPc (ci := 4) (q0 := 0) rfl rfl, pb_pre hK hPc hDc hZ hS hFc _⟩ rfl rfl hl.1 rfl (lv_room (Nat.le_of_ble_eq_true rfl)) dX1_markCouples_17 ⟨(Nat.le_of_ble_eq_true rfl), (Nat.le_of_ble_eq_true rfl)⟩) hS (fun q _ h => hFc q h) hFc (fun r u t H1 locs ht hvm hw hB hz1 hk1 hS => ?_)
        refine W.widen (k := 0) (n := 0) (Nat.le_of_ble_eq_true rfl) (Nat.le_of_ble_eq_true rfl) ?_
        obtain ⟨r2, rfl⟩ : ∃ z, z = r := ⟨_, rfl⟩
        obtain ⟨u3, rfl⟩ : ∃ z, z = u := ⟨_, rfl⟩
        have hw4 := hw
        clear hw
        obtain ⟨hP1, hD1⟩ := hB
        rw [ht] at hP1
        obtain ⟨hP, hD⟩ := va_join (wr := [(h, .inr (5, [.ref r0])), (r0, .inl (dA 0, 12, .inl g3_0))]) (w1 := [(qo, .inr (4, [.int qk, .int qa, .int qb, .int qd, .int qw, .int qn])), (tt 0, .inr (9, [.ref (tt 1), .ref (tt 3), .ref (tt 5), .int (nI nm)])), (tt 1, .inr (5, [.ref (tt 2)])), (tt 2, .inl (dA 0, 84, .inl tw)), (tt 3, .inr (5, [.ref (tt 4)])), (tt 4, .inl (dA 0, 84, .inl tp)), (tt 5, .inr (5, [.ref (tt 6)])), (tt 6, .inl (dA 0, 84, .inl tx))]) hP hD [0, 1, 2, 3, 4, 5, 6, 7] [8, 9] rfl rfl (by decide) (by decide) hk1 hFc hP1 hD1
        generalize H1 = H at hP hS ⊢
        have hP : va_P D vwCl [(h, .inr (5, [.ref r0])), (r0, .inl (dA 0, 12, .inl g3_0)), (qo, .inr (4, [.int qk, .int qa, .int qb, .int qd, .int qw, .int qn])), (tt 0, .inr (9, [.ref (tt 1), .ref (tt 3), .ref (tt 5), .int (nI nm)])), (tt 1, .inr (5, [.ref (tt 2)])), (tt 2, .inl (dA 0, 84, .inl tw)), (tt 3, .inr (5, [.ref (tt 4)])), (tt 4, .inl (dA 0, 84, .inl tp)), (tt 5, .inr (5, [.ref (tt 6)])), (tt 6, .inl (dA 0, 84, .inl tx))] H := hP
        have hD : va_D A [(h, .inr (5, [.ref r0])), (r0, .inl (dA 0, 12, .inl g3_0)), (qo, .inr (4, [.int qk, .int qa, .int qb, .int qd, .int qw, .int qn])), (tt 0, .inr (9, [.ref (tt 1), .ref (tt 3), .ref (tt 5), .int (nI nm)])), (tt 1, .inr (5, [.ref (tt 2)])), (tt 2, .inl (dA 0, 84, .inl tw)), (tt 3, .inr (5, [.ref (tt 4)])), (tt 4, .inl (dA 0, 84, .inl tp)), (tt 5, .inr (5, [.ref (tt 6)])), (tt 6, .inl (dA 0, 84, .inl tx))] := hD
        refine bt (b := (icB qk qb qd tw tp ki i3)) ?_ ?_
        · intro hB5
          obtain rfl : r2 = 1 := hw4.trans (by rw [hB5]; rfl)
          refine lv_if_ne (tgt := 26) hx hb dX1_markCouples_20 (by decide) (fun _ => ?_) (fun c6 => absurd c6 (by decide))
          refine lv_aload_n hx hb dX1_markCouples_26 rfl (lv_at hl 4 rfl) ?_
          refine lv_aload_n hx hb dX1_markCouples_27 rfl (lv_at hl 2 rfl) ?_
          refine va_getN (D := D) (ci := 9) (v := .ref (tt 5)) (C := RX6) (T := TX6) (N := 4) hx hb hts inAX6 hown hK hP 3 rfl rfl 2 (by decide) (va_Nw.use rfl (hZ.1.2.2.1 _ (List.mem_of_getElem? (i := 4) rfl))) (fun _ h9 => h9) rfl dX1_markCouples_28 ?_
          refine lv_iload_n hx hb dX1_markCouples_31 rfl (lv_at hl 3 rfl) ?_
          have hPc := hP.sub (ws' := [(tt 5, .inr (5, [.ref (tt 6)])), (tt 6, .inl (dA 0, 84, .inl tx))]) [8, 9] rfl
          have hDc := hD.sub (ws' := [(tt 5, .inr (5, [.ref (tt 6)])), (tt 6, .inl (dA 0, 84, .inl tx))]) [8, 9] (by decide) rfl
          have hFc := va_free (wc := [(tt 5, .inr (5, [.ref (tt 6)])), (tt 6, .inl (dA 0, 84, .inl tx))]) hD hS hA [8, 9] rfl
          refine va_calli (va_runV (As := [.int (nI ki)]) (rest := [.ref h]) ⟨hx, hb, hml, hown, hts⟩ (t_getN l D dA E (tt 5) (tt 6) 84 tx ki H.size  (by omega) (by decide)) (cwV 1 hts (ga_V q420 q203 q200 q204 q201) rfl rfl rfl (by decide +kernel) ⟨(Nat.le_of_ble_eq_true rfl), (Nat.le_of_ble_eq_true rfl)⟩) ⟨pb_blind, va_recv hK hPc (ci := 5) (q0 := 0) rfl rfl, pb_pre hK hPc hDc hZ hS hFc _⟩ rfl rfl hl.1 rfl (lv_room (Nat.le_of_ble_eq_true rfl)) dX1_markCouples_32 ⟨(Nat.le_of_ble_eq_true rfl), (Nat.le_of_ble_eq_true rfl)⟩) hS (fun q _ h => hFc q h) hFc (fun r u t H1 locs ht hvm hw hB hz1 hk1 hS => ?_)
          refine W.widen (k := 0) (n := 0) (Nat.le_of_ble_eq_true rfl) (Nat.le_of_ble_eq_true rfl) ?_
          obtain ⟨r7, rfl⟩ : ∃ z, z = r := ⟨_, rfl⟩
          obtain ⟨u8, rfl⟩ : ∃ z, z = u := ⟨_, rfl⟩
          have hw9 := hw
          clear hw
          obtain ⟨hP1, hD1⟩ := hB
          rw [ht] at hP1
          obtain ⟨hP, hD⟩ := va_join (wr := [(h, .inr (5, [.ref r0])), (r0, .inl (dA 0, 12, .inl g3_0)), (qo, .inr (4, [.int qk, .int qa, .int qb, .int qd, .int qw, .int qn])), (tt 0, .inr (9, [.ref (tt 1), .ref (tt 3), .ref (tt 5), .int (nI nm)])), (tt 1, .inr (5, [.ref (tt 2)])), (tt 2, .inl (dA 0, 84, .inl tw)), (tt 3, .inr (5, [.ref (tt 4)])), (tt 4, .inl (dA 0, 84, .inl tp))]) (w1 := [(tt 5, .inr (5, [.ref (tt 6)])), (tt 6, .inl (dA 0, 84, .inl tx))]) hP hD [8, 9] [0, 1, 2, 3, 4, 5, 6, 7] rfl rfl (by decide) (by decide) hk1 hFc hP1 hD1
          generalize H1 = H at hP hS ⊢
          have hP : va_P D vwCl [(h, .inr (5, [.ref r0])), (r0, .inl (dA 0, 12, .inl g3_0)), (qo, .inr (4, [.int qk, .int qa, .int qb, .int qd, .int qw, .int qn])), (tt 0, .inr (9, [.ref (tt 1), .ref (tt 3), .ref (tt 5), .int (nI nm)])), (tt 1, .inr (5, [.ref (tt 2)])), (tt 2, .inl (dA 0, 84, .inl tw)), (tt 3, .inr (5, [.ref (tt 4)])), (tt 4, .inl (dA 0, 84, .inl tp)), (tt 5, .inr (5, [.ref (tt 6)])), (tt 6, .inl (dA 0, 84, .inl tx))] H := hP
          have hD : va_D A [(h, .inr (5, [.ref r0])), (r0, .inl (dA 0, 12, .inl g3_0)), (qo, .inr (4, [.int qk, .int qa, .int qb, .int qd, .int qw, .int qn])), (tt 0, .inr (9, [.ref (tt 1), .ref (tt 3), .ref (tt 5), .int (nI nm)])), (tt 1, .inr (5, [.ref (tt 2)])), (tt 2, .inl (dA 0, 84, .inl tw)), (tt 3, .inr (5, [.ref (tt 4)])), (tt 4, .inl (dA 0, 84, .inl tp)), (tt 5, .inr (5, [.ref (tt 6)])), (tt 6, .inl (dA 0, 84, .inl tx))] := hD
          obtain rfl : r7 = tx ki := hw9
          refine lv_iconst (v := 1) hx hb dX1_markCouples_35 (by decide) ?_
          have hPc := hP.sub (ws' := [(h, .inr (5, [.ref r0])), (r0, .inl (dA 0, 12, .inl g3_0))]) [0, 1] rfl
          have hDc := hD.sub (ws' := [(h, .inr (5, [.ref r0])), (r0, .inl (dA 0, 12, .inl g3_0))]) [0, 1] (by decide) rfl
          have hFc := va_free (wc := [(h, .inr (5, [.ref r0])), (r0, .inl (dA 0, 12, .inl g3_0))]) hD hS hA [0, 1] rfl
          refine va_callv (va_runV (As := [.int (tx ki), .int 1]) (rest := []) ⟨hx, hb, hml, hown, hts⟩ (t_put l D dA E h r0 12 g3_0 (tx ki) 1 H.size  (by decide)) (cwV 2 hts (ga_V q419 q210 q207 q204 q208) rfl rfl rfl (by decide +kernel) ⟨(Nat.le_of_ble_eq_true rfl), (Nat.le_of_ble_eq_true rfl)⟩) ⟨pb_blind, va_recv hK hPc (ci := 5) (q0 := 0) rfl rfl, pb_pre hK hPc hDc hZ hS hFc _⟩ rfl rfl hl.1 rfl (lv_room (Nat.le_of_ble_eq_true rfl)) dX1_markCouples_36 ⟨(Nat.le_of_ble_eq_true rfl), (Nat.le_of_ble_eq_true rfl)⟩) hS (fun q _ h => hFc q h) hFc (fun u t H1 locs ht hvm hw hB hz1 hk1 hS => ?_)
          refine W.widen (k := 0) (n := 0) (Nat.le_of_ble_eq_true rfl) (Nat.le_of_ble_eq_true rfl) ?_
          obtain ⟨u10, rfl⟩ : ∃ z, z = u := ⟨_, rfl⟩
          have hw11 := hw
          clear hw
          obtain ⟨hP1, hD1⟩ := hB
          rw [ht] at hP1
          obtain ⟨hP, hD⟩ := va_join (wr := [(qo, .inr (4, [.int qk, .int qa, .int qb, .int qd, .int qw, .int qn])), (tt 0, .inr (9, [.ref (tt 1), .ref (tt 3), .ref (tt 5), .int (nI nm)])), (tt 1, .inr (5, [.ref (tt 2)])), (tt 2, .inl (dA 0, 84, .inl tw)), (tt 3, .inr (5, [.ref (tt 4)])), (tt 4, .inl (dA 0, 84, .inl tp)), (tt 5, .inr (5, [.ref (tt 6)])), (tt 6, .inl (dA 0, 84, .inl tx))]) (w1 := [(h, .inr (5, [.ref r0])), (r0, .inl (dA 0, 12, .inl u10))]) hP hD [0, 1] [2, 3, 4, 5, 6, 7, 8, 9] rfl rfl (by decide) (by decide) hk1 hFc hP1 hD1
          generalize H1 = H at hP hS ⊢
          have hP : va_P D vwCl [(qo, .inr (4, [.int qk, .int qa, .int qb, .int qd, .int qw, .int qn])), (tt 0, .inr (9, [.ref (tt 1), .ref (tt 3), .ref (tt 5), .int (nI nm)])), (tt 1, .inr (5, [.ref (tt 2)])), (tt 2, .inl (dA 0, 84, .inl tw)), (tt 3, .inr (5, [.ref (tt 4)])), (tt 4, .inl (dA 0, 84, .inl tp)), (tt 5, .inr (5, [.ref (tt 6)])), (tt 6, .inl (dA 0, 84, .inl tx)), (h, .inr (5, [.ref r0])), (r0, .inl (dA 0, 12, .inl u10))] H := hP
          have hD : va_D A [(qo, .inr (4, [.int qk, .int qa, .int qb, .int qd, .int qw, .int qn])), (tt 0, .inr (9, [.ref (tt 1), .ref (tt 3), .ref (tt 5), .int (nI nm)])), (tt 1, .inr (5, [.ref (tt 2)])), (tt 2, .inl (dA 0, 84, .inl tw)), (tt 3, .inr (5, [.ref (tt 4)])), (tt 4, .inl (dA 0, 84, .inl tp)), (tt 5, .inr (5, [.ref (tt 6)])), (tt 6, .inl (dA 0, 84, .inl tx)), (h, .inr (5, [.ref r0])), (r0, .inl (dA 0, 12, .inl u10))] := hD
          refine lv_aload_n hx hb dX1_markCouples_39 rfl (lv_at hl 4 rfl) ?_
          refine lv_aload_n hx hb dX1_markCouples_40 rfl (lv_at hl 2 rfl) ?_
          refine va_getN (D := D) (ci := 9) (v := .ref (tt 5)) (C := RX6) (T := TX6) (N := 4) hx hb hts inAX6 hown hK hP 1 rfl rfl 2 (by decide) (va_Nw.use rfl (hZ.1.2.2.1 _ (List.mem_of_getElem? (i := 4) rfl))) (fun _ h9 => h9) rfl dX1_markCouples_41 ?_
          refine lv_iload hx hb dX1_markCouples_44 (lv_at hl 0 rfl) ?_
          have hPc := hP.sub (ws' := [(tt 5, .inr (5, [.ref (tt 6)])), (tt 6, .inl (dA 0, 84, .inl tx))]) [6, 7] rfl
          have hDc := hD.sub (ws' := [(tt 5, .inr (5, [.ref (tt 6)])), (tt 6, .inl (dA 0, 84, .inl tx))]) [6, 7] (by decide) rfl
          have hFc := va_free (wc := [(tt 5, .inr (5, [.ref (tt 6)])), (tt 6, .inl (dA 0, 84, .inl tx))]) hD hS hA [6, 7] rfl
          refine va_calli (va_runV (As := [.int (nI i3)]) (rest := [.ref h]) ⟨hx, hb, hml, hown, hts⟩ (t_getN l D dA E (tt 5) (tt 6) 84 tx i3 H.size  (by omega) (by decide)) (cwV 1 hts (ga_V q420 q203 q200 q204 q201) rfl rfl rfl (by decide +kernel) ⟨(Nat.le_of_ble_eq_true rfl), (Nat.le_of_ble_eq_true rfl)⟩) ⟨pb_blind, va_recv hK hPc (ci := 5) (q0 := 0) rfl rfl, pb_pre hK hPc hDc hZ hS hFc _⟩ rfl rfl hl.1 rfl (lv_room (Nat.le_of_ble_eq_true rfl)) dX1_markCouples_46 ⟨(Nat.le_of_ble_eq_true rfl), (Nat.le_of_ble_eq_true rfl)⟩) hS (fun q _ h => hFc q h) hFc (fun r u t H1 locs ht hvm hw hB hz1 hk1 hS => ?_)
          refine W.widen (k := 0) (n := 0) (Nat.le_of_ble_eq_true rfl) (Nat.le_of_ble_eq_true rfl) ?_
          obtain ⟨r12, rfl⟩ : ∃ z, z = r := ⟨_, rfl⟩
          obtain ⟨u13, rfl⟩ : ∃ z, z = u := ⟨_, rfl⟩
          have hw14 := hw
          clear hw
          obtain ⟨hP1, hD1⟩ := hB
          rw [ht] at hP1
          obtain ⟨hP, hD⟩ := va_join (wr := [(qo, .inr (4, [.int qk, .int qa, .int qb, .int qd, .int qw, .int qn])), (tt 0, .inr (9, [.ref (tt 1), .ref (tt 3), .ref (tt 5), .int (nI nm)])), (tt 1, .inr (5, [.ref (tt 2)])), (tt 2, .inl (dA 0, 84, .inl tw)), (tt 3, .inr (5, [.ref (tt 4)])), (tt 4, .inl (dA 0, 84, .inl tp)), (h, .inr (5, [.ref r0])), (r0, .inl (dA 0, 12, .inl u10))]) (w1 := [(tt 5, .inr (5, [.ref (tt 6)])), (tt 6, .inl (dA 0, 84, .inl tx))]) hP hD [6, 7] [0, 1, 2, 3, 4, 5, 8, 9] rfl rfl (by decide) (by decide) hk1 hFc hP1 hD1
          generalize H1 = H at hP hS ⊢
          have hP : va_P D vwCl [(qo, .inr (4, [.int qk, .int qa, .int qb, .int qd, .int qw, .int qn])), (tt 0, .inr (9, [.ref (tt 1), .ref (tt 3), .ref (tt 5), .int (nI nm)])), (tt 1, .inr (5, [.ref (tt 2)])), (tt 2, .inl (dA 0, 84, .inl tw)), (tt 3, .inr (5, [.ref (tt 4)])), (tt 4, .inl (dA 0, 84, .inl tp)), (h, .inr (5, [.ref r0])), (r0, .inl (dA 0, 12, .inl u10)), (tt 5, .inr (5, [.ref (tt 6)])), (tt 6, .inl (dA 0, 84, .inl tx))] H := hP
          have hD : va_D A [(qo, .inr (4, [.int qk, .int qa, .int qb, .int qd, .int qw, .int qn])), (tt 0, .inr (9, [.ref (tt 1), .ref (tt 3), .ref (tt 5), .int (nI nm)])), (tt 1, .inr (5, [.ref (tt 2)])), (tt 2, .inl (dA 0, 84, .inl tw)), (tt 3, .inr (5, [.ref (tt 4)])), (tt 4, .inl (dA 0, 84, .inl tp)), (h, .inr (5, [.ref r0])), (r0, .inl (dA 0, 12, .inl u10)), (tt 5, .inr (5, [.ref (tt 6)])), (tt 6, .inl (dA 0, 84, .inl tx))] := hD
          obtain rfl : r12 = tx i3 := hw14
          refine lv_iconst (v := 1) hx hb dX1_markCouples_49 (by decide) ?_
          have hPc := hP.sub (ws' := [(h, .inr (5, [.ref r0])), (r0, .inl (dA 0, 12, .inl u10))]) [6, 7] rfl
          have hDc := hD.sub (ws' := [(h, .inr (5, [.ref r0])), (r0, .inl (dA 0, 12, .inl u10))]) [6, 7] (by decide) rfl
          have hFc := va_free (wc := [(h, .inr (5, [.ref r0])), (r0, .inl (dA 0, 12, .inl u10))]) hD hS hA [6, 7] rfl
          refine va_callv (va_runV (As := [.int (tx i3), .int 1]) (rest := []) ⟨hx, hb, hml, hown, hts⟩ (t_put l D dA E h r0 12 u10 (tx i3) 1 H.size  (by decide)) (cwV 2 hts (ga_V q419 q210 q207 q204 q208) rfl rfl rfl (by decide +kernel) ⟨(Nat.le_of_ble_eq_true rfl), (Nat.le_of_ble_eq_true rfl)⟩) ⟨pb_blind, va_recv hK hPc (ci := 5) (q0 := 0) rfl rfl, pb_pre hK hPc hDc hZ hS hFc _⟩ rfl rfl hl.1 rfl (lv_room (Nat.le_of_ble_eq_true rfl)) dX1_markCouples_50 ⟨(Nat.le_of_ble_eq_true rfl), (Nat.le_of_ble_eq_true rfl)⟩) hS (fun q _ h => hFc q h) hFc (fun u t H1 locs ht hvm hw hB hz1 hk1 hS => ?_)
          refine W.widen (k := 0) (n := 0) (Nat.le_of_ble_eq_true rfl) (Nat.le_of_ble_eq_true rfl) ?_
          obtain ⟨u15, rfl⟩ : ∃ z, z = u := ⟨_, rfl⟩
          have hw16 := hw
          clear hw
          obtain ⟨hP1, hD1⟩ := hB
          rw [ht] at hP1
          obtain ⟨hP, hD⟩ := va_join (wr := [(qo, .inr (4, [.int qk, .int qa, .int qb, .int qd, .int qw, .int qn])), (tt 0, .inr (9, [.ref (tt 1), .ref (tt 3), .ref (tt 5), .int (nI nm)])), (tt 1, .inr (5, [.ref (tt 2)])), (tt 2, .inl (dA 0, 84, .inl tw)), (tt 3, .inr (5, [.ref (tt 4)])), (tt 4, .inl (dA 0, 84, .inl tp)), (tt 5, .inr (5, [.ref (tt 6)])), (tt 6, .inl (dA 0, 84, .inl tx))]) (w1 := [(h, .inr (5, [.ref r0])), (r0, .inl (dA 0, 12, .inl u15))]) hP hD [6, 7] [0, 1, 2, 3, 4, 5, 8, 9] rfl rfl (by decide) (by decide) hk1 hFc hP1 hD1
          generalize H1 = H at hP hS ⊢
          have hP : va_P D vwCl [(qo, .inr (4, [.int qk, .int qa, .int qb, .int qd, .int qw, .int qn])), (tt 0, .inr (9, [.ref (tt 1), .ref (tt 3), .ref (tt 5), .int (nI nm)])), (tt 1, .inr (5, [.ref (tt 2)])), (tt 2, .inl (dA 0, 84, .inl tw)), (tt 3, .inr (5, [.ref (tt 4)])), (tt 4, .inl (dA 0, 84, .inl tp)), (tt 5, .inr (5, [.ref (tt 6)])), (tt 6, .inl (dA 0, 84, .inl tx)), (h, .inr (5, [.ref r0])), (r0, .inl (dA 0, 12, .inl u15))] H := hP
          have hD : va_D A [(qo, .inr (4, [.int qk, .int qa, .int qb, .int qd, .int qw, .int qn])), (tt 0, .inr (9, [.ref (tt 1), .ref (tt 3), .ref (tt 5), .int (nI nm)])), (tt 1, .inr (5, [.ref (tt 2)])), (tt 2, .inl (dA 0, 84, .inl tw)), (tt 3, .inr (5, [.ref (tt 4)])), (tt 4, .inl (dA 0, 84, .inl tp)), (tt 5, .inr (5, [.ref (tt 6)])), (tt 6, .inl (dA 0, 84, .inl tx)), (h, .inr (5, [.ref r0])), (r0, .inl (dA 0, 12, .inl u15))] := hD
          refine lv_iinc (v := nI (i3 + 1)) (lv' := [(4, .int (nI (i3 + 1))), (0, .ref qo), (1, .ref (tt 0)), (2, .int (nI ki)), (3, .ref h)]) hx hb dX1_markCouples_53 hl (k := 0) rfl (nI_add i3 1) (by decide) rfl (fun ls hl => ?_)
          refine lv_goto (tgt := 3) hx hb dX1_markCouples_56 (by decide) ?_
          exact ih3 (i3 + 1) u15 (by omega) (by omega) (by omega) trivial _ _ hP hD hS ls (lv_sub hl [0, 1, 2, 3, 4] rfl)
        · intro hB5
          obtain rfl : r2 = 0 := hw4.trans (by rw [hB5]; rfl)
          refine lv_if_ne (tgt := 26) hx hb dX1_markCouples_20 (by decide) (fun c17 => absurd (by decide) c17) (fun _ => ?_)
          refine lv_goto (tgt := 53) hx hb dX1_markCouples_23 (by decide) ?_
          refine lv_iinc (v := nI (i3 + 1)) (lv' := [(4, .int (nI (i3 + 1))), (0, .ref qo), (1, .ref (tt 0)), (2, .int (nI ki)), (3, .ref h)]) hx hb dX1_markCouples_53 hl (k := 0) rfl (nI_add i3 1) (by decide) rfl (fun ls hl => ?_)
          refine lv_goto (tgt := 3) hx hb dX1_markCouples_56 (by decide) ?_
          have hP := hP.sub (ws' := [(qo, .inr (4, [.int qk, .int qa, .int qb, .int qd, .int qw, .int qn])), (tt 0, .inr (9, [.ref (tt 1), .ref (tt 3), .ref (tt 5), .int (nI nm)])), (tt 1, .inr (5, [.ref (tt 2)])), (tt 2, .inl (dA 0, 84, .inl tw)), (tt 3, .inr (5, [.ref (tt 4)])), (tt 4, .inl (dA 0, 84, .inl tp)), (tt 5, .inr (5, [.ref (tt 6)])), (tt 6, .inl (dA 0, 84, .inl tx)), (h, .inr (5, [.ref r0])), (r0, .inl (dA 0, 12, .inl g3_0))]) [2, 3, 4, 5, 6, 7, 8, 9, 0, 1] rfl
          have hD := hD.sub (ws' := [(qo, .inr (4, [.int qk, .int qa, .int qb, .int qd, .int qw, .int qn])), (tt 0, .inr (9, [.ref (tt 1), .ref (tt 3), .ref (tt 5), .int (nI nm)])), (tt 1, .inr (5, [.ref (tt 2)])), (tt 2, .inl (dA 0, 84, .inl tw)), (tt 3, .inr (5, [.ref (tt 4)])), (tt 4, .inl (dA 0, 84, .inl tp)), (tt 5, .inr (5, [.ref (tt 6)])), (tt 6, .inl (dA 0, 84, .inl tx)), (h, .inr (5, [.ref r0])), (r0, .inl (dA 0, 12, .inl g3_0))]) [2, 3, 4, 5, 6, 7, 8, 9, 0, 1] (by decide) rfl
          exact ih3 (i3 + 1) g3_0 (by omega) (by omega) (by omega) trivial _ _ hP hD hS ls (lv_sub hl [0, 1, 2, 3, 4] rfl)
  exact K3 (nm + 1) 0 mm (by omega) (by omega) (by omega) trivial _ _ hP hD hS ls hl

set_option maxHeartbeats 4000000 in
set_option maxRecDepth 100000 in
theorem q_mark (l : Launch) (D : va_G) (dA : Nat → ClassId) (E : Nat) (qo : Nat) (qk qa qb qd qw qn : Int32) (tt : Nat → Nat) (tw tp tx : Nat → Int32) (nm : Nat) (h r0 : Nat) (mm : Nat → Int32) (sz : Nat) (hnm : nm ≤ 84)  : Met l yX1_mark (wq (.code yX1_mark cX1_mark 4 none)) { frames := 3, cells := 0, slots := 0, locals := 69 } (va_Pc [.ref qo, .ref (tt 0), .ref h] (PcB D dA E [(qo, .inr (4, [.int qk, .int qa, .int qb, .int qd, .int qw, .int qn])), (tt 0, .inr (9, [.ref (tt 1), .ref (tt 3), .ref (tt 5), .int (nI nm)])), (tt 1, .inr (5, [.ref (tt 2)])), (tt 2, .inl (dA 0, 84, .inl tw)), (tt 3, .inr (5, [.ref (tt 4)])), (tt 4, .inl (dA 0, 84, .inl tp)), (tt 5, .inr (5, [.ref (tt 6)])), (tt 6, .inl (dA 0, 84, .inl tx)), (h, .inr (5, [.ref r0])), (r0, .inl (dA 0, 12, .inl mm))] sz)) (va_Qv (fun (u : Nat → Int32) => True) (fun u t => va_P D vwCl [(qo, .inr (4, [.int qk, .int qa, .int qb, .int qd, .int qw, .int qn])), (tt 0, .inr (9, [.ref (tt 1), .ref (tt 3), .ref (tt 5), .int (nI nm)])), (tt 1, .inr (5, [.ref (tt 2)])), (tt 2, .inl (dA 0, 84, .inl tw)), (tt 3, .inr (5, [.ref (tt 4)])), (tt 4, .inl (dA 0, 84, .inl tp)), (tt 5, .inr (5, [.ref (tt 6)])), (tt 6, .inl (dA 0, 84, .inl tx)), (h, .inr (5, [.ref r0])), (r0, .inl (dA 0, 12, .inl u))] t.heap ∧ va_D (va_A [(qo, .inr (4, [.int qk, .int qa, .int qb, .int qd, .int qw, .int qn])), (tt 0, .inr (9, [.ref (tt 1), .ref (tt 3), .ref (tt 5), .int (nI nm)])), (tt 1, .inr (5, [.ref (tt 2)])), (tt 2, .inl (dA 0, 84, .inl tw)), (tt 3, .inr (5, [.ref (tt 4)])), (tt 4, .inl (dA 0, 84, .inl tp)), (tt 5, .inr (5, [.ref (tt 6)])), (tt 6, .inl (dA 0, 84, .inl tx)), (h, .inr (5, [.ref r0])), (r0, .inl (dA 0, 12, .inl mm))] sz) [(qo, .inr (4, [.int qk, .int qa, .int qb, .int qd, .int qw, .int qn])), (tt 0, .inr (9, [.ref (tt 1), .ref (tt 3), .ref (tt 5), .int (nI nm)])), (tt 1, .inr (5, [.ref (tt 2)])), (tt 2, .inl (dA 0, 84, .inl tw)), (tt 3, .inr (5, [.ref (tt 4)])), (tt 4, .inl (dA 0, 84, .inl tp)), (tt 5, .inr (5, [.ref (tt 6)])), (tt 6, .inl (dA 0, 84, .inl tx)), (h, .inr (5, [.ref r0])), (r0, .inl (dA 0, 12, .inl u))]) (va_A [(qo, .inr (4, [.int qk, .int qa, .int qb, .int qd, .int qw, .int qn])), (tt 0, .inr (9, [.ref (tt 1), .ref (tt 3), .ref (tt 5), .int (nI nm)])), (tt 1, .inr (5, [.ref (tt 2)])), (tt 2, .inl (dA 0, 84, .inl tw)), (tt 3, .inr (5, [.ref (tt 4)])), (tt 4, .inl (dA 0, 84, .inl tp)), (tt 5, .inr (5, [.ref (tt 6)])), (tt 6, .inl (dA 0, 84, .inl tx)), (h, .inr (5, [.ref r0])), (r0, .inl (dA 0, 12, .inl mm))] sz)) 0 0 (va_A [(qo, .inr (4, [.int qk, .int qa, .int qb, .int qd, .int qw, .int qn])), (tt 0, .inr (9, [.ref (tt 1), .ref (tt 3), .ref (tt 5), .int (nI nm)])), (tt 1, .inr (5, [.ref (tt 2)])), (tt 2, .inl (dA 0, 84, .inl tw)), (tt 3, .inr (5, [.ref (tt 4)])), (tt 4, .inl (dA 0, 84, .inl tp)), (tt 5, .inr (5, [.ref (tt 6)])), (tt 6, .inl (dA 0, 84, .inl tx)), (h, .inr (5, [.ref r0])), (r0, .inl (dA 0, 12, .inl mm))] sz) := by
  refine mb_of (Qc := fun A => va_Qv (fun (u : Nat → Int32) => True) (fun u t => va_P D vwCl [(qo, .inr (4, [.int qk, .int qa, .int qb, .int qd, .int qw, .int qn])), (tt 0, .inr (9, [.ref (tt 1), .ref (tt 3), .ref (tt 5), .int (nI nm)])), (tt 1, .inr (5, [.ref (tt 2)])), (tt 2, .inl (dA 0, 84, .inl tw)), (tt 3, .inr (5, [.ref (tt 4)])), (tt 4, .inl (dA 0, 84, .inl tp)), (tt 5, .inr (5, [.ref (tt 6)])), (tt 6, .inl (dA 0, 84, .inl tx)), (h, .inr (5, [.ref r0])), (r0, .inl (dA 0, 12, .inl u))] t.heap ∧ va_D A [(qo, .inr (4, [.int qk, .int qa, .int qb, .int qd, .int qw, .int qn])), (tt 0, .inr (9, [.ref (tt 1), .ref (tt 3), .ref (tt 5), .int (nI nm)])), (tt 1, .inr (5, [.ref (tt 2)])), (tt 2, .inl (dA 0, 84, .inl tw)), (tt 3, .inr (5, [.ref (tt 4)])), (tt 4, .inl (dA 0, 84, .inl tp)), (tt 5, .inr (5, [.ref (tt 6)])), (tt 6, .inl (dA 0, 84, .inl tx)), (h, .inr (5, [.ref r0])), (r0, .inl (dA 0, 12, .inl u))]) A) RX1 rfl (by decide) (Nat.le_of_ble_eq_true rfl) ?_
  intro p e s m args below meth c hae hx hb hr hts hown hlocks hml hnm hP hK A hAe hD hZ hS hA ls hl
  have hl : lv_has ls 4 [(0, .ref qo), (1, .ref (tt 0)), (2, .ref h)] := hl
  refine lv_iconst (v := 0) hx hb dX1_mark_0 (by decide) ?_
  refine lv_istore_n (lv' := [(3, .int 0), (0, .ref qo), (1, .ref (tt 0)), (2, .ref h)]) hx hb dX1_mark_1 rfl hl (by decide) rfl (fun ls hl => ?_)
  have K2 : ∀ (k2 i2 : Nat) (g2_0 : Nat → Int32), 0 ≤ i2 → i2 ≤ nm → nm < i2 + k2 → True → ∀ (H : Heap) (locs : List Loc), va_P D vwCl [(qo, .inr (4, [.int qk, .int qa, .int qb, .int qd, .int qw, .int qn])), (tt 0, .inr (9, [.ref (tt 1), .ref (tt 3), .ref (tt 5), .int (nI nm)])), (tt 1, .inr (5, [.ref (tt 2)])), (tt 2, .inl (dA 0, 84, .inl tw)), (tt 3, .inr (5, [.ref (tt 4)])), (tt 4, .inl (dA 0, 84, .inl tp)), (tt 5, .inr (5, [.ref (tt 6)])), (tt 6, .inl (dA 0, 84, .inl tx)), (h, .inr (5, [.ref r0])), (r0, .inl (dA 0, 12, .inl g2_0))] H → va_D A [(qo, .inr (4, [.int qk, .int qa, .int qb, .int qd, .int qw, .int qn])), (tt 0, .inr (9, [.ref (tt 1), .ref (tt 3), .ref (tt 5), .int (nI nm)])), (tt 1, .inr (5, [.ref (tt 2)])), (tt 2, .inl (dA 0, 84, .inl tw)), (tt 3, .inr (5, [.ref (tt 4)])), (tt 4, .inl (dA 0, 84, .inl tp)), (tt 5, .inr (5, [.ref (tt 6)])), (tt 6, .inl (dA 0, 84, .inl tx)), (h, .inr (5, [.ref r0])), (r0, .inl (dA 0, 12, .inl g2_0))] → va_S A s.heap H locs → ∀ ls : Array Slot, lv_has ls 4 [(3, .int (nI i2)), (0, .ref qo), (1, .ref (tt 0)), (2, .ref h)] → W p l e { frames := 3, cells := 0, slots := 0, locals := 69 } s m args below meth c H locs 0 0 (MQ below (va_Qv (fun (u : Nat → Int32) => True) (fun u t => va_P D vwCl [(qo, .inr (4, [.int qk, .int qa, .int qb, .int qd, .int qw, .int qn])), (tt 0, .inr (9, [.ref (tt 1), .ref (tt 3), .ref (tt 5), .int (nI nm)])), (tt 1, .inr (5, [.ref (tt 2)])), (tt 2, .inl (dA 0, 84, .inl tw)), (tt 3, .inr (5, [.ref (tt 4)])), (tt 4, .inl (dA 0, 84, .inl tp)), (tt 5, .inr (5, [.ref (tt 6)])), (tt 6, .inl (dA 0, 84, .inl tx)), (h, .inr (5, [.ref r0])), (r0, .inl (dA 0, 12, .inl u))] t.heap ∧ va_D A [(qo, .inr (4, [.int qk, .int qa, .int qb, .int qd, .int qw, .int qn])), (tt 0, .inr (9, [.ref (tt 1), .ref (tt 3), .ref (tt 5), .int (nI nm)])), (tt 1, .inr (5, [.ref (tt 2)])), (tt 2, .inl (dA 0, 84, .inl tw)), (tt 3, .inr (5, [.ref (tt 4)])), (tt 4, .inl (dA 0, 84, .inl tp)), (tt 5, .inr (5, [.ref (tt 6)])), (tt 6, .inl (dA 0, 84, .inl tx)), (h, .inr (5, [.ref r0])), (r0, .inl (dA 0, 12, .inl u))]) A) args s 0 0 A) (F0 m 2 ls []) := by
    intro k2
    induction k2 with
    | zero => intro i2 g2_0 h1 h2 h3; exact absurd h3 (by omega)
    | succ k2 ih2 =>
      intro i2 g2_0 hlo2 hhi2 hms2 hinv2 H locs hP hD hS ls hl
      refine lv_iload_n hx hb dX1_mark_2 rfl (lv_at hl 0 rfl) ?_
      refine lv_aload_n hx hb dX1_mark_3 rfl (lv_at hl 2 rfl) ?_
      refine va_getN (D := D) (ci := 9) (v := .int (nI nm)) (C := RX6) (T := TX6) (N := 4) hx hb hts inAX6 hown hK hP 1 rfl rfl 3 (by decide) (va_Nw.use rfl (hZ.1.2.2.1 _ (List.mem_of_getElem? (i := 6) rfl))) (fun _ h9 => h9) rfl dX1_mark_4 ?_
      refine lv_icmp_ge (tgt := 66) hx hb dX1_mark_7 (by decide) (fun c1 => ?_) (fun c1 => ?_)
      · replace c1 := (nI_leI (a := nm) (b := i2) (by omega) (by omega)).mp c1
        obtain rfl : nm = i2 := (by omega)
        have hP : va_P D vwCl [(qo, .inr (4, [.int qk, .int qa, .int qb, .int qd, .int qw, .int qn])), (tt 0, .inr (9, [.ref (tt 1), .ref (tt 3), .ref (tt 5), .int (nI nm)])), (tt 1, .inr (5, [.ref (tt 2)])), (tt 2, .inl (dA 0, 84, .inl tw)), (tt 3, .inr (5, [.ref (tt 4)])), (tt 4, .inl (dA 0, 84, .inl tp)), (tt 5, .inr (5, [.ref (tt 6)])), (tt 6, .inl (dA 0, 84, .inl tx)), (h, .inr (5, [.ref r0])), (r0, .inl (dA 0, 12, .inl g2_0))] H := hP
        have hD : va_D A [(qo, .inr (4, [.int qk, .int qa, .int qb, .int qd, .int qw, .int qn])), (tt 0, .inr (9, [.ref (tt 1), .ref (tt 3), .ref (tt 5), .int (nI nm)])), (tt 1, .inr (5, [.ref (tt 2)])), (tt 2, .inl (dA 0, 84, .inl tw)), (tt 3, .inr (5, [.ref (tt 4)])), (tt 4, .inl (dA 0, 84, .inl tp)), (tt 5, .inr (5, [.ref (tt 6)])), (tt 6, .inl (dA 0, 84, .inl tx)), (h, .inr (5, [.ref r0])), (r0, .inl (dA 0, 12, .inl g2_0))] := hD
        refine W.widen (k := 0) (n := 0) (Nat.le_of_ble_eq_true rfl) (Nat.le_of_ble_eq_true rfl) ?_
        have hP9 := hP.sub (ws' := [(qo, .inr (4, [.int qk, .int qa, .int qb, .int qd, .int qw, .int qn])), (tt 0, .inr (9, [.ref (tt 1), .ref (tt 3), .ref (tt 5), .int (nI nm)])), (tt 1, .inr (5, [.ref (tt 2)])), (tt 2, .inl (dA 0, 84, .inl tw)), (tt 3, .inr (5, [.ref (tt 4)])), (tt 4, .inl (dA 0, 84, .inl tp)), (tt 5, .inr (5, [.ref (tt 6)])), (tt 6, .inl (dA 0, 84, .inl tx)), (h, .inr (5, [.ref r0])), (r0, .inl (dA 0, 12, .inl g2_0))]) [0, 1, 2, 3, 4, 5, 6, 7, 8, 9] rfl
        have hD9 := hD.sub (ws' := [(qo, .inr (4, [.int qk, .int qa, .int qb, .int qd, .int qw, .int qn])), (tt 0, .inr (9, [.ref (tt 1), .ref (tt 3), .ref (tt 5), .int (nI nm)])), (tt 1, .inr (5, [.ref (tt 2)])), (tt 2, .inl (dA 0, 84, .inl tw)), (tt 3, .inr (5, [.ref (tt 4)])), (tt 4, .inl (dA 0, 84, .inl tp)), (tt 5, .inr (5, [.ref (tt 6)])), (tt 6, .inl (dA 0, 84, .inl tx)), (h, .inr (5, [.ref r0])), (r0, .inl (dA 0, 12, .inl g2_0))]) [0, 1, 2, 3, 4, 5, 6, 7, 8, 9] (by decide) rfl
        exact W.vret hx hb hr (fun t ht hW => ⟨⟨g2_0, rfl, trivial, ⟨by rw [ht]; exact hP9, hD9⟩⟩, hS.F ht⟩) hS.2.2 dX1_mark_66
      · replace c1 := mt (nI_leI (a := nm) (b := i2) (by omega) (by omega)).mpr c1
        refine lv_aload_n hx hb dX1_mark_10 rfl (lv_at hl 2 rfl) ?_
        refine va_getN (D := D) (ci := 9) (v := .ref (tt 1)) (C := RX6) (T := TX6) (N := 4) hx hb hts inAX6 hown hK hP 1 rfl rfl 0 (by decide) (va_Nw.use rfl (hZ.1.2.2.1 _ (List.mem_of_getElem? (i := 2) rfl))) (fun _ h9 => h9) rfl dX1_mark_11 ?_
        refine lv_iload_n hx hb dX1_mark_14 rfl (lv_at hl 0 rfl) ?_
        have hPc := hP.sub (ws' := [(tt 1, .inr (5, [.ref (tt 2)])), (tt 2, .inl (dA 0, 84, .inl tw))]) [2, 3] rfl
        have hDc := hD.sub (ws' := [(tt 1, .inr (5, [.ref (tt 2)])), (tt 2, .inl (dA 0, 84, .inl tw))]) [2, 3] (by decide) rfl
        have hFc := va_free (wc := [(tt 1, .inr (5, [.ref (tt 2)])), (tt 2, .inl (dA 0, 84, .inl tw))]) hD hS hA [2, 3] rfl
        refine va_calli (va_runV (As := [.int (nI i2)]) (rest := []) ⟨hx, hb, hml, hown, hts⟩ (t_getN l D dA E (tt 1) (tt 2) 84 tw i2 H.size  (by omega) (by decide)) (cwV 1 hts (ga_V q420 q203 q200 q204 q201) rfl rfl rfl (by decide +kernel) ⟨(Nat.le_of_ble_eq_true rfl), (Nat.le_of_ble_eq_true rfl)⟩) ⟨pb_blind, va_recv hK hPc (ci := 5) (q0 := 0) rfl rfl, pb_pre hK hPc hDc hZ hS hFc _⟩ rfl rfl hl.1 rfl (lv_room (Nat.le_of_ble_eq_true rfl)) dX1_mark_15 ⟨(Nat.le_of_ble_eq_true rfl), (Nat.le_of_ble_eq_true rfl)⟩) hS (fun q _ h => hFc q h) hFc (fun r u t H1 locs ht hvm hw hB hz1 hk1 hS => ?_)
        refine W.widen (k := 0) (n := 0) (Nat.le_of_ble_eq_true rfl) (Nat.le_of_ble_eq_true rfl) ?_
        obtain ⟨r2, rfl⟩ : ∃ z, z = r := ⟨_, rfl⟩
        obtain ⟨u3, rfl⟩ : ∃ z, z = u := ⟨_, rfl⟩
        have hw4 := hw
        clear hw
        obtain ⟨hP1, hD1⟩ := hB
        rw [ht] at hP1
        obtain ⟨hP, hD⟩ := va_join (wr := [(qo, .inr (4, [.int qk, .int qa, .int qb, .int qd, .int qw, .int qn])), (tt 0, .inr (9, [.ref (tt 1), .ref (tt 3), .ref (tt 5), .int (nI nm)])), (tt 3, .inr (5, [.ref (tt 4)])), (tt 4, .inl (dA 0, 84, .inl tp)), (tt 5, .inr (5, [.ref (tt 6)])), (tt 6, .inl (dA 0, 84, .inl tx)), (h, .inr (5, [.ref r0])), (r0, .inl (dA 0, 12, .inl g2_0))]) (w1 := [(tt 1, .inr (5, [.ref (tt 2)])), (tt 2, .inl (dA 0, 84, .inl tw))]) hP hD [2, 3] [0, 1, 4, 5, 6, 7, 8, 9] rfl rfl (by decide) (by decide) hk1 hFc hP1 hD1
        generalize H1 = H at hP hS ⊢
        have hP : va_P D vwCl [(qo, .inr (4, [.int qk, .int qa, .int qb, .int qd, .int qw, .int qn])), (tt 0, .inr (9, [.ref (tt 1), .ref (tt 3), .ref (tt 5), .int (nI nm)])), (tt 3, .inr (5, [.ref (tt 4)])), (tt 4, .inl (dA 0, 84, .inl tp)), (tt 5, .inr (5, [.ref (tt 6)])), (tt 6, .inl (dA 0, 84, .inl tx)), (h, .inr (5, [.ref r0])), (r0, .inl (dA 0, 12, .inl g2_0)), (tt 1, .inr (5, [.ref (tt 2)])), (tt 2, .inl (dA 0, 84, .inl tw))] H := hP
        have hD : va_D A [(qo, .inr (4, [.int qk, .int qa, .int qb, .int qd, .int qw, .int qn])), (tt 0, .inr (9, [.ref (tt 1), .ref (tt 3), .ref (tt 5), .int (nI nm)])), (tt 3, .inr (5, [.ref (tt 4)])), (tt 4, .inl (dA 0, 84, .inl tp)), (tt 5, .inr (5, [.ref (tt 6)])), (tt 6, .inl (dA 0, 84, .inl tx)), (h, .inr (5, [.ref r0])), (r0, .inl (dA 0, 12, .inl g2_0)), (tt 1, .inr (5, [.ref (tt 2)])), (tt 2, .inl (dA 0, 84, .inl tw))] := hD
        obtain rfl : r2 = tw i2 := hw4
        refine lv_aload_n hx hb dX1_mark_18 rfl (lv_at hl 1 rfl) ?_
        refine va_get (D := D) (ci := 4) (v := .int qa) (C := RX1) (T := TX1) (N := 6) hx hb hts inAX1 hown hK hP 0 rfl rfl 1 (by decide) (hts _ q302) (fun _ h9 => h9) rfl dX1_mark_19 ?_
        refine lv_icmp_eq (tgt := 28) hx hb dX1_mark_22 (by decide) (fun c5 => ?_) (fun c5 => ?_)
        · refine lv_aload_n hx hb dX1_mark_28 rfl (lv_at hl 1 rfl) ?_
          refine va_get (D := D) (ci := 4) (v := .int qk) (C := RX1) (T := TX1) (N := 6) hx hb hts inAX1 hown hK hP 0 rfl rfl 0 (by decide) (hts _ q301) (fun _ h9 => h9) rfl dX1_mark_29 ?_
          refine lv_bipush (v := 119) hx hb dX1_mark_32 (by decide) ?_
          refine lv_icmp_ne (tgt := 53) hx hb dX1_mark_34 (by decide) (fun c6 => ?_) (fun c6 => ?_)
          · refine lv_aload_n hx hb dX1_mark_53 rfl (lv_at hl 1 rfl) ?_
            refine lv_aload_n hx hb dX1_mark_54 rfl (lv_at hl 2 rfl) ?_
            refine lv_iload_n hx hb dX1_mark_55 rfl (lv_at hl 0 rfl) ?_
            refine lv_aload_n hx hb dX1_mark_56 rfl (lv_at hl 3 rfl) ?_
            have hPc := hP.sub (ws' := [(qo, .inr (4, [.int qk, .int qa, .int qb, .int qd, .int qw, .int qn])), (tt 0, .inr (9, [.ref (tt 1), .ref (tt 3), .ref (tt 5), .int (nI nm)])), (tt 1, .inr (5, [.ref (tt 2)])), (tt 2, .inl (dA 0, 84, .inl tw)), (tt 3, .inr (5, [.ref (tt 4)])), (tt 4, .inl (dA 0, 84, .inl tp)), (tt 5, .inr (5, [.ref (tt 6)])), (tt 6, .inl (dA 0, 84, .inl tx)), (h, .inr (5, [.ref r0])), (r0, .inl (dA 0, 12, .inl g2_0))]) [0, 1, 8, 9, 2, 3, 4, 5, 6, 7] rfl
            have hDc := hD.sub (ws' := [(qo, .inr (4, [.int qk, .int qa, .int qb, .int qd, .int qw, .int qn])), (tt 0, .inr (9, [.ref (tt 1), .ref (tt 3), .ref (tt 5), .int (nI nm)])), (tt 1, .inr (5, [.ref (tt 2)])), (tt 2, .inl (dA 0, 84, .inl tw)), (tt 3, .inr (5, [.ref (tt 4)])), (tt 4, .inl (dA 0, 84, .inl tp)), (tt 5, .inr (5, [.ref (tt 6)])), (tt 6, .inl (dA 0, 84, .inl tx)), (h, .inr (5, [.ref r0])), (r0, .inl (dA 0, 12, .inl g2_0))]) [0, 1, 8, 9, 2, 3, 4, 5, 6, 7] (by decide) rfl
            have hFc := va_free (wc := [(qo, .inr (4, [.int qk, .int qa, .int qb, .int qd, .int qw, .int qn])), (tt 0, .inr (9, [.ref (tt 1), .ref (tt 3), .ref (tt 5), .int (nI nm)])), (tt 1, .inr (5, [.ref (tt 2)])), (tt 2, .inl (dA 0, 84, .inl tw)), (tt 3, .inr (5, [.ref (tt 4)])), (tt 4, .inl (dA 0, 84, .inl tp)), (tt 5, .inr (5, [.ref (tt 6)])), (tt 6, .inl (dA 0, 84, .inl tx)), (h, .inr (5, [.ref r0])), (r0, .inl (dA 0, 12, .inl g2_0))]) hD hS hA [0, 1, 8, 9, 2, 3, 4, 5, 6, 7] rfl
            refine va_callv (va_runV (As := [.ref (tt 0), .int (nI i2), .ref h]) (rest := []) ⟨hx, hb, hml, hown, hts⟩ (q_markCouples l D dA E qo qk qa qb qd qw qn tt tw tp tx nm i2 h r0 g2_0 H.size  (by omega) (by omega)) (cwV 3 hts (ga_V q435 q436 q433 q414 q434) rfl rfl rfl (by decide +kernel) ⟨(Nat.le_of_ble_eq_true rfl), (Nat.le_of_ble_eq_true rfl)⟩) ⟨pb_blind, va_recv hK hPc (ci := 4) (q0 := 0) rfl rfl, pb_pre hK hPc hDc hZ hS hFc _⟩ rfl rfl hl.1 rfl (lv_room (Nat.le_of_ble_eq_true rfl)) dX1_mark_57 ⟨(Nat.le_of_ble_eq_true rfl), (Nat.le_of_ble_eq_true rfl)⟩) hS (fun q _ h => hFc q h) hFc (fun u t H1 locs ht hvm hw hB hz1 hk1 hS => ?_)
            refine W.widen (k := 0) (n := 0) (Nat.le_of_ble_eq_true rfl) (Nat.le_of_ble_eq_true rfl) ?_
            obtain ⟨u7, rfl⟩ : ∃ z, z = u := ⟨_, rfl⟩
            have hw8 := hw
            clear hw
            obtain ⟨hP1, hD1⟩ := hB
            rw [ht] at hP1
            obtain ⟨hP, hD⟩ := va_join (wr := []) (w1 := [(qo, .inr (4, [.int qk, .int qa, .int qb, .int qd, .int qw, .int qn])), (tt 0, .inr (9, [.ref (tt 1), .ref (tt 3), .ref (tt 5), .int (nI nm)])), (tt 1, .inr (5, [.ref (tt 2)])), (tt 2, .inl (dA 0, 84, .inl tw)), (tt 3, .inr (5, [.ref (tt 4)])), (tt 4, .inl (dA 0, 84, .inl tp)), (tt 5, .inr (5, [.ref (tt 6)])), (tt 6, .inl (dA 0, 84, .inl tx)), (h, .inr (5, [.ref r0])), (r0, .inl (dA 0, 12, .inl u7))]) hP hD [0, 1, 8, 9, 2, 3, 4, 5, 6, 7] [] rfl rfl (by decide) (by decide) hk1 hFc hP1 hD1
            generalize H1 = H at hP hS ⊢
            have hP : va_P D vwCl [(qo, .inr (4, [.int qk, .int qa, .int qb, .int qd, .int qw, .int qn])), (tt 0, .inr (9, [.ref (tt 1), .ref (tt 3), .ref (tt 5), .int (nI nm)])), (tt 1, .inr (5, [.ref (tt 2)])), (tt 2, .inl (dA 0, 84, .inl tw)), (tt 3, .inr (5, [.ref (tt 4)])), (tt 4, .inl (dA 0, 84, .inl tp)), (tt 5, .inr (5, [.ref (tt 6)])), (tt 6, .inl (dA 0, 84, .inl tx)), (h, .inr (5, [.ref r0])), (r0, .inl (dA 0, 12, .inl u7))] H := hP
            have hD : va_D A [(qo, .inr (4, [.int qk, .int qa, .int qb, .int qd, .int qw, .int qn])), (tt 0, .inr (9, [.ref (tt 1), .ref (tt 3), .ref (tt 5), .int (nI nm)])), (tt 1, .inr (5, [.ref (tt 2)])), (tt 2, .inl (dA 0, 84, .inl tw)), (tt 3, .inr (5, [.ref (tt 4)])), (tt 4, .inl (dA 0, 84, .inl tp)), (tt 5, .inr (5, [.ref (tt 6)])), (tt 6, .inl (dA 0, 84, .inl tx)), (h, .inr (5, [.ref r0])), (r0, .inl (dA 0, 12, .inl u7))] := hD
            refine lv_iinc (v := nI (i2 + 1)) (lv' := [(3, .int (nI (i2 + 1))), (0, .ref qo), (1, .ref (tt 0)), (2, .ref h)]) hx hb dX1_mark_60 hl (k := 0) rfl (nI_add i2 1) (by decide) rfl (fun ls hl => ?_)
            refine lv_goto (tgt := 2) hx hb dX1_mark_63 (by decide) ?_
            exact ih2 (i2 + 1) u7 (by omega) (by omega) (by omega) trivial _ _ hP hD hS ls (lv_sub hl [0, 1, 2, 3] rfl)
          · refine lv_aload_n hx hb dX1_mark_37 rfl (lv_at hl 3 rfl) ?_
            refine lv_aload_n hx hb dX1_mark_38 rfl (lv_at hl 2 rfl) ?_
            refine va_getN (D := D) (ci := 9) (v := .ref (tt 5)) (C := RX6) (T := TX6) (N := 4) hx hb hts inAX6 hown hK hP 1 rfl rfl 2 (by decide) (va_Nw.use rfl (hZ.1.2.2.1 _ (List.mem_of_getElem? (i := 4) rfl))) (fun _ h9 => h9) rfl dX1_mark_39 ?_
            refine lv_iload_n hx hb dX1_mark_42 rfl (lv_at hl 0 rfl) ?_
            have hPc := hP.sub (ws' := [(tt 5, .inr (5, [.ref (tt 6)])), (tt 6, .inl (dA 0, 84, .inl tx))]) [4, 5] rfl
            have hDc := hD.sub (ws' := [(tt 5, .inr (5, [.ref (tt 6)])), (tt 6, .inl (dA 0, 84, .inl tx))]) [4, 5] (by decide) rfl
            have hFc := va_free (wc := [(tt 5, .inr (5, [.ref (tt 6)])), (tt 6, .inl (dA 0, 84, .inl tx))]) hD hS hA [4, 5] rfl
            refine va_calli (va_runV (As := [.int (nI i2)]) (rest := [.ref h]) ⟨hx, hb, hml, hown, hts⟩ (t_getN l D dA E (tt 5) (tt 6) 84 tx i2 H.size  (by omega) (by decide)) (cwV 1 hts (ga_V q420 q203 q200 q204 q201) rfl rfl rfl (by decide +kernel) ⟨(Nat.le_of_ble_eq_true rfl), (Nat.le_of_ble_eq_true rfl)⟩) ⟨pb_blind, va_recv hK hPc (ci := 5) (q0 := 0) rfl rfl, pb_pre hK hPc hDc hZ hS hFc _⟩ rfl rfl hl.1 rfl (lv_room (Nat.le_of_ble_eq_true rfl)) dX1_mark_43 ⟨(Nat.le_of_ble_eq_true rfl), (Nat.le_of_ble_eq_true rfl)⟩) hS (fun q _ h => hFc q h) hFc (fun r u t H1 locs ht hvm hw hB hz1 hk1 hS => ?_)
            refine W.widen (k := 0) (n := 0) (Nat.le_of_ble_eq_true rfl) (Nat.le_of_ble_eq_true rfl) ?_
            obtain ⟨r9, rfl⟩ : ∃ z, z = r := ⟨_, rfl⟩
            obtain ⟨u10, rfl⟩ : ∃ z, z = u := ⟨_, rfl⟩
            have hw11 := hw
            clear hw
            obtain ⟨hP1, hD1⟩ := hB
            rw [ht] at hP1
            obtain ⟨hP, hD⟩ := va_join (wr := [(qo, .inr (4, [.int qk, .int qa, .int qb, .int qd, .int qw, .int qn])), (tt 0, .inr (9, [.ref (tt 1), .ref (tt 3), .ref (tt 5), .int (nI nm)])), (tt 3, .inr (5, [.ref (tt 4)])), (tt 4, .inl (dA 0, 84, .inl tp)), (h, .inr (5, [.ref r0])), (r0, .inl (dA 0, 12, .inl g2_0)), (tt 1, .inr (5, [.ref (tt 2)])), (tt 2, .inl (dA 0, 84, .inl tw))]) (w1 := [(tt 5, .inr (5, [.ref (tt 6)])), (tt 6, .inl (dA 0, 84, .inl tx))]) hP hD [4, 5] [0, 1, 2, 3, 6, 7, 8, 9] rfl rfl (by decide) (by decide) hk1 hFc hP1 hD1
            generalize H1 = H at hP hS ⊢
            have hP : va_P D vwCl [(qo, .inr (4, [.int qk, .int qa, .int qb, .int qd, .int qw, .int qn])), (tt 0, .inr (9, [.ref (tt 1), .ref (tt 3), .ref (tt 5), .int (nI nm)])), (tt 3, .inr (5, [.ref (tt 4)])), (tt 4, .inl (dA 0, 84, .inl tp)), (h, .inr (5, [.ref r0])), (r0, .inl (dA 0, 12, .inl g2_0)), (tt 1, .inr (5, [.ref (tt 2)])), (tt 2, .inl (dA 0, 84, .inl tw)), (tt 5, .inr (5, [.ref (tt 6)])), (tt 6, .inl (dA 0, 84, .inl tx))] H := hP
            have hD : va_D A [(qo, .inr (4, [.int qk, .int qa, .int qb, .int qd, .int qw, .int qn])), (tt 0, .inr (9, [.ref (tt 1), .ref (tt 3), .ref (tt 5), .int (nI nm)])), (tt 3, .inr (5, [.ref (tt 4)])), (tt 4, .inl (dA 0, 84, .inl tp)), (h, .inr (5, [.ref r0])), (r0, .inl (dA 0, 12, .inl g2_0)), (tt 1, .inr (5, [.ref (tt 2)])), (tt 2, .inl (dA 0, 84, .inl tw)), (tt 5, .inr (5, [.ref (tt 6)])), (tt 6, .inl (dA 0, 84, .inl tx))] := hD
            obtain rfl : r9 = tx i2 := hw11
            refine lv_iconst (v := 1) hx hb dX1_mark_46 (by decide) ?_
            have hPc := hP.sub (ws' := [(h, .inr (5, [.ref r0])), (r0, .inl (dA 0, 12, .inl g2_0))]) [4, 5] rfl
            have hDc := hD.sub (ws' := [(h, .inr (5, [.ref r0])), (r0, .inl (dA 0, 12, .inl g2_0))]) [4, 5] (by decide) rfl
            have hFc := va_free (wc := [(h, .inr (5, [.ref r0])), (r0, .inl (dA 0, 12, .inl g2_0))]) hD hS hA [4, 5] rfl
            refine va_callv (va_runV (As := [.int (tx i2), .int 1]) (rest := []) ⟨hx, hb, hml, hown, hts⟩ (t_put l D dA E h r0 12 g2_0 (tx i2) 1 H.size  (by decide)) (cwV 2 hts (ga_V q419 q210 q207 q204 q208) rfl rfl rfl (by decide +kernel) ⟨(Nat.le_of_ble_eq_true rfl), (Nat.le_of_ble_eq_true rfl)⟩) ⟨pb_blind, va_recv hK hPc (ci := 5) (q0 := 0) rfl rfl, pb_pre hK hPc hDc hZ hS hFc _⟩ rfl rfl hl.1 rfl (lv_room (Nat.le_of_ble_eq_true rfl)) dX1_mark_47 ⟨(Nat.le_of_ble_eq_true rfl), (Nat.le_of_ble_eq_true rfl)⟩) hS (fun q _ h => hFc q h) hFc (fun u t H1 locs ht hvm hw hB hz1 hk1 hS => ?_)
            refine W.widen (k := 0) (n := 0) (Nat.le_of_ble_eq_true rfl) (Nat.le_of_ble_eq_true rfl) ?_
            obtain ⟨u12, rfl⟩ : ∃ z, z = u := ⟨_, rfl⟩
            have hw13 := hw
            clear hw
            obtain ⟨hP1, hD1⟩ := hB
            rw [ht] at hP1
            obtain ⟨hP, hD⟩ := va_join (wr := [(qo, .inr (4, [.int qk, .int qa, .int qb, .int qd, .int qw, .int qn])), (tt 0, .inr (9, [.ref (tt 1), .ref (tt 3), .ref (tt 5), .int (nI nm)])), (tt 3, .inr (5, [.ref (tt 4)])), (tt 4, .inl (dA 0, 84, .inl tp)), (tt 1, .inr (5, [.ref (tt 2)])), (tt 2, .inl (dA 0, 84, .inl tw)), (tt 5, .inr (5, [.ref (tt 6)])), (tt 6, .inl (dA 0, 84, .inl tx))]) (w1 := [(h, .inr (5, [.ref r0])), (r0, .inl (dA 0, 12, .inl u12))]) hP hD [4, 5] [0, 1, 2, 3, 6, 7, 8, 9] rfl rfl (by decide) (by decide) hk1 hFc hP1 hD1
            generalize H1 = H at hP hS ⊢
            have hP : va_P D vwCl [(qo, .inr (4, [.int qk, .int qa, .int qb, .int qd, .int qw, .int qn])), (tt 0, .inr (9, [.ref (tt 1), .ref (tt 3), .ref (tt 5), .int (nI nm)])), (tt 3, .inr (5, [.ref (tt 4)])), (tt 4, .inl (dA 0, 84, .inl tp)), (tt 1, .inr (5, [.ref (tt 2)])), (tt 2, .inl (dA 0, 84, .inl tw)), (tt 5, .inr (5, [.ref (tt 6)])), (tt 6, .inl (dA 0, 84, .inl tx)), (h, .inr (5, [.ref r0])), (r0, .inl (dA 0, 12, .inl u12))] H := hP
            have hD : va_D A [(qo, .inr (4, [.int qk, .int qa, .int qb, .int qd, .int qw, .int qn])), (tt 0, .inr (9, [.ref (tt 1), .ref (tt 3), .ref (tt 5), .int (nI nm)])), (tt 3, .inr (5, [.ref (tt 4)])), (tt 4, .inl (dA 0, 84, .inl tp)), (tt 1, .inr (5, [.ref (tt 2)])), (tt 2, .inl (dA 0, 84, .inl tw)), (tt 5, .inr (5, [.ref (tt 6)])), (tt 6, .inl (dA 0, 84, .inl tx)), (h, .inr (5, [.ref r0])), (r0, .inl (dA 0, 12, .inl u12))] := hD
            refine lv_goto (tgt := 60) hx hb dX1_mark_50 (by decide) ?_
            refine lv_iinc (v := nI (i2 + 1)) (lv' := [(3, .int (nI (i2 + 1))), (0, .ref qo), (1, .ref (tt 0)), (2, .ref h)]) hx hb dX1_mark_60 hl (k := 0) rfl (nI_add i2 1) (by decide) rfl (fun ls hl => ?_)
            refine lv_goto (tgt := 2) hx hb dX1_mark_63 (by decide) ?_
            have hP := hP.sub (ws' := [(qo, .inr (4, [.int qk, .int qa, .int qb, .int qd, .int qw, .int qn])), (tt 0, .inr (9, [.ref (tt 1), .ref (tt 3), .ref (tt 5), .int (nI nm)])), (tt 1, .inr (5, [.ref (tt 2)])), (tt 2, .inl (dA 0, 84, .inl tw)), (tt 3, .inr (5, [.ref (tt 4)])), (tt 4, .inl (dA 0, 84, .inl tp)), (tt 5, .inr (5, [.ref (tt 6)])), (tt 6, .inl (dA 0, 84, .inl tx)), (h, .inr (5, [.ref r0])), (r0, .inl (dA 0, 12, .inl u12))]) [0, 1, 4, 5, 2, 3, 6, 7, 8, 9] rfl
            have hD := hD.sub (ws' := [(qo, .inr (4, [.int qk, .int qa, .int qb, .int qd, .int qw, .int qn])), (tt 0, .inr (9, [.ref (tt 1), .ref (tt 3), .ref (tt 5), .int (nI nm)])), (tt 1, .inr (5, [.ref (tt 2)])), (tt 2, .inl (dA 0, 84, .inl tw)), (tt 3, .inr (5, [.ref (tt 4)])), (tt 4, .inl (dA 0, 84, .inl tp)), (tt 5, .inr (5, [.ref (tt 6)])), (tt 6, .inl (dA 0, 84, .inl tx)), (h, .inr (5, [.ref r0])), (r0, .inl (dA 0, 12, .inl u12))]) [0, 1, 4, 5, 2, 3, 6, 7, 8, 9] (by decide) rfl
            exact ih2 (i2 + 1) u12 (by omega) (by omega) (by omega) trivial _ _ hP hD hS ls (lv_sub hl [0, 1, 2, 3] rfl)
        · refine lv_goto (tgt := 60) hx hb dX1_mark_25 (by decide) ?_
          refine lv_iinc (v := nI (i2 + 1)) (lv' := [(3, .int (nI (i2 + 1))), (0, .ref qo), (1, .ref (tt 0)), (2, .ref h)]) hx hb dX1_mark_60 hl (k := 0) rfl (nI_add i2 1) (by decide) rfl (fun ls hl => ?_)
          refine lv_goto (tgt := 2) hx hb dX1_mark_63 (by decide) ?_
          have hP := hP.sub (ws' := [(qo, .inr (4, [.int qk, .int qa, .int qb, .int qd, .int qw, .int qn])), (tt 0, .inr (9, [.ref (tt 1), .ref (tt 3), .ref (tt 5), .int (nI nm)])), (tt 1, .inr (5, [.ref (tt 2)])), (tt 2, .inl (dA 0, 84, .inl tw)), (tt 3, .inr (5, [.ref (tt 4)])), (tt 4, .inl (dA 0, 84, .inl tp)), (tt 5, .inr (5, [.ref (tt 6)])), (tt 6, .inl (dA 0, 84, .inl tx)), (h, .inr (5, [.ref r0])), (r0, .inl (dA 0, 12, .inl g2_0))]) [0, 1, 8, 9, 2, 3, 4, 5, 6, 7] rfl
          have hD := hD.sub (ws' := [(qo, .inr (4, [.int qk, .int qa, .int qb, .int qd, .int qw, .int qn])), (tt 0, .inr (9, [.ref (tt 1), .ref (tt 3), .ref (tt 5), .int (nI nm)])), (tt 1, .inr (5, [.ref (tt 2)])), (tt 2, .inl (dA 0, 84, .inl tw)), (tt 3, .inr (5, [.ref (tt 4)])), (tt 4, .inl (dA 0, 84, .inl tp)), (tt 5, .inr (5, [.ref (tt 6)])), (tt 6, .inl (dA 0, 84, .inl tx)), (h, .inr (5, [.ref r0])), (r0, .inl (dA 0, 12, .inl g2_0))]) [0, 1, 8, 9, 2, 3, 4, 5, 6, 7] (by decide) rfl
          exact ih2 (i2 + 1) g2_0 (by omega) (by omega) (by omega) trivial _ _ hP hD hS ls (lv_sub hl [0, 1, 2, 3] rfl)
  exact K2 (nm + 1) 0 mm (by omega) (by omega) (by omega) trivial _ _ hP hD hS ls hl
