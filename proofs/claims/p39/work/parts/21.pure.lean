/-! pure facts -/
-- gm1
theorem nb01 {y : Int32} (h : y = 0 ∨ y = 1) : narrow .boolean (.int y) = .int y := by rcases h with h | h <;> rw [h] <;> rfl

-- gm2
theorem sub1_toInt {n : Nat} (hn : n ≤ 1000) : (nI n - 1).toInt = (n : Int) - 1 := pk_sub_toInt (a := n) (b := 1) (by omega) (by omega)
theorem inD {n : Nat} (hn : n ≤ 1000) {p : Int32} : inR 0 (nI n - 1) p = true ↔ ∃ j, j < n ∧ p = nI j := by
  unfold inR
  rw [Bool.and_eq_true, Bool.not_eq_true', Bool.not_eq_true', decide_eq_false_iff_not, decide_eq_false_iff_not]
  constructor
  · rintro ⟨h0, h1⟩
    obtain ⟨j, hj, rfl⟩ := nI_of h0
    refine ⟨j, ?_, rfl⟩
    rw [Int32.lt_iff_toInt_lt, sub1_toInt hn, nI_toInt hj] at h1
    omega
  · rintro ⟨j, hj, rfl⟩
    refine ⟨nI_pos (by omega), ?_⟩
    rw [Int32.lt_iff_toInt_lt, sub1_toInt hn, nI_toInt (by omega)]
    omega
theorem gnb_ok (b : Bool) : narrow .boolean (.int (bI b)) = .int (bI b) := by cases b <;> rfl
theorem bI01 {r : Int32} {b : Bool} (h : r = bI b) : r = 0 ∨ r = 1 := by rw [h]; cases b; exact Or.inl rfl; exact Or.inr rfl

-- gm3
def AC (f : Nat → Int32) : Prop := ∀ j, vp_nar .char (f j) = f j
theorem AC_upd {f : Nat → Int32} {i : Nat} {x : Int32} (h : AC f) (hx : vp_nar .char x = x) : AC (upd f i (vp_nar .char x)) := by
  intro j
  unfold upd
  split
  · rw [hx]; exact hx
  · exact h j
theorem upd_all {P : Int32 → Prop} {f : Nat → Int32} {i : Nat} {x : Int32} (h : ∀ j, P (f j)) (hx : P x) : ∀ j, P (upd f i x j) := by
  intro j
  unfold upd
  split
  · exact hx
  · exact h j
theorem upd_below {f : Nat → Int32} {i : Nat} {x : Int32} (h : ∀ j, j < i → f j = x) : ∀ j, j < i + 1 → upd f i x j = x := by
  intro j hj
  unfold upd
  split
  · rfl
  · exact h j (by omega)

-- h1
def fl (φ g : Nat → Int32) (n : Nat) : Nat → Int32 := fun j => if j < n then φ j else g j
theorem fl_0 {φ g : Nat → Int32} : fl φ g 0 = g := by funext j; simp [fl]
theorem fl_in {φ g : Nat → Int32} {n j : Nat} (h : j < n) : fl φ g n j = φ j := by simp [fl, h]
theorem fl_out {φ g : Nat → Int32} {n j : Nat} (h : n ≤ j) : fl φ g n j = g j := by simp [fl, Nat.not_lt.mpr h]
theorem fl_succ {φ g : Nat → Int32} {n : Nat} {x : Int32} (h : x = φ n) : upd (fl φ g n) n x = fl φ g (n + 1) := by
  subst h
  funext j
  unfold upd fl
  by_cases h1 : j = n
  · subst h1; simp
  · by_cases h2 : j < n
    · simp [h1, h2, Nat.lt_succ_of_lt h2]
    · simp [h1, h2, show ¬ j < n + 1 by omega]
theorem fl_keep {φ g : Nat → Int32} {n : Nat} (h : φ n = g n) : fl φ g n = fl φ g (n + 1) := by
  funext j
  unfold fl
  by_cases h1 : j = n
  · subst h1; simp [h]
  · by_cases h2 : j < n
    · simp [h2, Nat.lt_succ_of_lt h2]
    · simp [h2, show ¬ j < n + 1 by omega]
def stB (w p : Nat → Int32) (a b : Int32) : Nat → Bool
  | 0 => false
  | n + 1 => stB w p a b n || (decide (w n = a) && decide (p n = b))
theorem stB_1 {w p : Nat → Int32} {a b : Int32} {n : Nat} (h : ¬ bI (stB w p a b n) = 0) : (1 : Int32) = bI (stB w p a b (n + 1)) := by
  cases h1 : stB w p a b n
  · rw [h1] at h; exact absurd rfl h
  · simp [stB, h1, bI]
theorem stB_n {w p : Nat → Int32} {a b : Int32} {n : Nat} (h : bI (stB w p a b n) = 0) (h2 : ¬ w n = a) : (0 : Int32) = bI (stB w p a b (n + 1)) := by
  cases h1 : stB w p a b n
  · simp [stB, h1, bI, h2]
  · rw [h1] at h; exact absurd h (by decide)
theorem stB_n2 {w p : Nat → Int32} {a b : Int32} {n : Nat} (h : bI (stB w p a b n) = 0) (h2 : ¬ p n = b) : (0 : Int32) = bI (stB w p a b (n + 1)) := by
  cases h1 : stB w p a b n
  · simp [stB, h1, bI, h2]
  · rw [h1] at h; exact absurd h (by decide)
theorem stB_y {w p : Nat → Int32} {a b : Int32} {n : Nat} (h2 : w n = a) (h3 : p n = b) : (1 : Int32) = bI (stB w p a b (n + 1)) := by simp [stB, h2, h3, bI]
def cntA (w p : Nat → Int32) (a b : Int32) : Nat → Nat
  | 0 => 0
  | n + 1 => cntA w p a b n + if w n = a ∧ p n < b then 1 else 0
theorem cntA_le (w p : Nat → Int32) (a b : Int32) : ∀ n, cntA w p a b n ≤ n
  | 0 => Nat.le_refl _
  | n + 1 => by
    have := cntA_le w p a b n
    unfold cntA
    split <;> omega
theorem cntA_y {w p : Nat → Int32} {a b : Int32} {n : Nat} (h1 : w n = a) (h2 : p n < b) : nI (cntA w p a b n + 1) = nI (cntA w p a b (n + 1)) := by simp [cntA, h1, h2]
theorem cntA_n {w p : Nat → Int32} {a b : Int32} {n : Nat} (h1 : ¬ w n = a) : nI (cntA w p a b n + 0) = nI (cntA w p a b (n + 1)) := by simp [cntA, h1]
theorem cntA_n2 {w p : Nat → Int32} {a b : Int32} {n : Nat} (h1 : b ≤ p n) : nI (cntA w p a b n + 0) = nI (cntA w p a b (n + 1)) := by simp [cntA, Int32.not_lt.mpr h1]
def tkf (c : Int32) (w p : Nat → Int32) (a : Int32) (n : Nat) (q : Int32) : Nat := if c = 0 then 0 else cntA w p a q n
theorem tkf_le (c : Int32) (w p : Nat → Int32) (a : Int32) (n : Nat) (q : Int32) : tkf c w p a n q ≤ n := by
  unfold tkf
  split
  · omega
  · exact cntA_le ..
def kpt (w : Nat → Int32) (a : Int32) : Nat → Nat
  | 0 => 0
  | n + 1 => kpt w a n + if w n = a then 0 else 1
theorem kpt_le (w : Nat → Int32) (a : Int32) : ∀ n, kpt w a n ≤ n
  | 0 => Nat.le_refl _
  | n + 1 => by
    have := kpt_le w a n
    unfold kpt
    split <;> omega
theorem kpt_y {w : Nat → Int32} {a : Int32} {n : Nat} (h : ¬ w n = a) : nI (kpt w a n + 1) = nI (kpt w a (n + 1)) := by simp [kpt, h]
theorem kpt_n {w : Nat → Int32} {a : Int32} {n : Nat} (h : w n = a) : nI (kpt w a n) = nI (kpt w a (n + 1)) := by simp [kpt, h]
def cmp (w : Nat → Int32) (a : Int32) (v g : Nat → Int32) : Nat → Nat → Int32
  | 0 => g
  | n + 1 => if w n = a then cmp w a v g n else upd (cmp w a v g n) (kpt w a n) (v n)
theorem cmp_at {w : Nat → Int32} {a : Int32} {v g : Nat → Int32} : ∀ {n j : Nat}, n ≤ j → cmp w a v g n j = g j
  | 0, _, _ => rfl
  | n + 1, j, h => by
    have h1 := kpt_le w a n
    unfold cmp
    split
    · exact cmp_at (by omega)
    · unfold upd
      rw [if_neg (by omega)]
      exact cmp_at (by omega)
theorem cmp_y {w : Nat → Int32} {a : Int32} {v g : Nat → Int32} {n : Nat} (h : ¬ w n = a) : upd (cmp w a v g n) (kpt w a n) (v n) = cmp w a v g (n + 1) := by
  show _ = if w n = a then cmp w a v g n else upd (cmp w a v g n) (kpt w a n) (v n)
  rw [if_neg h]
theorem cmp_n {w : Nat → Int32} {a : Int32} {v g : Nat → Int32} {n : Nat} (h : w n = a) : cmp w a v g n = cmp w a v g (n + 1) := by
  show _ = if w n = a then cmp w a v g n else upd (cmp w a v g n) (kpt w a n) (v n)
  rw [if_pos h]
/-- a text: how many words, the words, their places, their indexes -/
abbrev TXS : Type := Nat × (Nat → Int32) × (Nat → Int32) × (Nat → Int32)
def plF (c a : Int32) (s : TXS) (j : Nat) : Int32 := s.2.2.1 j - nI (tkf c s.2.1 s.2.2.1 a s.1 (s.2.2.1 j))
def tkS (c a : Int32) (s : TXS) : TXS := (kpt s.2.1 a s.1, cmp s.2.1 a s.2.1 s.2.1 s.1, cmp s.2.1 a (plF c a s) s.2.2.1 s.1, cmp s.2.1 a s.2.2.2 s.2.2.2 s.1)
def ptB (a b : Int32) (s0 : TXS) (k : Nat) (s : TXS) : TXS := if s0.2.1 k = a ∧ stB s.2.1 s.2.2.1 b (s0.2.2.1 k) s.1 = false then (s.1 + 1, upd s.2.1 s.1 b, upd s.2.2.1 s.1 (s0.2.2.1 k), upd s.2.2.2 s.1 (s0.2.2.2 k)) else s
def ptS (a b : Int32) (s0 : TXS) : Nat → TXS
  | 0 => s0
  | k + 1 => ptB a b s0 k (ptS a b s0 k)
theorem ptS_y {a b : Int32} {s0 : TXS} {k : Nat} (h1 : s0.2.1 k = a) (h2 : stB (ptS a b s0 k).2.1 (ptS a b s0 k).2.2.1 b (s0.2.2.1 k) (ptS a b s0 k).1 = false) : ptS a b s0 (k + 1) = ((ptS a b s0 k).1 + 1, upd (ptS a b s0 k).2.1 (ptS a b s0 k).1 b, upd (ptS a b s0 k).2.2.1 (ptS a b s0 k).1 (s0.2.2.1 k), upd (ptS a b s0 k).2.2.2 (ptS a b s0 k).1 (s0.2.2.2 k)) := if_pos ⟨h1, h2⟩
theorem ptS_n {a b : Int32} {s0 : TXS} {k : Nat} (h1 : ¬ s0.2.1 k = a) : ptS a b s0 (k + 1) = ptS a b s0 k := if_neg (fun h => h1 h.1)
theorem ptS_n2 {a b : Int32} {s0 : TXS} {k : Nat} (h2 : stB (ptS a b s0 k).2.1 (ptS a b s0 k).2.2.1 b (s0.2.2.1 k) (ptS a b s0 k).1 = true) : ptS a b s0 (k + 1) = ptS a b s0 k := if_neg (fun h => by rw [h2] at h; exact absurd h.2 (by decide))
theorem ptS_lt {a b : Int32} {s0 : TXS} : ∀ k, s0.1 ≤ (ptS a b s0 k).1 ∧ (ptS a b s0 k).1 ≤ s0.1 + k
  | 0 => ⟨Nat.le_refl _, Nat.le_refl _⟩
  | k + 1 => by
    have h := ptS_lt (a := a) (b := b) (s0 := s0) k
    show s0.1 ≤ (ptB a b s0 k (ptS a b s0 k)).1 ∧ (ptB a b s0 k (ptS a b s0 k)).1 ≤ s0.1 + (k + 1)
    unfold ptB
    split
    · exact ⟨by omega, by show (ptS a b s0 k).1 + 1 ≤ _; omega⟩
    · omega
theorem ptS_at {a b : Int32} {s0 : TXS} {j : Nat} (hj : j < s0.1) : ∀ k, (ptS a b s0 k).2.1 j = s0.2.1 j ∧ (ptS a b s0 k).2.2.1 j = s0.2.2.1 j ∧ (ptS a b s0 k).2.2.2 j = s0.2.2.2 j
  | 0 => ⟨rfl, rfl, rfl⟩
  | k + 1 => by
    have h := ptS_at (a := a) (b := b) hj k
    have h1 := (ptS_lt (a := a) (b := b) (s0 := s0) k).1
    show (ptB a b s0 k (ptS a b s0 k)).2.1 j = _ ∧ (ptB a b s0 k (ptS a b s0 k)).2.2.1 j = _ ∧ (ptB a b s0 k (ptS a b s0 k)).2.2.2 j = _
    unfold ptB
    split
    · show upd _ _ _ j = _ ∧ upd _ _ _ j = _ ∧ upd _ _ _ j = _
      unfold upd
      rw [if_neg (by omega), if_neg (by omega), if_neg (by omega)]
      exact h
    · exact h
def lowF (k v : Int32) : Int32 := if k = 108 ∧ ¬ v < 30 then v - 30 else if k = 109 ∧ v - v / 2 * 2 = 1 then v - 1 else v
def lwS (k : Int32) (s : TXS) : TXS := (s.1, fl (fun j => lowF k (s.2.1 j)) s.2.1 s.1, s.2.2.1, s.2.2.2)
def gtS (k a b : Int32) (s : TXS) : TXS := lwS k (if k = 115 ∨ k = 99 then tkS (bI (decide (k = 99))) a s else if k = 121 then ptS a b s s.1 else s)

-- h2
def cn (f : Nat → Bool) : Nat → Nat
  | 0 => 0
  | n + 1 => cn f n + if f n = true then 1 else 0
theorem cn_le (f : Nat → Bool) : ∀ n, cn f n ≤ n
  | 0 => Nat.le_refl _
  | n + 1 => by
    have := cn_le f n
    unfold cn
    split <;> omega
theorem cn_mono {f g : Nat → Bool} : ∀ n, (∀ i, i < n → f i = true → g i = true) → cn f n ≤ cn g n
  | 0, _ => Nat.le_refl _
  | n + 1, h => by
    have h1 := cn_mono n (fun i hi => h i (by omega))
    have h2 := h n (by omega)
    unfold cn
    split
    · next q => rw [if_pos (h2 q)]; omega
    · split <;> omega
theorem cn_more {f g : Nat → Bool} {j : Nat} : ∀ n, (∀ i, i < n → f i = true → g i = true) → j < n → f j = false → g j = true → cn f n + 1 ≤ cn g n
  | 0, _, hj, _, _ => absurd hj (by omega)
  | n + 1, h, hj, hf, hg => by
    unfold cn
    by_cases e : j = n
    · subst e
      have h1 := cn_mono j (fun i hi => h i (by omega))
      rw [if_neg (by rw [hf]; decide), if_pos hg]
      omega
    · have h1 := cn_more (j := j) n (fun i hi => h i (by omega)) (by omega) hf hg
      have h2 := h n (by omega)
      split
      · next q => rw [if_pos (h2 q)]; omega
      · split <;> omega
theorem cn_cong {f g : Nat → Bool} : ∀ n, (∀ i, i < n → f i = g i) → cn f n = cn g n
  | 0, _ => rfl
  | n + 1, h => by unfold cn; rw [cn_cong n (fun i hi => h i (by omega)), h n (by omega)]
theorem stB_iff {w p : Nat → Int32} {a b : Int32} : ∀ n, stB w p a b n = true ↔ ∃ k, k < n ∧ w k = a ∧ p k = b
  | 0 => ⟨fun h => absurd h (by simp [stB]), fun ⟨k, h, _⟩ => absurd h (by omega)⟩
  | n + 1 => by
    unfold stB
    rw [Bool.or_eq_true, stB_iff n, Bool.and_eq_true, decide_eq_true_eq, decide_eq_true_eq]
    constructor
    · rintro (⟨k, h1, h2⟩ | h)
      · exact ⟨k, by omega, h2⟩
      · exact ⟨n, by omega, h⟩
    · rintro ⟨k, h1, h2⟩
      rcases Nat.lt_or_ge k n with q | q
      · exact Or.inl ⟨k, q, h2⟩
      · obtain rfl : k = n := by omega
        exact Or.inr h2
/-- what a text keeps: at most 12 places, bounded; its indexes; its length -/
def TI (k : Nat) (s : TXS) : Prop := s.1 ≤ 12 + 12 * k ∧ (∀ j, j < s.1 → ∃ v, v < 12 ∧ s.2.2.2 j = nI v) ∧ ∃ π : Nat → Int32, (∀ i, -(96 * (k : Int)) ≤ (π i).toInt ∧ (π i).toInt ≤ 11) ∧ ∀ j, j < s.1 → ∃ i, i < 12 ∧ s.2.2.1 j = π i
theorem TI.mono {k : Nat} {s : TXS} (h : TI k s) : TI (k + 1) s := by
  obtain ⟨h1, h2, π, h3, h4⟩ := h
  exact ⟨by omega, h2, π, fun i => ⟨by have := (h3 i).1; omega, (h3 i).2⟩, h4⟩
theorem cmp_from {w v g : Nat → Int32} {a : Int32} : ∀ (n j : Nat), j < kpt w a n → ∃ i, i < n ∧ cmp w a v g n j = v i
  | 0, j, h => absurd h (by simp [kpt])
  | n + 1, j, h => by
    unfold cmp
    unfold kpt at h
    split at h
    · next q =>
      rw [if_pos q]
      obtain ⟨i, h1, h2⟩ := cmp_from (w := w) (a := a) (v := v) (g := g) n j (by omega)
      exact ⟨i, by omega, h2⟩
    · next q =>
      rw [if_neg q]
      unfold upd
      split
      · exact ⟨n, by omega, rfl⟩
      · obtain ⟨i, h1, h2⟩ := cmp_from (w := w) (a := a) (v := v) (g := g) n j (by omega)
        exact ⟨i, by omega, h2⟩
theorem TI_tk {k : Nat} {s : TXS} {c a : Int32} (hk : k < 6) (h : TI k s) : TI (k + 1) (tkS c a s) := by
  obtain ⟨h1, h2, π, h3, h4⟩ := h
  have hk1 := kpt_le s.2.1 a s.1
  refine ⟨by show kpt s.2.1 a s.1 ≤ _; omega, fun j hj => ?_, fun i => π i - nI (tkf c s.2.1 s.2.2.1 a s.1 (π i)), fun i => ?_, fun j hj => ?_⟩
  · obtain ⟨i, hi, e⟩ := cmp_from (w := s.2.1) (a := a) (v := s.2.2.2) (g := s.2.2.2) s.1 j hj
    obtain ⟨v, hv, e2⟩ := h2 i hi
    exact ⟨v, hv, e.trans e2⟩
  · have hm := tkf_le c s.2.1 s.2.2.1 a s.1 (π i)
    obtain ⟨q1, q2⟩ := h3 i
    have key : ∀ m : Nat, m ≤ 96 → -(96 * ((k + 1 : Nat) : Int)) ≤ (π i - nI m).toInt ∧ (π i - nI m).toInt ≤ 11 := by
      intro m hm
      have e : (π i - nI m).toInt = (π i).toInt - m := by
        rw [Int32.toInt_sub, nI_toInt (by omega)]
        exact Int.bmod_eq_of_le (by omega) (by omega)
      rw [e]
      omega
    exact key _ (by omega)
  · obtain ⟨i, hi, e⟩ := cmp_from (w := s.2.1) (a := a) (v := plF c a s) (g := s.2.2.1) s.1 j hj
    obtain ⟨q, hq, e2⟩ := h4 i hi
    refine ⟨q, hq, e.trans ?_⟩
    unfold plF
    rw [e2]
theorem TI_ptk {n : Nat} {s : TXS} {a b : Int32} {π : Nat → Int32} (hn : s.1 = n) (h2 : ∀ j, j < s.1 → ∃ v, v < 12 ∧ s.2.2.2 j = nI v) (h4 : ∀ j, j < s.1 → ∃ i, i < 12 ∧ s.2.2.1 j = π i) : ∀ k, k ≤ n → (ptS a b s k).1 ≤ n + cn (fun i => stB (ptS a b s k).2.1 (ptS a b s k).2.2.1 b (π i) (ptS a b s k).1) 12 ∧ (∀ j, j < (ptS a b s k).1 → ∃ v, v < 12 ∧ (ptS a b s k).2.2.2 j = nI v) ∧ ∀ j, j < (ptS a b s k).1 → ∃ i, i < 12 ∧ (ptS a b s k).2.2.1 j = π i
  | 0, _ => ⟨by show s.1 ≤ _; omega, h2, h4⟩
  | k + 1, hk => by
    obtain ⟨q1, q2, q3⟩ := TI_ptk (a := a) (b := b) hn h2 h4 k (by omega)
    by_cases c1 : s.2.1 k = a
    · cases c2 : stB (ptS a b s k).2.1 (ptS a b s k).2.2.1 b (s.2.2.1 k) (ptS a b s k).1
      · rw [ptS_y c1 c2]
        generalize ptS a b s k = t at *
        obtain ⟨i0, hi0, e0⟩ := h4 k (by omega)
        refine ⟨?_, fun j hj => ?_, fun j hj => ?_⟩
        · have h9 := cn_more (f := fun i => stB t.2.1 t.2.2.1 b (π i) t.1) (g := fun i => stB (upd t.2.1 t.1 b) (upd t.2.2.1 t.1 (s.2.2.1 k)) b (π i) (t.1 + 1)) (j := i0) 12 (fun i hi hf => by
            obtain ⟨j, hj, e1, e2⟩ := (stB_iff _).mp hf
            refine (stB_iff _).mpr ⟨j, by omega, ?_, ?_⟩
            · unfold upd; rw [if_neg (by omega)]; exact e1
            · unfold upd; rw [if_neg (by omega)]; exact e2) hi0 (by rw [← e0]; exact c2) ((stB_iff _).mpr ⟨t.1, by omega, by unfold upd; rw [if_pos rfl], by unfold upd; rw [if_pos rfl]; exact e0⟩)
          show t.1 + 1 ≤ _
          simp only
          omega
        · show ∃ v, v < 12 ∧ upd _ _ _ j = nI v
          unfold upd
          split
          · exact h2 k (by omega)
          · exact q2 j (by have : j < t.1 + 1 := hj; omega)
        · show ∃ i, i < 12 ∧ upd _ _ _ j = π i
          unfold upd
          split
          · exact ⟨i0, hi0, e0⟩
          · exact q3 j (by have : j < t.1 + 1 := hj; omega)
      · rw [ptS_n2 c2]; exact ⟨q1, q2, q3⟩
    · rw [ptS_n c1]; exact ⟨q1, q2, q3⟩
theorem TI_pt {k : Nat} {s : TXS} {a b : Int32} (h : TI k s) : TI (k + 1) (ptS a b s s.1) := by
  obtain ⟨h1, h2, π, h3, h4⟩ := h
  obtain ⟨q1, q2, q3⟩ := TI_ptk (a := a) (b := b) rfl h2 h4 s.1 (Nat.le_refl _)
  have q4 := cn_le (fun i => stB (ptS a b s s.1).2.1 (ptS a b s s.1).2.2.1 b (π i) (ptS a b s s.1).1) 12
  exact ⟨by omega, q2, π, fun i => ⟨by have := (h3 i).1; omega, (h3 i).2⟩, q3⟩
theorem TI_gt {k : Nat} {s : TXS} {c a b : Int32} (hk : k < 6) (h : TI k s) : TI (k + 1) (gtS c a b s) := by
  have h9 : TI (k + 1) (if c = 115 ∨ c = 99 then tkS (bI (decide (c = 99))) a s else if c = 121 then ptS a b s s.1 else s) := by
    split
    · exact TI_tk hk h
    · split
      · exact TI_pt h
      · exact h.mono
  exact h9
def stS (K A B : Nat → Int32) (s0 : TXS) : Nat → TXS
  | 0 => s0
  | k + 1 => gtS (K k) (A k) (B k) (stS K A B s0 k)
theorem TI_st {K A B : Nat → Int32} {s0 : TXS} (h : TI 0 s0) : ∀ k, k ≤ 6 → TI k (stS K A B s0 k)
  | 0, _ => h
  | k + 1, hk => TI_gt (by omega) (TI_st h k (by omega))

-- h3
def sh (f : Nat → Int32) (o : Nat) : Nat → Int32 := fun k => f (96 * o + k)
def sat (w p : Nat → Int32) (a t : Int32) : Nat → Nat
  | 0 => 0
  | n + 1 => sat w p a t n + if p n = t ∧ w n = a then 1 else 0
theorem sat_le (w p : Nat → Int32) (a t : Int32) : ∀ n, sat w p a t n ≤ n
  | 0 => Nat.le_refl _
  | n + 1 => by
    have := sat_le w p a t n
    unfold sat
    split <;> omega
theorem sat_y {w p : Nat → Int32} {a t : Int32} {n : Nat} (h1 : p n = t) (h2 : w n = a) : nI (sat w p a t n + 1) = nI (sat w p a t (n + 1)) := by simp [sat, h1, h2]
theorem sat_n {w p : Nat → Int32} {a t : Int32} {n : Nat} (h1 : ¬ p n = t) : nI (sat w p a t n + 0) = nI (sat w p a t (n + 1)) := by simp [sat, h1]
theorem sat_n2 {w p : Nat → Int32} {a t : Int32} {n : Nat} (h1 : ¬ w n = a) : nI (sat w p a t n + 0) = nI (sat w p a t (n + 1)) := by simp [sat, h1]
theorem at_1 {n : Nat} (h : ¬ n ≤ 0) : (1 : Int32) = bI (decide (0 < n)) := by simp [bI, show 0 < n by omega]
theorem at_0 {n : Nat} (h : n ≤ 0) : (0 : Int32) = bI (decide (0 < n)) := by simp [bI, show ¬ 0 < n by omega]
def fsB (p : Nat → Int32) (q : Int32) : Nat → Bool
  | 0 => true
  | n + 1 => fsB p q n && !decide (p n = q)
theorem fsB_0 {p : Nat → Int32} {q : Int32} {n : Nat} (h : bI (fsB p q n) = 0) : (0 : Int32) = bI (fsB p q (n + 1)) := by
  cases h1 : fsB p q n
  · simp [fsB, h1, bI]
  · rw [h1] at h; exact absurd h (by decide)
theorem fsB_n {p : Nat → Int32} {q : Int32} {n : Nat} (h2 : p n = q) : (0 : Int32) = bI (fsB p q (n + 1)) := by simp [fsB, h2, bI]
theorem fsB_y {p : Nat → Int32} {q : Int32} {n : Nat} (h : ¬ bI (fsB p q n) = 0) (h2 : ¬ p n = q) : (1 : Int32) = bI (fsB p q (n + 1)) := by
  cases h1 : fsB p q n
  · rw [h1] at h; exact absurd rfl h
  · simp [fsB, h1, bI, h2]
def nrN (w p : Nat → Int32) (n : Nat) (t b : Int32) (D : Nat) : Nat → Nat
  | 0 => 0
  | i + 1 => nrN w p n t b D i + if ¬ t - nI D + nI i = t ∧ 0 < sat w p b (t - nI D + nI i) n then 1 else 0
def nrT (w p : Nat → Int32) (n : Nat) (t a b : Int32) (D i : Nat) : Nat := if 0 < sat w p a t n then nrN w p n t b D i else 0
theorem nrT_le (w p : Nat → Int32) (n : Nat) (t a b : Int32) (D : Nat) : ∀ i, nrT w p n t a b D i ≤ i
  | 0 => by unfold nrT; split <;> simp [nrN]
  | i + 1 => by
    have := nrT_le w p n t a b D i
    unfold nrT at *
    split
    · next q => rw [if_pos q] at this; unfold nrN; split <;> omega
    · omega
theorem nrT_0 (w p : Nat → Int32) (n : Nat) (t a b : Int32) (D : Nat) : (0 : Int32) = nI (nrT w p n t a b D 0) := by
  have := nrT_le w p n t a b D 0
  rw [show nrT w p n t a b D 0 = 0 by omega]; rfl
theorem nrT_y {w p : Nat → Int32} {n : Nat} {t a b : Int32} {D i : Nat} (h : decide (0 < sat w p a t n) = true) (h1 : ¬ t - nI D + nI i = t) (h2 : decide (0 < sat w p b (t - nI D + nI i) n) = true) : nI (nrT w p n t a b D i + 1) = nI (nrT w p n t a b D (i + 1)) := by
  have h := of_decide_eq_true h
  have h2 := of_decide_eq_true h2
  simp only [nrT, if_pos h, nrN, h1, h2, not_false_eq_true, and_self, if_true]
theorem nrT_n1 {w p : Nat → Int32} {n : Nat} {t a b : Int32} {D i : Nat} (h : decide (0 < sat w p a t n) = true) (h1 : t - nI D + nI i = t) : nI (nrT w p n t a b D i + 0) = nI (nrT w p n t a b D (i + 1)) := by
  have h := of_decide_eq_true h
  simp only [nrT, if_pos h, nrN, h1, not_true_eq_false, false_and, if_false]
theorem nrT_n2 {w p : Nat → Int32} {n : Nat} {t a b : Int32} {D i : Nat} (h : decide (0 < sat w p a t n) = true) (h2 : decide (0 < sat w p b (t - nI D + nI i) n) = false) : nI (nrT w p n t a b D i + 0) = nI (nrT w p n t a b D (i + 1)) := by
  have h := of_decide_eq_true h
  have h2 := of_decide_eq_false h2
  simp only [nrT, if_pos h, nrN, h2, and_false, if_false]
theorem nrT_f {w p : Nat → Int32} {n : Nat} {t a b : Int32} {D i j : Nat} (h : decide (0 < sat w p a t n) = false) : nI (nrT w p n t a b D i) = nI (nrT w p n t a b D j) := by
  have h := of_decide_eq_false h
  simp only [nrT, if_neg h]
theorem near_i (x : Int32) (i : Nat) : x + nI i + nI 1 = x + nI (i + 1) := by rw [Int32.add_assoc, nI_add]
theorem near_toInt {t : Int32} {D i : Nat} (h1 : -1000 ≤ t.toInt) (h2 : t.toInt ≤ 1000) (hD : D ≤ 9) (hi : i ≤ 100) : (t - nI D + nI i).toInt = t.toInt - D + i := by
  have e : (t - nI D).toInt = t.toInt - D := by
    rw [Int32.toInt_sub, nI_toInt (by omega)]
    exact Int.bmod_eq_of_le (by omega) (by omega)
  rw [Int32.toInt_add, nI_toInt (by omega), e]
  exact Int.bmod_eq_of_le (by omega) (by omega)
theorem near_gt {t : Int32} {D i : Nat} (h1 : -1000 ≤ t.toInt) (h2 : t.toInt ≤ 1000) (hD : D ≤ 9) (hi : i ≤ 100) : t + nI D < t - nI D + nI i ↔ 2 * D < i := by
  have e : (t + nI D).toInt = t.toInt + D := by
    rw [Int32.toInt_add, nI_toInt (by omega)]
    exact Int.bmod_eq_of_le (by omega) (by omega)
  rw [Int32.lt_iff_toInt_lt, near_toInt h1 h2 hD hi, e]
  omega
def tmV (kd a b : Int32) (D : Nat) (w p : Nat → Int32) (n : Nat) (t : Int32) : Nat := if kd = 119 then sat w p a t n else if kd = 112 then (if decide (0 < sat w p a t n) = true ∧ decide (0 < sat w p b (t + 1) n) = true then 1 else 0) else nrT w p n t a b D (2 * D + 1)
def tmN (kd a b : Int32) (D : Nat) (w p : Nat → Int32) (n : Nat) : Nat → Nat
  | 0 => 0
  | k + 1 => tmN kd a b D w p n k + if fsB p (p k) k = true then tmV kd a b D w p n (p k) else 0
theorem tmV_le {kd a b : Int32} {D : Nat} {w p : Nat → Int32} {n : Nat} {t : Int32} (hn : n ≤ 96) (hD : D ≤ 9) : tmV kd a b D w p n t ≤ 96 := by
  unfold tmV
  split
  · have := sat_le w p a t n; omega
  · split
    · split <;> omega
    · have := nrT_le w p n t a b D (2 * D + 1); omega
theorem tmN_le {kd a b : Int32} {D : Nat} {w p : Nat → Int32} {n : Nat} (hn : n ≤ 96) (hD : D ≤ 9) : ∀ k, tmN kd a b D w p n k ≤ 96 * k
  | 0 => Nat.le_refl _
  | k + 1 => by
    have h1 := tmN_le (kd := kd) (a := a) (b := b) (w := w) (p := p) hn hD k
    have h2 := tmV_le (kd := kd) (a := a) (b := b) (w := w) (p := p) (t := p k) hn hD
    unfold tmN
    split <;> omega
theorem tmN_n {kd a b : Int32} {D : Nat} {w p : Nat → Int32} {n k : Nat} (h : fsB p (p k) k = false) : nI (tmN kd a b D w p n k) = nI (tmN kd a b D w p n (k + 1)) := by
  show _ = nI (_ + if _ then _ else _)
  rw [if_neg (by rw [h]; decide)]
  rfl
theorem tmN_y {kd a b : Int32} {D : Nat} {w p : Nat → Int32} {n k v : Nat} (h : fsB p (p k) k = true) (hv : tmV kd a b D w p n (p k) = v) : nI (tmN kd a b D w p n k + v) = nI (tmN kd a b D w p n (k + 1)) := by
  subst hv
  show _ = nI (_ + if _ then _ else _)
  rw [if_pos h]

-- h4
def mtV (kd : Nat → Int32) (Q1 Q2 : Nat → Nat) (lv : Nat → Bool) (T : Nat → Bool) (q : Nat) : Bool := if kd q = 97 then T (Q1 q) && T (Q2 q) else if kd q = 111 then T (Q1 q) || T (Q2 q) else if kd q = 120 then T (Q1 q) && !T (Q2 q) else if kd q = 105 then T (Q1 q) else lv q
def mtT (kd : Nat → Int32) (Q1 Q2 : Nat → Nat) (lv : Nat → Bool) : Nat → Nat → Bool
  | 0 => fun _ => false
  | n + 1 => fun q => if q = n then mtV kd Q1 Q2 lv (mtT kd Q1 Q2 lv n) n else mtT kd Q1 Q2 lv n q
def mtQ (kd : Nat → Int32) (Q1 Q2 : Nat → Nat) (lv : Nat → Bool) (q : Nat) : Bool := mtT kd Q1 Q2 lv (q + 1) q
theorem mtT_lt {kd : Nat → Int32} {Q1 Q2 : Nat → Nat} {lv : Nat → Bool} : ∀ {n a : Nat}, a < n → mtT kd Q1 Q2 lv n a = mtQ kd Q1 Q2 lv a
  | 0, _, h => absurd h (by omega)
  | n + 1, a, h => by
    by_cases e : a = n
    · subst e; rfl
    · show (if a = n then _ else _) = _
      rw [if_neg e]
      exact mtT_lt (by omega)
theorem mtQ_j {kd : Nat → Int32} {Q1 Q2 : Nat → Nat} {lv : Nat → Bool} {q : Nat} (h1 : Q1 q < q) (h2 : Q2 q < q) : mtQ kd Q1 Q2 lv q = mtV kd Q1 Q2 lv (mtQ kd Q1 Q2 lv) q := by
  show (if q = q then mtV kd Q1 Q2 lv (mtT kd Q1 Q2 lv q) q else _) = _
  rw [if_pos rfl]
  unfold mtV
  rw [mtT_lt h1, mtT_lt h2]
theorem mtQ_l {kd : Nat → Int32} {Q1 Q2 : Nat → Nat} {lv : Nat → Bool} {q : Nat} (h : kd q = 119 ∨ kd q = 112 ∨ kd q = 110) : mtQ kd Q1 Q2 lv q = lv q := by
  show (if q = q then mtV kd Q1 Q2 lv (mtT kd Q1 Q2 lv q) q else _) = _
  rw [if_pos rfl]
  unfold mtV
  rcases h with h | h | h <;> rw [h] <;> rfl
def tmF (F : Nat → Nat → Int32) (DS LN : Nat → Nat) (d q : Nat) : Nat := tmN (F 32 q) (F 33 q) (F 34 q) (DS q) (sh (F 16) d) (sh (F 17) d) (LN d) (LN d)
def lvF (F : Nat → Nat → Int32) (DS LN : Nat → Nat) (d q : Nat) : Bool := decide (0 < tmF F DS LN d q)
def mtF (F : Nat → Nat → Int32) (Q1 Q2 DS LN : Nat → Nat) (d q : Nat) : Bool := mtQ (F 32) Q1 Q2 (lvF F DS LN d) q
def QLf (F : Nat → Nat → Int32) (DS WT : Nat → Nat) (q : Nat) : Prop := (F 32 q = 119 ∨ F 32 q = 112 ∨ (F 32 q = 110 ∧ F 35 q = nI (DS q) ∧ DS q ≤ 9)) ∧ DS q ≤ 9 ∧ F 36 q = nI (WT q) ∧ WT q ≤ 9
def QJn (F : Nat → Nat → Int32) (Q1 Q2 : Nat → Nat) (q : Nat) : Prop := (F 32 q = 97 ∨ F 32 q = 111 ∨ F 32 q = 120 ∨ F 32 q = 105) ∧ F 33 q = nI (Q1 q) ∧ Q1 q < q ∧ F 34 q = nI (Q2 q) ∧ Q2 q < q
def QOK (F : Nat → Nat → Int32) (Q1 Q2 DS WT : Nat → Nat) (nq : Nat) : Prop := ∀ q, q < nq → QLf F DS WT q ∨ QJn F Q1 Q2 q
theorem QLf.k {F : Nat → Nat → Int32} {DS WT : Nat → Nat} {q : Nat} (h : QLf F DS WT q) : F 32 q = 119 ∨ F 32 q = 112 ∨ F 32 q = 110 := h.1.imp id (Or.imp id (·.1))
theorem mtF_l {F : Nat → Nat → Int32} {Q1 Q2 DS LN WT : Nat → Nat} {d q : Nat} (h : QLf F DS WT q) : mtF F Q1 Q2 DS LN d q = lvF F DS LN d q := mtQ_l h.k
theorem mtF_97 {F : Nat → Nat → Int32} {Q1 Q2 DS LN : Nat → Nat} {d q : Nat} (h : QJn F Q1 Q2 q) (hk : F 32 q = 97) : mtF F Q1 Q2 DS LN d q = (mtF F Q1 Q2 DS LN d (Q1 q) && mtF F Q1 Q2 DS LN d (Q2 q)) := by
  unfold mtF
  rw [mtQ_j h.2.2.1 h.2.2.2.2]
  unfold mtV
  rw [if_pos hk]
theorem mtF_111 {F : Nat → Nat → Int32} {Q1 Q2 DS LN : Nat → Nat} {d q : Nat} (h : QJn F Q1 Q2 q) (hk : F 32 q = 111) : mtF F Q1 Q2 DS LN d q = (mtF F Q1 Q2 DS LN d (Q1 q) || mtF F Q1 Q2 DS LN d (Q2 q)) := by
  unfold mtF
  rw [mtQ_j h.2.2.1 h.2.2.2.2]
  unfold mtV
  rw [hk]
  rfl
theorem mtF_120 {F : Nat → Nat → Int32} {Q1 Q2 DS LN : Nat → Nat} {d q : Nat} (h : QJn F Q1 Q2 q) (hk : F 32 q = 120) : mtF F Q1 Q2 DS LN d q = (mtF F Q1 Q2 DS LN d (Q1 q) && !mtF F Q1 Q2 DS LN d (Q2 q)) := by
  unfold mtF
  rw [mtQ_j h.2.2.1 h.2.2.2.2]
  unfold mtV
  rw [hk]
  rfl
theorem mtF_105 {F : Nat → Nat → Int32} {Q1 Q2 DS LN : Nat → Nat} {d q : Nat} (h : QJn F Q1 Q2 q) (hk : F 32 q = 105) : mtF F Q1 Q2 DS LN d q = mtF F Q1 Q2 DS LN d (Q1 q) := by
  unfold mtF
  rw [mtQ_j h.2.2.1 h.2.2.2.2]
  unfold mtV
  rw [hk]
  rfl
def svF (F : Nat → Nat → Int32) (a e : Nat) : Bool := !decide (F 30 (30 * a + e) = 0)
theorem svF_1 {F : Nat → Nat → Int32} {a e : Nat} (h : ¬ F 30 (30 * a + e) = 0) : svF F a e = true := by simp [svF, h]
theorem svF_0 {F : Nat → Nat → Int32} {a e : Nat} (h : F 30 (30 * a + e) = 0) : svF F a e = false := by simp [svF, h]
theorem cn_y {f : Nat → Bool} {n : Nat} (h : f n = true) : nI (cn f n + 1) = nI (cn f (n + 1)) := by simp [cn, h]
theorem cn_n {f : Nat → Bool} {n : Nat} (h : f n = false) : nI (cn f n + 0) = nI (cn f (n + 1)) := by simp [cn, h]
theorem cn_n' {f : Nat → Bool} {n : Nat} (h : f n = false) : nI (cn f n) = nI (cn f (n + 1)) := by simp [cn, h]
theorem upd_upd' {f : Nat → Int32} {k : Nat} {x y z : Int32} (h : y = z) : upd (upd f k x) k y = upd f k z := by
  subst h
  funext j
  unfold upd
  split <;> rfl
/-- how many documents that the view has match a query of words -/
def mcF (F : Nat → Nat → Int32) (DS LN : Nat → Nat) (nd a q : Nat) : Nat := cn (fun e => svF F a e && lvF F DS LN e q) nd
def COK (F : Nat → Nat → Int32) (DS LN : Nat → Nat) (nd a : Nat) (C : Nat → Int32) : Prop := ∀ q, q < 40 → C q = -1 ∨ C q = nI (mcF F DS LN nd a q)
theorem COK.upd {F : Nat → Nat → Int32} {DS LN : Nat → Nat} {nd a q : Nat} {C : Nat → Int32} (h : COK F DS LN nd a C) : COK F DS LN nd a (upd C q (nI (mcF F DS LN nd a q))) := by
  intro k hk
  by_cases e : k = q
  · subst e; exact Or.inr pk_us
  · rw [pk_un e]; exact h k hk
def scL (t n m k w : Nat) : Nat := 100 * t * (n + 1) / ((m + 1) * (k + 4)) * w
theorem bd3 {t n : Nat} (ht : t ≤ 9216) (hn : n ≤ 30) : 100 * t * (n + 1) < 2 ^ 63 := Nat.lt_of_le_of_lt (Nat.mul_le_mul (Nat.mul_le_mul_left 100 ht) (Nat.succ_le_succ hn)) (by decide)
theorem bd4 {m k : Nat} (hm : m ≤ 30) (hk : k ≤ 96) : (m + 1) * (k + 4) < 2 ^ 63 := Nat.lt_of_le_of_lt (Nat.mul_le_mul (Nat.succ_le_succ hm) (Nat.add_le_add_right hk 4)) (by decide)
theorem bd5 {m k : Nat} : 0 < (m + 1) * (k + 4) := Nat.mul_pos (by omega) (by omega)
theorem tmF_le {F : Nat → Nat → Int32} {DS LN : Nat → Nat} {d q : Nat} (hn : LN d ≤ 96) (hD : DS q ≤ 9) : tmF F DS LN d q ≤ 9216 := by
  have := tmN_le (kd := F 32 q) (a := F 33 q) (b := F 34 q) (w := sh (F 16) d) (p := sh (F 17) d) hn hD (LN d)
  unfold tmF
  omega

-- h5
def scQ (kd : Nat → Int32) (Q1 Q2 : Nat → Nat) (lf : Nat → Nat) (mt : Nat → Bool) (T : Nat → Nat) (q : Nat) : Nat := if kd q = 119 ∨ kd q = 112 ∨ kd q = 110 then lf q else (if mt (Q1 q) = true then T (Q1 q) else 0) + (if kd q ≠ 120 ∧ mt (Q2 q) = true then T (Q2 q) else 0)
def scT (kd : Nat → Int32) (Q1 Q2 : Nat → Nat) (lf : Nat → Nat) (mt : Nat → Bool) : Nat → Nat → Nat
  | 0 => fun _ => 0
  | n + 1 => fun q => if q = n then scQ kd Q1 Q2 lf mt (scT kd Q1 Q2 lf mt n) n else scT kd Q1 Q2 lf mt n q
def scV (kd : Nat → Int32) (Q1 Q2 : Nat → Nat) (lf : Nat → Nat) (mt : Nat → Bool) (q : Nat) : Nat := scT kd Q1 Q2 lf mt (q + 1) q
theorem scT_lt {kd : Nat → Int32} {Q1 Q2 : Nat → Nat} {lf : Nat → Nat} {mt : Nat → Bool} : ∀ {n a : Nat}, a < n → scT kd Q1 Q2 lf mt n a = scV kd Q1 Q2 lf mt a
  | 0, _, h => absurd h (by omega)
  | n + 1, a, h => by
    by_cases e : a = n
    · subst e; rfl
    · show (if a = n then _ else _) = _
      rw [if_neg e]
      exact scT_lt (by omega)
theorem scV_j {kd : Nat → Int32} {Q1 Q2 : Nat → Nat} {lf : Nat → Nat} {mt : Nat → Bool} {q : Nat} (h1 : Q1 q < q) (h2 : Q2 q < q) : scV kd Q1 Q2 lf mt q = scQ kd Q1 Q2 lf mt (scV kd Q1 Q2 lf mt) q := by
  show (if q = q then scQ kd Q1 Q2 lf mt (scT kd Q1 Q2 lf mt q) q else _) = _
  rw [if_pos rfl]
  unfold scQ
  rw [scT_lt h1, scT_lt h2]
theorem scV_l {kd : Nat → Int32} {Q1 Q2 : Nat → Nat} {lf : Nat → Nat} {mt : Nat → Bool} {q : Nat} (h : kd q = 119 ∨ kd q = 112 ∨ kd q = 110) : scV kd Q1 Q2 lf mt q = lf q := by
  show (if q = q then scQ kd Q1 Q2 lf mt (scT kd Q1 Q2 lf mt q) q else _) = _
  rw [if_pos rfl]
  unfold scQ
  rw [if_pos h]
def svN (F : Nat → Nat → Int32) (a : Nat) : Nat := cn (svF F a) 30
def lfF (F : Nat → Nat → Int32) (DS WT LN : Nat → Nat) (nd a d q : Nat) : Nat := scL (tmF F DS LN d q) (svN F a) (mcF F DS LN nd a q) (LN d) (WT q)
def scF (F : Nat → Nat → Int32) (Q1 Q2 DS WT LN : Nat → Nat) (nd a d q : Nat) : Nat := scV (F 32) Q1 Q2 (lfF F DS WT LN nd a d) (mtF F Q1 Q2 DS LN d) q
theorem scF_l {F : Nat → Nat → Int32} {Q1 Q2 DS WT LN : Nat → Nat} {nd a d q : Nat} (h : QLf F DS WT q) : scF F Q1 Q2 DS WT LN nd a d q = lfF F DS WT LN nd a d q := scV_l h.k
theorem scF_j {F : Nat → Nat → Int32} {Q1 Q2 DS WT LN : Nat → Nat} {nd a d q : Nat} (h : QJn F Q1 Q2 q) : scF F Q1 Q2 DS WT LN nd a d q = (if mtF F Q1 Q2 DS LN d (Q1 q) = true then scF F Q1 Q2 DS WT LN nd a d (Q1 q) else 0) + (if F 32 q ≠ 120 ∧ mtF F Q1 Q2 DS LN d (Q2 q) = true then scF F Q1 Q2 DS WT LN nd a d (Q2 q) else 0) := by
  unfold scF
  rw [scV_j h.2.2.1 h.2.2.2.2]
  unfold scQ
  rw [if_neg (fun h9 => by rcases h.1 with e | e | e | e <;> rw [e] at h9 <;> rcases h9 with h9 | h9 | h9 <;> exact absurd h9 (by decide))]
theorem QJn.nl {F : Nat → Nat → Int32} {Q1 Q2 : Nat → Nat} {q : Nat} (h : QJn F Q1 Q2 q) : ¬ (F 32 q = 119 ∨ F 32 q = 112 ∨ F 32 q = 110) := fun h9 => by rcases h.1 with e | e | e | e <;> rw [e] at h9 <;> rcases h9 with h9 | h9 | h9 <;> exact absurd h9 (by decide)
theorem mcF_le (F : Nat → Nat → Int32) (DS LN : Nat → Nat) {nd a q : Nat} (h : nd ≤ 30) : mcF F DS LN nd a q ≤ 30 := Nat.le_trans (cn_le _ _) h
theorem svN_le (F : Nat → Nat → Int32) (a : Nat) : svN F a ≤ 30 := cn_le _ _

-- h6
def nF (h : Nat → Nat) : Nat → Int32 := fun j => nI (h j)
def rkC (c b : Nat) : Nat := if c ≤ b then c else b
theorem rkC_1 {c b : Nat} (h : c ≤ b) : rkC c b = c := if_pos h
theorem rkC_0 {c b : Nat} (h : ¬ c ≤ b) : rkC c b = b := if_neg h
def shH (h : Nat → Nat) (x k n : Nat) : Nat → Nat := fun j => if k < j ∧ j ≤ n then h (j - 1) else if j = k then x else h j
def stp (rk h : Nat → Nat) (x : Nat) : Nat → Nat
  | 0 => 0
  | k + 1 => if rk (h k) < rk x then stp rk h x k else k + 1
def fhS (sv mt : Nat → Bool) (rk h0 : Nat → Nat) : Nat → Nat × (Nat → Nat)
  | 0 => (0, h0)
  | d + 1 => if sv d = true ∧ mt d = true then ((fhS sv mt rk h0 d).1 + 1, shH (fhS sv mt rk h0 d).2 d (stp rk (fhS sv mt rk h0 d).2 d (fhS sv mt rk h0 d).1) (fhS sv mt rk h0 d).1) else fhS sv mt rk h0 d
theorem fhS_y {sv mt : Nat → Bool} {rk h0 : Nat → Nat} {d : Nat} (h1 : sv d = true) (h2 : mt d = true) : fhS sv mt rk h0 (d + 1) = ((fhS sv mt rk h0 d).1 + 1, shH (fhS sv mt rk h0 d).2 d (stp rk (fhS sv mt rk h0 d).2 d (fhS sv mt rk h0 d).1) (fhS sv mt rk h0 d).1) := if_pos ⟨h1, h2⟩
theorem fhS_n1 {sv mt : Nat → Bool} {rk h0 : Nat → Nat} {d : Nat} (h1 : sv d = false) : fhS sv mt rk h0 (d + 1) = fhS sv mt rk h0 d := if_neg (fun h => by rw [h1] at h; exact absurd h.1 (by decide))
theorem fhS_n2 {sv mt : Nat → Bool} {rk h0 : Nat → Nat} {d : Nat} (h1 : mt d = false) : fhS sv mt rk h0 (d + 1) = fhS sv mt rk h0 d := if_neg (fun h => by rw [h1] at h; exact absurd h.2 (by decide))
theorem shH_lt {h : Nat → Nat} {x k n : Nat} (hh : ∀ j, h j < 30) (hx : x < 30) (j : Nat) : shH h x k n j < 30 := by
  unfold shH
  split
  · exact hh _
  · split
    · exact hx
    · exact hh _
theorem fhS_le (sv mt : Nat → Bool) (rk h0 : Nat → Nat) : ∀ d, (fhS sv mt rk h0 d).1 ≤ d
  | 0 => Nat.le_refl _
  | d + 1 => by
    have := fhS_le sv mt rk h0 d
    unfold fhS
    split
    · show _ + 1 ≤ _; omega
    · omega
theorem fhS_lt {sv mt : Nat → Bool} {rk h0 : Nat → Nat} (hh : ∀ j, h0 j < 30) : ∀ {d : Nat}, d ≤ 30 → ∀ j, (fhS sv mt rk h0 d).2 j < 30
  | 0, _, j => hh j
  | d + 1, hd, j => by
    have := fhS_lt (sv := sv) (mt := mt) (rk := rk) hh (d := d) (by omega)
    unfold fhS
    split
    · exact shH_lt this (by omega) j
    · exact this j
theorem shH_end {h : Nat → Nat} {x n : Nat} : nF (shH h x n n) = upd (nF h) n (nI x) := by
  funext j
  unfold nF shH upd
  by_cases e : j = n
  · subst e; simp
  · rw [if_neg (by omega), if_neg e, if_neg e]
theorem shH_k {h : Nat → Nat} {x k n : Nat} : shH h x k n k = x := by
  unfold shH
  rw [if_neg (by omega), if_pos rfl]
theorem shH_lo {h : Nat → Nat} {x k n j : Nat} (hj : j < k) : shH h x k n j = h j := by
  unfold shH
  rw [if_neg (by omega), if_neg (by omega)]
theorem shH_sw {h : Nat → Nat} {x k n : Nat} (hk : k + 1 ≤ n) (j : Nat) : shH h x k n j = if j = k then x else if j = k + 1 then h k else shH h x (k + 1) n j := by
  unfold shH
  by_cases e1 : j = k
  · subst e1; rw [if_neg (by omega), if_pos rfl, if_pos rfl]
  · by_cases e2 : j = k + 1
    · subst e2; rw [if_pos (by omega), if_neg (by omega), if_pos rfl]; rfl
    · by_cases e3 : k < j ∧ j ≤ n
      · have e4 : k + 1 < j ∧ j ≤ n := by omega
        simp only [if_pos e3, if_neg e1, if_neg e2, if_pos e4]
      · have e4 : ¬ (k + 1 < j ∧ j ≤ n) := by omega
        simp only [if_neg e3, if_neg e1, if_neg e2, if_neg e4]
theorem sw_H {h : Nat → Nat} {x k n : Nat} (hk : k + 1 ≤ n) : upd (upd (nF (shH h x (k + 1) n)) (k + 1) (nI (h k))) k (nI x) = nF (shH h x k n) := by
  funext j
  show (if j = k then nI x else if j = k + 1 then nI (h k) else nI (shH h x (k + 1) n j)) = nI (shH h x k n j)
  rw [shH_sw hk]
  split
  · rfl
  · split <;> rfl
theorem sw_G {h : Nat → Nat} {sc : Nat → Nat} {G : Nat → Int64} {x k n : Nat} (hk : k + 1 ≤ n) (hG : ∀ j, j ≤ n → G j = lN (sc (shH h x (k + 1) n j))) : ∀ j, j ≤ n → vp_updL (vp_updL G (k + 1) (G k)) k (G (k + 1)) j = lN (sc (shH h x k n j)) := by
  intro j hj
  show (if j = k then G (k + 1) else if j = k + 1 then G k else G j) = _
  rw [shH_sw hk]
  split
  · rw [hG (k + 1) hk, shH_k]
  · split
    · rw [hG k (by omega), shH_lo (by omega)]
    · exact hG j hj
def rkF (F : Nat → Nat → Int32) (Q1 Q2 DS WT LN CL : Nat → Nat) (nd bd a q e : Nat) : Nat := scF F Q1 Q2 DS WT LN nd a e q + rkC (CL e) bd
def fhF (F : Nat → Nat → Int32) (Q1 Q2 DS WT LN CL : Nat → Nat) (nd bd a q : Nat) (h0 : Nat → Nat) (d : Nat) : Nat × (Nat → Nat) := fhS (svF F a) (fun e => mtF F Q1 Q2 DS LN e q) (rkF F Q1 Q2 DS WT LN CL nd bd a q) h0 d
theorem lN_lt62 {a b : Nat} (ha : a < 2 ^ 62) (hb : b < 2 ^ 62) : lN a ≤ lN b ↔ a ≤ b := pk_lLE (Nat.lt_trans ha (by decide)) (Nat.lt_trans hb (by decide))
theorem rk_le {R : Nat → Nat} (hR : ∀ e, e < 30 → R e < 2 ^ 62) {x y : Nat} (hx : x < 30) (hy : y < 30) : lN (R x) ≤ lN (R y) ↔ R x ≤ R y := lN_lt62 (hR x hx) (hR y hy)
theorem sc_end {h sc : Nat → Nat} {G : Nat → Int64} {x n : Nat} (hG : ∀ j, j < n → G j = lN (sc (h j))) : ∀ j, j ≤ n → vp_updL G n (lN (sc x)) j = lN (sc (shH h x n n j)) := by
  intro j hj
  show (if j = n then _ else G j) = _
  by_cases e : j = n
  · subst e; rw [if_pos rfl, shH_k]
  · rw [if_neg e, shH_lo (by omega)]; exact hG j (by omega)

-- h7
def vaF (f : Nat → Int32) (v : Int32) : Nat → Int32
  | 0 => -1
  | n + 1 => if f n = v then nI n else vaF f v n
theorem vaF_y {f : Nat → Int32} {v : Int32} {n : Nat} (h : f n = v) : nI n = vaF f v (n + 1) := (if_pos h).symm
theorem vaF_n {f : Nat → Int32} {v : Int32} {n : Nat} (h : ¬ f n = v) : vaF f v n = vaF f v (n + 1) := (if_neg h).symm
theorem nI_m1 {n : Nat} (h : n < 2 ^ 31) : ¬ nI n = -1 := fun e => by
  have h1 := congrArg Int32.toInt e
  rw [nI_toInt h] at h1
  have h2 : (-1 : Int32).toInt = -1 := by decide
  omega
theorem inT {n k : Nat} (hn : n ≤ 1000) (hk : k < n) : inR 0 (nI n - 1) (nI k) = true := (inD hn).mpr ⟨k, hk, rfl⟩
def HB (vn : Nat → Int32) (nv nq : Nat) (v q : Int32) : Prop := vaF vn v nv = -1 ∨ inR 0 (nI nq - 1) q = false
def whB (wh : Nat → Int32) (h : Nat → Nat) (d : Int32) : Nat → Bool
  | 0 => false
  | n + 1 => whB wh h d n || decide (wh (h n) = d)
theorem whB_1 {wh : Nat → Int32} {h : Nat → Nat} {d : Int32} {n : Nat} (hb : ¬ bI (whB wh h d n) = 0) : (1 : Int32) = bI (whB wh h d (n + 1)) := by
  cases h1 : whB wh h d n
  · rw [h1] at hb; exact absurd rfl hb
  · simp [whB, h1, bI]
theorem whB_y {wh : Nat → Int32} {h : Nat → Nat} {d : Int32} {n : Nat} (he : wh (h n) = d) : (1 : Int32) = bI (whB wh h d (n + 1)) := by simp [whB, he, bI]
theorem whB_n {wh : Nat → Int32} {h : Nat → Nat} {d : Int32} {n : Nat} (hb : bI (whB wh h d n) = 0) (he : ¬ wh (h n) = d) : (0 : Int32) = bI (whB wh h d (n + 1)) := by
  cases h1 : whB wh h d n
  · simp [whB, h1, bI, he]
  · rw [h1] at hb; exact absurd hb (by decide)

-- h8
def wrS (s : Nat → Int32) (d : Nat) : Int32 := if s d = 98 then 115 else s d
def wrG (s g : Nat → Int32) (n : Nat) (d : Nat) : Int32 := if s d = 98 then nI n else g d
def wrN (s : Nat → Int32) (nd : Nat) : Nat := cn (fun d => decide (s d = 98)) nd
def thB (x : Int32) : Bool := decide (x = 98) || decide (x = 115)
theorem thB_1 {x : Int32} (h : x = 98) : thB x = true := by rw [h]; rfl
theorem thB_2 {x : Int32} (h : x = 115) : thB x = true := by rw [h]; rfl
theorem thB_0 {x : Int32} (h : ¬ x = 98) (h2 : ¬ x = 115) : thB x = false := by simp [thB, h, h2]
theorem dec_1 {p : Prop} [Decidable p] (h : p) : decide p = true := decide_eq_true h
theorem dec_0 {p : Prop} [Decidable p] (h : ¬ p) : decide p = false := decide_eq_false h

-- h9

-- h10
def mg1 (s : Nat) (st g : Nat → Int32) (d : Nat) : Int32 := if g d = nI s ∨ g d = nI (s + 1) then (if st d = 114 then -1 else nI s) else if g d ≤ nI s then g d else g d - 1
def mgB (s : Nat) (st g : Nat → Int32) (d : Nat) : Bool := (decide (g d = nI s) || decide (g d = nI (s + 1))) && decide (st d = 114)
def mg2 (s : Nat) (g : Nat → Int32) (d : Nat) : Int32 := if g d ≤ nI s then g d else g d - 1
def crF (kd : Nat) (k : Nat → Int32) (x : Int32) (d : Nat) : Int32 := if d < kd then k d else x
def crB (kd : Nat) (k s : Nat → Int32) (d : Nat) : Bool := thB (s d) != thB (crF kd k 108 d)
def rpB (kd : Nat) (k : Nat → Int32) (d : Nat) : Bool := decide (d < kd) && decide (k d = 115)
theorem AC_fl {φ g : Nat → Int32} {n : Nat} (h : AC g) (h2 : AC φ) : AC (fl φ g n) := by
  intro j
  unfold fl
  split
  · exact h2 j
  · exact h j
theorem AC_wr {s : Nat → Int32} (h : AC s) : AC (wrS s) := by
  intro j
  unfold wrS
  split
  · decide
  · exact h j
theorem AC_cr {kd : Nat} {k : Nat → Int32} (h : AC k) : AC (crF kd k 108) := by
  intro j
  unfold crF
  split
  · exact h j
  · decide
theorem AC_nar {f : Nat → Int32} (h : AC f) (j : Nat) : narrow .char (.int (f j)) = .int (f j) := by
  have h1 := h j
  rw [vp_nar_char] at h1
  show Value.int (f j).toUInt32.toUInt16.toUInt32.toInt32 = _
  rw [h1]
def flo (φ g : Nat → Int32) (o n : Nat) : Nat → Int32 := fun j => if o ≤ j ∧ j < o + n then φ (j - o) else g j
theorem flo_0 {φ g : Nat → Int32} {o : Nat} : flo φ g o 0 = g := by
  funext j
  unfold flo
  rw [if_neg (by omega)]
theorem flo_succ {φ g : Nat → Int32} {o n : Nat} {x : Int32} (h : x = φ n) : upd (flo φ g o n) (o + n) x = flo φ g o (n + 1) := by
  subst h
  funext j
  unfold upd flo
  by_cases h1 : j = o + n
  · subst h1; rw [if_pos rfl, if_pos (by omega), show o + n - o = n by omega]
  · rw [if_neg h1]
    by_cases h2 : o ≤ j ∧ j < o + n
    · rw [if_pos h2, if_pos (by omega)]
    · rw [if_neg h2, if_neg (by omega)]
def shN (f : Nat → Int32) (lo hi st : Nat) : Nat → Int32 := fun j => if lo ≤ j ∧ j < hi then f (j + st) else f j
theorem shN_0 {f : Nat → Int32} {lo st : Nat} : shN f lo lo st = f := by
  funext j
  unfold shN
  rw [if_neg (by omega)]
theorem shN_out {f : Nat → Int32} {lo hi st j : Nat} (h : hi ≤ j) : shN f lo hi st j = f j := by
  unfold shN
  rw [if_neg (by omega)]
theorem shN_succ {f : Nat → Int32} {lo hi st : Nat} {x : Int32} (h : lo ≤ hi) (hx : x = f (hi + st)) : upd (shN f lo hi st) hi x = shN f lo (hi + 1) st := by
  subst hx
  funext j
  unfold upd shN
  by_cases h1 : j = hi
  · subst h1; rw [if_pos rfl, if_pos (by omega)]
  · rw [if_neg h1]
    by_cases h2 : lo ≤ j ∧ j < hi
    · rw [if_pos h2, if_pos (by omega)]
    · rw [if_neg h2, if_neg (by omega)]
theorem mg_in {n2 s : Nat} (h : n2 ≤ 900) (hs : s ≤ n2) : inR 0 (nI ((n2 + 1) + 1) - 2) (nI s) = true := by
  have e : nI ((n2 + 1) + 1) - 2 = nI (n2 + 1) - 1 := by
    rw [nI_pred]
    exact (pk_sub (a := n2 + 1 + 1) (b := 2) (by omega)).trans (by rw [show n2 + 1 + 1 - 2 = n2 by omega])
  rw [e]
  exact inT (by omega) (by omega)

-- h11
theorem lv20 {a b : Nat} (h : a + b ≤ 40) : (nI (a + b) ≤ 20) ↔ a + b ≤ 20 := nI_leI (a := a + b) (b := 20) (by omega) (by omega)
def okAsk9 (k a b d w : Int32) : Bool := okCan k a b d && inR 1 9 w

-- h12
def mxL (wh : Nat → Int32) (h : Nat → Nat) (d : Int32) (sc : Nat → Nat) : Nat → Int64
  | 0 => -1
  | n + 1 => if wh (h n) = d ∧ ¬ lN (sc (h n)) ≤ mxL wh h d sc n then lN (sc (h n)) else mxL wh h d sc n
theorem mxL_n {wh : Nat → Int32} {h : Nat → Nat} {d : Int32} {sc : Nat → Nat} {n : Nat} (he : ¬ wh (h n) = d) : mxL wh h d sc n = mxL wh h d sc (n + 1) := (if_neg (fun h9 => he h9.1)).symm
theorem mxL_n2 {wh : Nat → Int32} {h : Nat → Nat} {d : Int32} {sc : Nat → Nat} {n : Nat} (he : lg_cmp (lN (sc (h n))) (mxL wh h d sc n) ≤ 0) : mxL wh h d sc n = mxL wh h d sc (n + 1) := (if_neg (fun h9 => h9.2 ((lg_cmp_le _ _).mp he))).symm
theorem mxL_y {wh : Nat → Int32} {h : Nat → Nat} {d : Int32} {sc : Nat → Nat} {n : Nat} (he : wh (h n) = d) (h2 : ¬ lg_cmp (lN (sc (h n))) (mxL wh h d sc n) ≤ 0) : lN (sc (h n)) = mxL wh h d sc (n + 1) := (if_pos ⟨he, fun h9 => h2 ((lg_cmp_le _ _).mpr h9)⟩).symm
def tuN (sc : Nat → Nat) (h : Nat → Nat) : Nat → Nat
  | 0 => 0
  | n + 1 => tuN sc h n + cn (fun j => decide (sc (h j) < sc (h n))) n
theorem tuN_le (sc : Nat → Nat) (h : Nat → Nat) : ∀ n, n ≤ 30 → tuN sc h n ≤ 30 * n
  | 0, _ => Nat.le_refl _
  | n + 1, hn => by
    have h1 := tuN_le sc h n (by omega)
    have h2 := cn_le (fun j => decide (sc (h j) < sc (h n))) n
    unfold tuN
    omega
theorem tu_y {sc h : Nat → Nat} {n j : Nat} (hb : ∀ e, e < 30 → sc e < 2 ^ 62) (h1 : h j < 30) (h2 : h n < 30) (hc : ¬ 0 ≤ lg_cmp (lN (sc (h j))) (lN (sc (h n)))) : nI (tuN sc h n + cn (fun j => decide (sc (h j) < sc (h n))) j + 1) = nI (tuN sc h n + cn (fun j => decide (sc (h j) < sc (h n))) (j + 1)) := by
  have e : sc (h j) < sc (h n) := by
    rcases Nat.lt_or_ge (sc (h j)) (sc (h n)) with q | q
    · exact q
    · exact absurd ((lg_cmp_ge _ _).mpr ((lN_lt62 (hb _ h2) (hb _ h1)).mpr q)) hc
  simp [cn, e, Nat.add_assoc]
theorem tu_n {sc h : Nat → Nat} {n j : Nat} (hb : ∀ e, e < 30 → sc e < 2 ^ 62) (h1 : h j < 30) (h2 : h n < 30) (hc : 0 ≤ lg_cmp (lN (sc (h j))) (lN (sc (h n)))) : nI (tuN sc h n + cn (fun j => decide (sc (h j) < sc (h n))) j + 0) = nI (tuN sc h n + cn (fun j => decide (sc (h j) < sc (h n))) (j + 1)) := by
  have e : ¬ sc (h j) < sc (h n) := Nat.not_lt.mpr ((lN_lt62 (hb _ h2) (hb _ h1)).mp ((lg_cmp_ge _ _).mp hc))
  simp [cn, e]

-- h13
theorem TI_0 {n : Nat} {w p x : Nat → Int32} (hn : n ≤ 12) : TI 0 (n, w, fl nI p n, fl nI x n) := by
  refine ⟨by omega, fun j hj => ⟨j, by have : j < n := hj; omega, fl_in hj⟩, fun i => if i < 12 then nI i else 0, fun i => ?_, fun j hj => ⟨j, by have : j < n := hj; omega, ?_⟩⟩
  · show _ ≤ (if i < 12 then nI i else 0).toInt ∧ (if i < 12 then nI i else 0).toInt ≤ 11
    split
    · rw [nI_toInt (by omega)]; omega
    · decide
  · show fl nI p n j = (if j < 12 then nI j else 0)
    rw [fl_in hj, if_pos (by have : j < n := hj; omega)]

-- h14
theorem fe_le {v : Nat} (h : v % 9223372036854775808 ≤ 9218868437227405312) : (UInt64.ofNat v) &&& 0x7fffffffffffffff ≤ 0x7ff0000000000000 := by
  rw [UInt64.le_iff_toNat_le, UInt64.toNat_and, UInt64.toNat_ofNat]
  show v % 2 ^ 64 &&& (2 ^ 63 - 1) ≤ 9218868437227405312
  rw [Nat.and_two_pow_sub_one_eq_mod, Nat.mod_mod_of_dvd _ (by decide)]
  exact h
theorem fe_t : Jvm.FP.Core.Fmt.tails Jvm.FP.Core.b64 = 4503599627370496 := by decide
theorem fe_x : Jvm.FP.Core.Fmt.exps Jvm.FP.Core.b64 = 2048 := by decide
theorem fe_q : Jvm.FP.Core.Fmt.qmin Jvm.FP.Core.b64 = -1074 := by decide
theorem fe_Q : Jvm.FP.Core.Fmt.qmax Jvm.FP.Core.b64 = 971 := by decide
theorem fe_p : 2 ^ Jvm.FP.Core.b64.p = 9007199254740992 := by decide
theorem fe_fin {s : Bool} {c : Nat} {q : Int} (hc : c < 9007199254740992) (hq : q ≤ 971) : Jvm.FP.Core.encode Jvm.FP.Core.b64 (.fin s c q) % 9223372036854775808 ≤ 9218868437227405311 := by
  show (if c < Jvm.FP.Core.Fmt.tails Jvm.FP.Core.b64 then Jvm.FP.Core.assemble Jvm.FP.Core.b64 s 0 c else Jvm.FP.Core.assemble Jvm.FP.Core.b64 s ((q - Jvm.FP.Core.Fmt.qmin Jvm.FP.Core.b64).toNat + 1) (c - Jvm.FP.Core.Fmt.tails Jvm.FP.Core.b64)) % 9223372036854775808 ≤ 9218868437227405311
  unfold Jvm.FP.Core.assemble
  rw [fe_t, fe_x, fe_q]
  have hs : s.toNat = 0 ∨ s.toNat = 1 := by cases s; exact Or.inl rfl; exact Or.inr rfl
  generalize s.toNat = b at hs
  split
  · rcases hs with rfl | rfl <;> omega
  · have e1 : (q - -1074).toNat ≤ 2045 := by omega
    generalize (q - -1074).toNat = k at e1
    rcases hs with rfl | rfl <;> omega
theorem fe_inf {s : Bool} : Jvm.FP.Core.encode Jvm.FP.Core.b64 (.inf s) % 9223372036854775808 ≤ 9218868437227405312 := by cases s <;> decide
theorem fe_rr {s : Bool} {a b : Nat} {e : Int} : Jvm.FP.Core.encode Jvm.FP.Core.b64 (Jvm.FP.Core.roundRatio Jvm.FP.Core.b64 s a b e) % 9223372036854775808 ≤ 9218868437227405312 := by
  unfold Jvm.FP.Core.roundRatio
  split
  · rw [fe_q]
    exact Nat.le_trans (fe_fin (by omega) (by omega)) (by omega)
  · unfold Jvm.FP.Core.roundAt
    generalize Jvm.FP.Core.nearest _ _ = c
    generalize Jvm.FP.Core.quantum _ _ _ _ = q
    unfold Jvm.FP.Core.settle Jvm.FP.Core.bound
    rw [fe_p, fe_t, fe_Q]
    split
    · next h =>
      split
      · next h2 => exact Nat.le_trans (fe_fin h h2) (by omega)
      · exact fe_inf
    · split
      · next h2 => exact Nat.le_trans (fe_fin (by omega) h2) (by omega)
      · exact fe_inf
theorem fe_nn {v : Nat} (h : v % 9223372036854775808 ≤ 9218868437227405312) : Jvm.FP.Core.decode Jvm.FP.Core.b64 v ≠ .nan := by
  unfold Jvm.FP.Core.decode Jvm.FP.Core.fieldE Jvm.FP.Core.fieldT
  rw [fe_t, fe_x]
  split
  · split
    · exact fun q => by cases q
    · omega
  · split
    · exact fun q => by cases q
    · exact fun q => by cases q
theorem fe_lt {s : Bool} {a b : Nat} {e : Int} : Jvm.FP.Core.encode Jvm.FP.Core.b64 (Jvm.FP.Core.roundRatio Jvm.FP.Core.b64 s a b e) % 18446744073709551616 % 9223372036854775808 ≤ 9218868437227405312 := by
  rw [Nat.mod_mod_of_dvd _ (by decide)]
  exact fe_rr
theorem fe_i2d (x : Int32) : Jvm.FP.Core.decode Jvm.FP.Core.b64 (FP.i2d x).toNat ≠ .nan := by
  show Jvm.FP.Core.decode Jvm.FP.Core.b64 (UInt64.ofNat (Jvm.FP.Core.encode Jvm.FP.Core.b64 (Jvm.FP.Core.roundRatio Jvm.FP.Core.b64 _ _ 1 0))).toNat ≠ .nan
  rw [UInt64.toNat_ofNat']
  exact fe_nn fe_lt
def finNZ : Jvm.FP.Core.Datum → Bool
  | .fin _ c _ => decide (c ≠ 0)
  | _ => false
theorem fe_den : ∀ n, n < 31 → 0 < n → finNZ (Jvm.FP.Core.decode Jvm.FP.Core.b64 (FP.i2d (nI n)).toNat) = true := by decide +kernel
theorem dd_ok (s : Int32) {n : Nat} (hn : n < 31) (h0 : 0 < n) : vf_n64 (FP.ddiv (FP.i2d s) (FP.i2d (nI n))) := by
  have h1 := fe_i2d s
  have h2 := fe_den n hn h0
  show UInt64.ofNat (Jvm.FP.Core.encode Jvm.FP.Core.b64 (Jvm.FP.Core.quotient Jvm.FP.Core.b64 (Jvm.FP.Core.decode Jvm.FP.Core.b64 (FP.i2d s).toNat) (Jvm.FP.Core.decode Jvm.FP.Core.b64 (FP.i2d (nI n)).toNat))) &&& 0x7fffffffffffffff ≤ 0x7ff0000000000000
  generalize Jvm.FP.Core.decode Jvm.FP.Core.b64 (FP.i2d s).toNat = x at h1
  generalize Jvm.FP.Core.decode Jvm.FP.Core.b64 (FP.i2d (nI n)).toNat = y at h2
  apply fe_le
  cases y with
  | nan => exact absurd h2 (by decide)
  | inf t => exact absurd h2 (by simp [finNZ])
  | fin t d r =>
    have hd : d ≠ 0 := of_decide_eq_true h2
    cases x with
    | nan => exact absurd rfl h1
    | inf z => exact fe_inf
    | fin z c q =>
      show Jvm.FP.Core.encode Jvm.FP.Core.b64 (if d = 0 then _ else _) % _ ≤ _
      rw [if_neg hd]
      exact fe_rr
theorem fd_ok : ∀ r, r < 31 → ∀ a, a < 31 → 0 < a → vf_n32 (FP.fdiv (FP.i2f (nI r)) (FP.i2f (nI a))) := by
  have h : ∀ r, r < 31 → ∀ a, a < 31 → 0 < a → FP.fdiv (FP.i2f (nI r)) (FP.i2f (nI a)) &&& 0x7fffffff ≤ 0x7f800000 := by decide +kernel
  exact h
theorem cn_imp {f g : Nat → Bool} (h : ∀ k, f k = true → g k = true) (n : Nat) : cn f n ≤ cn g n := cn_mono n (fun i _ => h i)
def suL (F : Nat → Nat → Int32) (LN : Nat → Nat) (a : Nat) : Nat → Nat
  | 0 => 0
  | n + 1 => suL F LN a n + if svF F a n = true then LN n else 0
theorem suL_y {F : Nat → Nat → Int32} {LN : Nat → Nat} {a n : Nat} (h : svF F a n = true) : nI (suL F LN a n + LN n) = nI (suL F LN a (n + 1)) := by simp [suL, h]
theorem suL_n {F : Nat → Nat → Int32} {LN : Nat → Nat} {a n : Nat} (h : svF F a n = false) : nI (suL F LN a n + 0) = nI (suL F LN a (n + 1)) := by simp [suL, h]
theorem suL_le {F : Nat → Nat → Int32} {LN : Nat → Nat} {a : Nat} (hL : ∀ e, e < 30 → LN e ≤ 96) : ∀ n, n ≤ 30 → suL F LN a n ≤ 96 * cn (svF F a) n
  | 0, _ => Nat.le_refl _
  | n + 1, hn => by
    have h1 := suL_le (F := F) (a := a) hL n (by omega)
    have h2 := hL n (by omega)
    unfold suL cn
    split <;> omega
theorem svN_eq {F : Nat → Nat → Int32} {a n : Nat} (hn : n ≤ 30) (h : ∀ e, n ≤ e → svF F a e = false) : svN F a = cn (svF F a) n := by
  have key : ∀ k, cn (svF F a) (n + k) = cn (svF F a) n := by
    intro k
    induction k with
    | zero => rfl
    | succ k ih =>
      show cn (svF F a) (n + k) + (if svF F a (n + k) = true then 1 else 0) = _
      rw [h (n + k) (by omega), ih]
      rfl
  have h1 := key (30 - n)
  rw [show n + (30 - n) = 30 by omega] at h1
  exact h1
