/-! p39: lists of numbers, what the law's store does to them -/
def lst (n : Nat) (f : Nat → Nat) : List Nat := (List.range n).map f
def idn (P : Nat → Bool) (n : Nat) : List Nat := (List.range n).filter P
theorem lst_0 {f : Nat → Nat} : lst 0 f = [] := rfl
theorem lst_s {n : Nat} {f : Nat → Nat} : lst (n + 1) f = lst n f ++ [f n] := by
  unfold lst
  rw [List.range_succ, List.map_append]
  rfl
theorem idn_s {P : Nat → Bool} {n : Nat} : idn P (n + 1) = idn P n ++ (if P n = true then [n] else []) := by
  unfold idn
  rw [List.range_succ, List.filter_append]
  by_cases h : P n = true
  · rw [if_pos h, List.filter_cons_of_pos h, List.filter_nil]
  · rw [if_neg h, List.filter_cons_of_neg h, List.filter_nil]
theorem lst_cg {f g : Nat → Nat} : ∀ n, (∀ j, j < n → f j = g j) → lst n f = lst n g
  | 0, _ => rfl
  | n + 1, h => by rw [lst_s, lst_s, lst_cg n (fun j hj => h j (by omega)), h n (by omega)]
theorem idn_cg {P Q : Nat → Bool} : ∀ n, (∀ j, j < n → P j = Q j) → idn P n = idn Q n
  | 0, _ => rfl
  | n + 1, h => by rw [idn_s, idn_s, idn_cg n (fun j hj => h j (by omega)), h n (by omega)]
theorem lst_len (n : Nat) (f : Nat → Nat) : (lst n f).length = n := by unfold lst; rw [List.length_map, List.length_range]
theorem idn_len {P : Nat → Bool} : ∀ n, (idn P n).length = cn P n
  | 0 => rfl
  | n + 1 => by
    rw [idn_s, List.length_append, idn_len n]
    show _ = cn P n + (if P n = true then 1 else 0)
    by_cases h : P n = true
    · rw [if_pos h, if_pos h]; rfl
    · rw [if_neg h, if_neg h]; rfl
theorem mem_idn {P : Nat → Bool} {n d : Nat} : d ∈ idn P n ↔ d < n ∧ P d = true := by
  unfold idn
  rw [List.mem_filter, List.mem_range]
theorem mem_lst {n : Nat} {f : Nat → Nat} {d : Nat} : d ∈ lst n f ↔ ∃ j, j < n ∧ f j = d := by
  unfold lst
  rw [List.mem_map]
  constructor
  · rintro ⟨j, hj, e⟩; exact ⟨j, List.mem_range.mp hj, e⟩
  · rintro ⟨j, hj, e⟩; exact ⟨j, List.mem_range.mpr hj, e⟩
theorem lst_at {f : Nat → Nat} {k x : Nat} : lst (k + 1) (va_up f k x) = lst k f ++ [x] := by
  rw [lst_s, va_up_self]
  congr 1
  exact lst_cg k (fun j hj => va_up_ne _ _ (Nat.ne_of_lt hj))
theorem cn_s {P : Nat → Bool} {n : Nat} (h : P n = true) : cn P (n + 1) = cn P n + 1 := by show cn P n + (if P n = true then 1 else 0) = _; rw [if_pos h]
theorem cn_t {P : Nat → Bool} {n : Nat} (h : ¬ P n = true) : cn P (n + 1) = cn P n := by show cn P n + (if P n = true then 1 else 0) = _; rw [if_neg h]; rfl
/-- the numbers that have P, one behind the other -/
def lvG (P : Nat → Bool) (g : Nat → Nat) : Nat → Nat → Nat
  | 0 => g
  | n + 1 => if P n = true then va_up (lvG P g n) (cn P n) n else lvG P g n
theorem lv_y {P : Nat → Bool} {g : Nat → Nat} {n : Nat} (h : P n = true) : va_up (lvG P g n) (cn P n) n = lvG P g (n + 1) := (if_pos h).symm
theorem lv_n {P : Nat → Bool} {g : Nat → Nat} {n : Nat} (h : P n = false) : lvG P g n = lvG P g (n + 1) := (if_neg (by rw [h]; decide)).symm
theorem lst_lv {P : Nat → Bool} {g : Nat → Nat} : ∀ n, lst (cn P n) (lvG P g n) = idn P n
  | 0 => rfl
  | n + 1 => by
    by_cases h : P n = true
    · rw [cn_s h, ← lv_y h, lst_at, lst_lv n, idn_s, if_pos h]
    · rw [cn_t h, ← lv_n (Bool.eq_false_iff.mpr h), lst_lv n, idn_s, if_neg h, List.append_nil]
/-- a copy of the first i -/
def cpN (L : Nat → Nat) (i : Nat) : Nat → Nat := fun j => if j < i then L j else 0
theorem lst_cp {L : Nat → Nat} {n : Nat} : lst n (cpN L n) = lst n L := lst_cg n (fun j hj => if_pos hj)
theorem nF_up {f : Nat → Nat} {k x : Nat} : upd (nF f) k (nI x) = nF (va_up f k x) := by
  funext j
  show upd (nF f) k (nI x) j = nI (va_up f k x j)
  unfold upd va_up
  by_cases h : j = k
  · rw [if_pos h, if_pos h]
  · rw [if_neg h, if_neg h]; rfl
theorem cp_up {L : Nat → Nat} {i : Nat} : upd (nF (cpN L i)) i (nI (L i)) = nF (cpN L (i + 1)) := by
  rw [nF_up]
  congr 1
  funext j
  unfold va_up cpN
  by_cases h : j = i
  · subst h; rw [if_pos rfl, if_pos (Nat.lt_succ_self j)]
  · rw [if_neg h]
    by_cases h2 : j < i
    · rw [if_pos h2, if_pos (by omega)]
    · rw [if_neg h2, if_neg (by omega)]
theorem nF_0 : (fun _ => 0 : Nat → Int32) = nF (fun _ => 0) := funext fun _ => nI_0.symm
theorem nF_cp0 {L : Nat → Nat} : (fun _ => 0 : Nat → Int32) = nF (cpN L 0) := by
  rw [nF_0]
  congr 1
/-- the state behind the first j of a row went into a segment -/
def swF (L : Nat → Nat) (st : Nat → Int32) : Nat → Nat → Int32
  | 0 => st
  | j + 1 => upd (swF L st j) (L j) 115
theorem sw_in {L : Nat → Nat} {st : Nat → Int32} {d : Nat} : ∀ n, d ∈ lst n L → swF L st n d = 115
  | 0, h => absurd h List.not_mem_nil
  | n + 1, h => by
    show upd (swF L st n) (L n) 115 d = 115
    unfold upd
    by_cases e : d = L n
    · rw [if_pos e]
    · rw [if_neg e]
      rw [lst_s, List.mem_append] at h
      rcases h with h | h
      · exact sw_in n h
      · exact absurd (List.mem_singleton.mp h) e
theorem sw_out {L : Nat → Nat} {st : Nat → Int32} {d : Nat} : ∀ n, d ∉ lst n L → swF L st n d = st d
  | 0, _ => rfl
  | n + 1, h => by
    rw [lst_s, List.mem_append] at h
    show upd (swF L st n) (L n) 115 d = st d
    unfold upd
    rw [if_neg (fun e => h (Or.inr (List.mem_singleton.mpr e)))]
    exact sw_out n (fun q => h (Or.inl q))
theorem AC_sw {L : Nat → Nat} {st : Nat → Int32} (h : AC st) : ∀ n, AC (swF L st n)
  | 0 => h
  | n + 1 => AC_upd9 (AC_sw h n) (by decide)
/-- two rows, one behind the other -/
def ap2 (l1 : Nat) (f1 f2 : Nat → Nat) (k : Nat) : Nat := if k < l1 then f1 k else f2 (k - l1)
theorem ap2_1 {l1 k : Nat} {f1 f2 : Nat → Nat} (h : k < l1) : ap2 l1 f1 f2 k = f1 k := if_pos h
theorem ap2_2 {l1 k : Nat} {f1 f2 : Nat → Nat} (h : l1 ≤ k) : ap2 l1 f1 f2 k = f2 (k - l1) := if_neg (by omega)
theorem lst_ap2 {l1 : Nat} {f1 f2 : Nat → Nat} : ∀ l2, lst (l1 + l2) (ap2 l1 f1 f2) = lst l1 f1 ++ lst l2 f2
  | 0 => by rw [lst_0, List.append_nil]; exact lst_cg l1 (fun j hj => ap2_1 hj)
  | l2 + 1 => by
    rw [← Nat.add_assoc, lst_s, lst_ap2 l2, lst_s, List.append_assoc, ap2_2 (Nat.le_add_right _ _), Nat.add_sub_cancel_left]
/-- the first k of E, those with Q kept one behind the other -/
def boF (Q : Nat → Bool) (E g : Nat → Nat) : Nat → Nat → Nat
  | 0 => g
  | k + 1 => va_up (boF Q E g k) (cn (fun i => Q (E i)) k) (E k)
theorem lst_bo {Q : Nat → Bool} {E g : Nat → Nat} : ∀ k, lst (cn (fun i => Q (E i)) k) (boF Q E g k) = (lst k E).filter Q
  | 0 => rfl
  | k + 1 => by
    rw [lst_s, List.filter_append, ← lst_bo k]
    by_cases h : Q (E k) = true
    · rw [cn_s (P := fun i => Q (E i)) h, List.filter_cons_of_pos h, List.filter_nil]
      exact lst_at
    · rw [cn_t (P := fun i => Q (E i)) h, List.filter_cons_of_neg h, List.filter_nil, List.append_nil]
      exact lst_cg _ (fun j hj => va_up_ne _ _ (Nat.ne_of_lt hj))
/-- references moved up by less, from lo to below hi -/
def shO (lo hi less : Nat) (f : Nat → Option Nat) : Nat → Option Nat := fun j => if lo ≤ j ∧ j < hi then f (j + less) else f j
theorem shO_0 {lo less : Nat} {f : Nat → Option Nat} : f = shO lo lo less f := by
  funext j
  unfold shO
  rw [if_neg (by omega)]
theorem shO_s {lo i less : Nat} {f : Nat → Option Nat} (h : lo ≤ i) {x : Option Nat} (hx : x = f (i + less)) : va_up (shO lo i less f) i x = shO lo (i + 1) less f := by
  subst hx
  funext j
  unfold va_up shO
  by_cases e : j = i
  · subst e; rw [if_pos rfl, if_pos (by omega)]
  · rw [if_neg e]
    by_cases e2 : lo ≤ j ∧ j < i
    · rw [if_pos e2, if_pos (by omega)]
    · rw [if_neg e2, if_neg (by omega)]
theorem shO_at {lo i less : Nat} {f : Nat → Option Nat} (h : 0 < less) : shO lo i less f (i + less) = f (i + less) := if_neg (by omega)
/-- the same of numbers, by one -/
def shI (lo hi : Nat) (f : Nat → Int32) : Nat → Int32 := fun j => if lo ≤ j ∧ j < hi then f (j + 1) else f j
theorem shI_0 {lo : Nat} {f : Nat → Int32} : f = shI lo lo f := by
  funext j
  unfold shI
  rw [if_neg (by omega)]
theorem shI_s {k i : Nat} {f : Nat → Int32} (h : k ≤ i) : upd (shI k i f) i (f (i + 1)) = shI k (i + 1) f := by
  funext j
  unfold upd shI
  by_cases e : j = i
  · subst e; rw [if_pos rfl, if_pos (by omega)]
  · rw [if_neg e]
    by_cases e2 : k ≤ j ∧ j < i
    · rw [if_pos e2, if_pos (by omega)]
    · rw [if_neg e2, if_neg (by omega)]
theorem shI_at {lo i : Nat} {f : Nat → Int32} : shI lo i f (i + 1) = f (i + 1) := if_neg (by omega)
/-! the world of the store -/
def PT (a b c : va_W) : va_W := a ++ (b ++ c)
theorem pt_0 {a b c B r : va_W} (h : a.Perm (B ++ r)) : (PT a b c).Perm (B ++ PT r b c) := pm_l h
theorem pt_1 {a b c B r : va_W} (h : b.Perm (B ++ r)) : (PT a b c).Perm (B ++ PT a r c) := pm_r (pm_l h)
/-- the rows of the store -/
def rwb (dA : Nat → ClassId) (ra rl : Nat → Nat) (rf : Nat → Nat → Nat) (i : Nat) : va_W := [(ra i, .inl (dA 0, rl i, .inl (nF (rf i))))]
/-- what the views see -/
def vwb (dA : Nat → ClassId) (va : Nat → Nat) (vb : Nat → Nat → Int32) (j : Nat) : va_W := [(va j, .inl (dA 2, 30, .inl (vb j)))]
theorem pt_P {D : va_G} {cl : List vw_C} {X a b c : va_W} {H : Heap} (h : va_P D cl (X ++ PT a b c) H) : va_P D cl ((X ++ (a ++ b)) ++ c) H := by
  rw [List.append_assoc, List.append_assoc]; exact h
theorem pt_D {A : Nat → Prop} {X a b c : va_W} (h : va_D A (X ++ PT a b c)) : va_D A ((X ++ (a ++ b)) ++ c) := by
  rw [List.append_assoc, List.append_assoc]; exact h
theorem tp_P {D : va_G} {cl : List vw_C} {X a b c : va_W} {H : Heap} (h : va_P D cl ((X ++ (a ++ b)) ++ c) H) : va_P D cl (X ++ PT a b c) H := by
  rw [List.append_assoc, List.append_assoc] at h; exact h
theorem tp_D {A : Nat → Prop} {X a b c : va_W} (h : va_D A ((X ++ (a ++ b)) ++ c)) : va_D A (X ++ PT a b c) := by
  rw [List.append_assoc, List.append_assoc] at h; exact h
/-! arrays that are cloned, and cast back -/
theorem nm_of {s : State} {cA : ClassId} {ty : FieldType} {nm : String} (h : s.vm.findClass ("[" ++ ty.toString) = some cA) (e : "[" ++ ty.toString = nm) : s.vm.findClass nm = some cA := e ▸ h
theorem fit_ch {cA : ClassId} {n : Nat} {f : Nat → Int32} (h : AC f) : ∀ (i : Nat) (v : Value), (vp_cell cA (n, .inl f)).slots[i]? = some v → fits .char v = true := by
  intro i v hv
  have h1 : (arrV cA n (fun j => .int (f j))).slots[i]? = some v := hv
  have hi : i < n := by
    have := (Array.getElem?_eq_some_iff.mp h1).1
    rw [arrV_size] at this
    exact this
  rw [arrV_read _ _ hi] at h1
  cases h1
  rw [← h i, ← ch16]
  exact pk_fc _
theorem fit_rf {cA : ClassId} {n : Nat} {f : Nat → Option Nat} {t : FieldType} : ∀ (i : Nat) (v : Value), (vp_cell cA (n, .inr (.inr (.inr (.inr f))))).slots[i]? = some v → fits (.array t) v = true := by
  intro i v hv
  rw [vp_cell_q] at hv
  have hi : i < n := by
    have := (Array.getElem?_eq_some_iff.mp hv).1
    rw [arrV_size] at this
    exact this
  rw [arrV_read _ _ hi] at hv
  cases hv
  cases f i <;> rfl
/-! states of the store's documents -/
def stC (st : Nat → Int32) (x : Int32) (d : Nat) : Bool := decide (st d = x)
theorem stC_y {st : Nat → Int32} {x : Int32} {d : Nat} (h : st d = x) : stC st x d = true := decide_eq_true h
theorem stC_n {st : Nat → Int32} {x : Int32} {d : Nat} (h : ¬ st d = x) : stC st x d = false := decide_eq_false h
theorem cpl_lt {P : Nat → Bool} {g : Nat → Nat} {n i : Nat} (h : i < cn P n) : cpN (lvG P g n) (cn P n) i < n := by
  unfold cpN
  rw [if_pos h]
  exact (mem_idn.mp ((lst_lv (P := P) (g := g) n) ▸ mem_lst.mpr ⟨i, h, rfl⟩)).1
theorem ap_lt {l1 l2 k B : Nat} {f1 f2 : Nat → Nat} (h1 : ∀ j, j < l1 → f1 j < B) (h2 : ∀ j, j < l2 → f2 j < B) (hk : k < l1 + l2) : ap2 l1 f1 f2 k < B := by
  unfold ap2
  split
  · exact h1 k (by omega)
  · exact h2 _ (by omega)
def crG (kd : Nat) (kst : Nat → Int32) (d : Nat) : Int32 := if d < kd then kst d else 108
def crX (kd : Nat) (kst st : Nat → Int32) (d : Nat) : Bool := (decide (st d = 98) || decide (st d = 115)) != decide (crG kd kst d = 115)
theorem crX_of {kd : Nat} {kst st : Nat → Int32} {d : Nat} {a b : Bool} (h1 : (decide (st d = 98) || decide (st d = 115)) = a) (h2 : decide (crG kd kst d = 115) = b) : crX kd kst st d = (a != b) := by
  unfold crX
  rw [h1, h2]
theorem crO_1 {x : Int32} (h : x = 98) : (decide (x = 98) || decide (x = 115)) = true := by rw [decide_eq_true h]; rfl
theorem crO_2 {x : Int32} (h : x = 115) : (decide (x = 98) || decide (x = 115)) = true := by rw [decide_eq_true h]; exact Bool.or_true _
theorem crO_3 {x : Int32} (h : ¬ x = 98) (h2 : ¬ x = 115) : (decide (x = 98) || decide (x = 115)) = false := by rw [decide_eq_false h, decide_eq_false h2]; rfl
theorem AC_crG {kd n : Nat} {kst st : Nat → Int32} (h : AC kst) (h2 : AC st) : AC (fl (crG kd kst) st n) := AC_fl h2 (fun j => by
  unfold crG
  split
  · exact h j
  · decide)
