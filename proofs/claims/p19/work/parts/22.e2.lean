/-! CONTRACTS, general -/
theorem q557 : (.selects RX8 yX8_documentNumbered yX8_documentNumbered : Cond) ∈ WA := WA_of (sb_1 7 rfl) rfl
theorem q558 : (.code yX8_documentNumbered cX8_documentNumbered 2 (some (.object "TallowIndex$Document")) : Cond) ∈ WA := WA_of (tb_3 147 rfl) rfl
theorem q559 : (.methodLink RX8 149 yX8_documentNumbered : Cond) ∈ WA := WA_of (tb_3 144 rfl) rfl
theorem q560 : (.instanceMethod yX8_documentNumbered : Cond) ∈ WA := WA_of (tb_3 146 rfl) rfl
theorem q561 : (.methodLink RX8 153 yX6_timesAt : Cond) ∈ WA := WA_of (tb_3 155 rfl) rfl
theorem q562 : (.methodLink RX8 137 yX4_stateOf : Cond) ∈ WA := WA_of (tb_3 123 rfl) rfl
theorem q563 : (.methodLink RX8 141 yX4_lives : Cond) ∈ WA := WA_of (tb_3 124 rfl) rfl
theorem q564 : (.selects RX4 yX4_takeOut yX4_takeOut : Cond) ∈ WA := WA_of (tb_3 128 rfl) rfl
theorem q565 : (.code yX4_takeOut cX4_takeOut 2 none : Cond) ∈ WA := WA_of (tb_3 129 rfl) rfl
theorem q566 : (.methodLink RX8 146 yX4_takeOut : Cond) ∈ WA := WA_of (tb_3 126 rfl) rfl
theorem q567 : (.instanceMethod yX4_takeOut : Cond) ∈ WA := WA_of (tb_3 127 rfl) rfl
theorem q568 : (.classLink RX8 68 "java/lang/IllegalStateException" : Cond) ∈ WA := WA_of (tb_2 75 rfl) rfl
theorem q569 : (.initialized "java/lang/IllegalStateException" : Cond) ∈ WA := WA_of (tb_1 14 rfl) rfl
theorem q570 : (.methodLink RX8 197 yX2_get : Cond) ∈ WA := WA_of (tb_3 211 rfl) rfl
theorem q571 : (.selects RX4 yX4_writeBuffer yX4_writeBuffer : Cond) ∈ WA := WA_of (tb_1 186 rfl) rfl
theorem q572 : (.code yX4_writeBuffer cX4_writeBuffer 3 (some .int) : Cond) ∈ WA := WA_of (tb_1 187 rfl) rfl
theorem q573 : (.methodLink RX8 157 yX4_writeBuffer : Cond) ∈ WA := WA_of (tb_1 184 rfl) rfl
theorem q574 : (.instanceMethod yX4_writeBuffer : Cond) ∈ WA := WA_of (tb_1 185 rfl) rfl
theorem q575 : (.selects RX4 yX4_hasSegment yX4_hasSegment : Cond) ∈ WA := WA_of (tb_3 165 rfl) rfl
theorem q576 : (.code yX4_hasSegment cX4_hasSegment 2 (some .boolean) : Cond) ∈ WA := WA_of (tb_3 166 rfl) rfl
theorem q577 : (.methodLink RX8 163 yX4_hasSegment : Cond) ∈ WA := WA_of (tb_3 163 rfl) rfl
theorem q578 : (.instanceMethod yX4_hasSegment : Cond) ∈ WA := WA_of (tb_3 164 rfl) rfl
theorem q579 : (.selects RX4 yX4_documentsIn yX4_documentsIn : Cond) ∈ WA := WA_of (tb_3 170 rfl) rfl
theorem q580 : (.code yX4_documentsIn cX4_documentsIn 4 (some .int) : Cond) ∈ WA := WA_of (tb_3 171 rfl) rfl
theorem q581 : (.methodLink RX8 171 yX4_documentsIn : Cond) ∈ WA := WA_of (tb_3 168 rfl) rfl
theorem q582 : (.instanceMethod yX4_documentsIn : Cond) ∈ WA := WA_of (tb_3 169 rfl) rfl
theorem q583 : (.selects RX4 yX4_mergeWithNext yX4_mergeWithNext : Cond) ∈ WA := WA_of (tb_3 182 rfl) rfl
theorem q584 : (.code yX4_mergeWithNext cX4_mergeWithNext 6 (some .int) : Cond) ∈ WA := WA_of (tb_3 183 rfl) rfl
theorem q585 : (.methodLink RX8 177 yX4_mergeWithNext : Cond) ∈ WA := WA_of (tb_3 180 rfl) rfl
theorem q586 : (.instanceMethod yX4_mergeWithNext : Cond) ∈ WA := WA_of (tb_3 181 rfl) rfl
theorem q587 : (.selects RX4 yX4_takeOver yX4_takeOver : Cond) ∈ WA := WA_of (tb_1 210 rfl) rfl
theorem q588 : (.code yX4_takeOver cX4_takeOver 2 none : Cond) ∈ WA := WA_of (tb_1 211 rfl) rfl
theorem q589 : (.methodLink RX8 180 yX4_takeOver : Cond) ∈ WA := WA_of (tb_1 208 rfl) rfl
theorem q590 : (.instanceMethod yX4_takeOver : Cond) ∈ WA := WA_of (tb_1 209 rfl) rfl
theorem q591 : (.fieldLink RX8 184 "TallowIndex" "commits" "I" : Cond) ∈ WA := WA_of (tb_1 140 rfl) rfl
theorem q592 : (.selects RX4 yX4_listPresent yX4_listPresent : Cond) ∈ WA := WA_of (tb_3 198 rfl) rfl
theorem q593 : (.code yX4_listPresent cX4_listPresent 4 (some .int) : Cond) ∈ WA := WA_of (tb_3 199 rfl) rfl
theorem q594 : (.methodLink RX8 193 yX4_listPresent : Cond) ∈ WA := WA_of (tb_3 196 rfl) rfl
theorem q595 : (.instanceMethod yX4_listPresent : Cond) ∈ WA := WA_of (tb_3 197 rfl) rfl
theorem znS_26 {U : State} (h : ZS U) : ∃ a, vk_R "TallowIndex" 295 "the bound is out of range" a U := h.2.2.2.2.1 ("TallowIndex", 295, "the bound is out of range") (List.mem_of_getElem? (i := 26) rfl)
theorem znF_10 {U : State} (h : ZS U) : va_Nw (.fieldLinkNest "TallowIndex" 110 "TallowIndex$Document" "text" "LTallowIndex$Text;" "TallowIndex") U := h.2.2.1 ("TallowIndex", 110, "TallowIndex$Document", "text", "LTallowIndex$Text;", "TallowIndex") (List.mem_of_getElem? (i := 10) rfl)
theorem znF_5 {U : State} (h : ZS U) : va_Nw (.fieldLinkNest "TallowIndex" 114 "TallowIndex$Text" "count" "I" "TallowIndex") U := h.2.2.1 ("TallowIndex", 114, "TallowIndex$Text", "count", "I", "TallowIndex") (List.mem_of_getElem? (i := 5) rfl)
theorem znF_13 {U : State} (h : ZS U) : va_Nw (.fieldLinkNest "TallowIndex" 292 "TallowIndex$Document" "clicks" "I" "TallowIndex") U := h.2.2.1 ("TallowIndex", 292, "TallowIndex$Document", "clicks", "I", "TallowIndex") (List.mem_of_getElem? (i := 13) rfl)
theorem znS_9 {U : State} (h : ZS U) : ∃ a, vk_R "TallowIndex" 144 "the document is removed or lost" a U := h.2.2.2.2.1 ("TallowIndex", 144, "the document is removed or lost") (List.mem_of_getElem? (i := 9) rfl)
theorem znF_0 {U : State} (h : ZS U) : va_Nw (.fieldLinkNest "TallowIndex" 160 "TallowIndex$Shelf" "segmentCount" "I" "TallowIndex") U := h.2.2.1 ("TallowIndex", 160, "TallowIndex$Shelf", "segmentCount", "I", "TallowIndex") (List.mem_of_getElem? (i := 0) rfl)
theorem znS_10 {U : State} (h : ZS U) : ∃ a, vk_R "TallowIndex" 168 "no such segment" a U := h.2.2.2.2.1 ("TallowIndex", 168, "no such segment") (List.mem_of_getElem? (i := 10) rfl)
theorem znS_11 {U : State} (h : ZS U) : ∃ a, vk_R "TallowIndex" 175 "no next segment" a U := h.2.2.2.2.1 ("TallowIndex", 175, "no next segment") (List.mem_of_getElem? (i := 11) rfl)
theorem znS_12 {U : State} (h : ZS U) : ∃ a, vk_R "TallowIndex" 191 "nothing was committed" a U := h.2.2.2.2.1 ("TallowIndex", 191, "nothing was committed") (List.mem_of_getElem? (i := 12) rfl)
theorem znF_16 {U : State} (h : ZS U) : va_Nw (.fieldLinkNest "TallowIndex" 221 "TallowIndex$View" "count" "I" "TallowIndex") U := h.2.2.1 ("TallowIndex", 221, "TallowIndex$View", "count", "I", "TallowIndex") (List.mem_of_getElem? (i := 16) rfl)
theorem znC_1 {U : State} (h : ZS U) : va_Nw (.castable "java/lang/IllegalStateException" "java/lang/IllegalStateException") U := h.1 ("java/lang/IllegalStateException", "java/lang/IllegalStateException") (List.mem_of_getElem? (i := 1) rfl)
theorem hat0_RX8_72 : ∀ w ∈ (vx_atS RX8 72 "java/lang/IllegalStateException" ["java/lang/RuntimeException", "java/lang/Exception"]).filter goodWord, w ∈ lw_tbl := by decide +kernel
theorem hat_RX8_72 {args : Array Value} {s : State} (hts : ∀ w ∈ WA, w.before args s = true) (hz : ZS s) : ∀ w ∈ vx_atS RX8 72 "java/lang/IllegalStateException" ["java/lang/RuntimeException", "java/lang/Exception"], w.before args s = true := vx_hat (L := vx_atS RX8 72 "java/lang/IllegalStateException" ["java/lang/RuntimeException", "java/lang/Exception"]) (B := [.castable "java/lang/IllegalStateException" "java/lang/IllegalStateException", .declares ⟨"java/lang/RuntimeException", "<init>", "(Ljava/lang/String;)V"⟩, .declares ⟨"java/lang/Exception", "<init>", "(Ljava/lang/String;)V"⟩, .declares ⟨"java/lang/Throwable", "<init>", "(Ljava/lang/String;)V"⟩]) (fun w hw => hts w (WA_of (hat0_RX8_72 w hw) (List.mem_filter.mp hw).2)) (by decide +kernel) (vx_c (va_Nw.use rfl (znC_1 hz)) (vx_c (va_Nw.use rfl (znD_1 hz)) (vx_c (va_Nw.use rfl (znD_3 hz)) (vx_c (va_Nw.use rfl (znD_5 hz)) (vx_n)))))
theorem hgd_RX8_72_68 : ∀ w ∈ Cond.classLink RX8 68 "java/lang/IllegalStateException" :: Cond.initialized "java/lang/IllegalStateException" :: vx_atS RX8 72 "java/lang/IllegalStateException" ["java/lang/RuntimeException", "java/lang/Exception"], vx_ot w = true := by decide +kernel
theorem lst_pm {X cx T : va_W} (pl : List Nat) (n : Nat) (hn : X.length = n) (hs : pl.map (fun i => X[i]?) = cx.map some) (hp : pl.Perm (List.range n)) : (X ++ T).Perm (cx ++ T) := by
  subst hn
  apply List.Perm.append_right
  have h1 : (List.range X.length).map (fun i => X[i]?) = X.map some := by
    apply List.ext_getElem
    · rw [List.length_map, List.length_map, List.length_range]
    · intro i h1 h2
      rw [List.getElem_map, List.getElem_map, List.getElem_range]
      rw [List.length_map, List.length_range] at h1
      exact List.getElem?_eq_getElem h1
  have h2 := hp.map (fun i => X[i]?)
  rw [hs, h1] at h2
  have h3 := h2.filterMap id
  have e : ∀ l : va_W, (l.map some).filterMap id = l := fun l => by
    rw [List.filterMap_map]
    exact List.filterMap_some
  rw [e, e] at h3
  exact h3.symm
theorem cw_sp {nd rs T T' : va_W} (h : T'.Perm (rs ++ T)) : ((nd ++ rs) ++ T).Perm (nd ++ T') := by
  rw [List.append_assoc]
  exact List.Perm.append_left nd h.symm
theorem seg_cases {n : Nat} (hn : n ≤ 1000) (x : Int32) : (∃ k, k < n ∧ x = nI k) ∨ inR 0 (nI n - 1) x = false := by
  rcases pk_ix x (n := n) (by omega) with h | h | h
  · right; simp [inR, h]
  · right
    by_cases h0 : x < 0
    · simp [inR, h0]
    · obtain ⟨j, hj, rfl⟩ := nI_of h0
      have h2 : n ≤ j := (nI_leI (by omega) hj).mp h
      by_cases hn0 : n = 0
      · subst hn0
        have e : nI 0 - 1 = (-1 : Int32) := by decide
        rw [e]
        exact inR_m1 _
      · obtain ⟨m, rfl⟩ : ∃ m, n = m + 1 := ⟨n - 1, by omega⟩
        rw [nI_pred]
        have h3 : nI m < nI j := nI_lt (by omega) hj
        simp [inR, h3]
  · exact Or.inl h
theorem seg_hi {n j : Nat} (hn : n ≤ 1000) (hj : j ≤ 1001) (h : n ≤ j) : inR 0 (nI n - 1) (nI j) = false := by
  rcases seg_cases hn (nI j) with ⟨k, hk, e⟩ | e
  · exact absurd ((nI_eq (by omega) (by omega)).mp e) (by omega)
  · exact e
theorem cap_s {c : Nat} (h : c = 0 ∨ c = 10) : c ≤ 10 := by omega
theorem cap_t {c : Nat} (h : c = 0 ∨ c = 10) (h0 : 0 < c) : c = 10 := by omega
theorem cap_d {c : Nat} (h : c = 0 ∨ c = 10 ∨ c = 15 ∨ c = 22 ∨ c = 33) : c ≤ 33 := by omega
theorem cap_q {c : Nat} (h : c = 0 ∨ c = 10 ∨ c = 15 ∨ c = 22 ∨ c = 33 ∨ c = 49) : c ≤ 49 := by omega
theorem upd_at {f : Nat → Int32} {k : Nat} {x : Int32} : upd f k x k = x := if_pos rfl
theorem upd_ne9 {f : Nat → Int32} {k j : Nat} {x : Int32} (h : j ≠ k) : upd f k x j = f j := if_neg h
theorem dc_in {n k : Nat} (h : k < n) (hn : n ≤ 1000) : inR 0 (nI n - 1) (nI k) = true := by
  obtain ⟨m, rfl⟩ : ∃ m, n = m + 1 := ⟨n - 1, by omega⟩
  rw [nI_pred]
  have h1 : ¬ nI k < 0 := nI_pos (by omega)
  have h2 : ¬ nI m < nI k := nI_nlt (by omega) (by omega)
  simp [inR, h1, h2]
theorem dc_out {n : Nat} {x : Int32} (h : ∀ j, j < n → ¬ x = nI j) (hn : n ≤ 1000) : inR 0 (nI n - 1) x = false := by
  rcases seg_cases hn x with ⟨k, hk, e⟩ | e
  · exact absurd e (h k hk)
  · exact e
theorem cl_arg {α : Type} (f : Nat → α) {k : Nat} (h : k < 2 ^ 31) : f k = f (nI k).toNatClampNeg := by rw [nI_clamp h]
theorem on_1 {r : Int32} {p : Prop} [Decidable p] (h : r = if p then 1 else 0) (hn : ¬ r = 0) : r = 1 := by
  split at h
  · exact h
  · exact absurd h hn
theorem mgx_in {n k : Nat} (h : k + 1 < n) (hn : n ≤ 1000) : inR 0 (nI n - 2) (nI k) = true := by
  obtain ⟨m, rfl⟩ : ∃ m, n = m + 2 := ⟨n - 2, by omega⟩
  have e : nI (m + 2) - 2 = nI m := (pk_sub (a := m + 2) (b := 2) (by omega)).trans (by rw [Nat.add_sub_cancel])
  rw [e]
  have h1 : ¬ nI k < 0 := nI_pos (by omega)
  have h2 : ¬ nI m < nI k := nI_nlt (by omega) (by omega)
  simp [inR, h1, h2]
theorem mgx_no {n : Nat} {x : Int32} (hn : n ≤ 1000) (h : ∀ k, k + 1 < n → ¬ x = nI k) : inR 0 (nI n - 2) x = false := by
  rcases (show n = 0 ∨ n = 1 ∨ 2 ≤ n by omega) with rfl | rfl | h2
  · rw [show nI 0 - 2 = (-2 : Int32) by decide]; exact inR_m2 _
  · rw [show nI 1 - 2 = (-1 : Int32) by decide]; exact inR_m1 _
  · obtain ⟨m, rfl⟩ : ∃ m, n = m + 2 := ⟨n - 2, by omega⟩
    have e : nI (m + 2) - 2 = nI (m + 1) - 1 := by
      rw [show (2 : Int32) = nI 2 from rfl, pk_sub (by omega), nI_pred]
      rfl
    rw [e]
    exact dc_out (fun j hj => h j (by omega)) (by omega)
theorem mgx_o1 {n : Nat} {x : Int32} (h : inR 0 (nI n - 1) x = false) (hn : n ≤ 1000) : inR 0 (nI n - 2) x = false :=
  mgx_no hn (fun k hk e => by rw [e, dc_in (show k < n by omega) hn] at h; exact absurd h (by decide))
theorem mgx_o2 {n k : Nat} (h : k < n) (h2 : ¬ k + 1 < n) (hn : n ≤ 1000) : inR 0 (nI n - 2) (nI k) = false :=
  mgx_no hn (fun j hj e => by have := (nI_eq (a := k) (b := j) (by omega) (by omega)).mp e; omega)
theorem mg_eG {s n2 : Nat} {u : (Nat → Int32) × Nat} {X Y : Nat → Nat → Int32} {c : Nat → Nat} (h : (0 < c s ∧ u = (X s, n2 + 1)) ∨ (c s = 0 ∧ u = (Y s, n2))) (hs : s < 2 ^ 31) : u.1 = if 0 < c (nI s).toNatClampNeg then X (nI s).toNatClampNeg else Y (nI s).toNatClampNeg := by
  rw [nI_clamp hs]
  rcases h with ⟨h1, e⟩ | ⟨h1, e⟩
  · rw [e, if_pos h1]
  · rw [e, if_neg (by omega)]
theorem mg_eN {s n2 : Nat} {u : (Nat → Int32) × Nat} {X Y : Nat → Nat → Int32} {c : Nat → Nat} (h : (0 < c s ∧ u = (X s, n2 + 1)) ∨ (c s = 0 ∧ u = (Y s, n2))) (hs : s < 2 ^ 31) : u.2 = (n2 + 1 + 1) - if 0 < c (nI s).toNatClampNeg then 1 else 2 := by
  rw [nI_clamp hs]
  rcases h with ⟨h1, e⟩ | ⟨h1, e⟩
  · rw [e, if_pos h1]; rfl
  · rw [e, if_neg (by omega)]; rfl
theorem rg_at {n k : Nat} {f : Nat → Int32} (h : k < n) (hn : n < 2 ^ 31) : rgF n f (nI k) = f k := by
  unfold rgF
  rw [if_neg (nI_pos (by omega)), if_neg (nI_ge h hn), nI_clamp (by omega)]
theorem ask_n1 {k a b d w : Int32} (h : okCan k a b d = false) : okAsk9 k a b d w = false := by unfold okAsk9; rw [h]; rfl
theorem ask_n2 {k a b d w : Int32} (h : w < 1) : okAsk9 k a b d w = false := by simp [okAsk9, inR, h]
theorem ask_n3 {k a b d w : Int32} (h : ¬ w ≤ 9) : okAsk9 k a b d w = false := by simp [okAsk9, inR, Int32.not_le.mp h]
theorem ask_y {k a b d w : Int32} (h : okCan k a b d = true) (h1 : ¬ w < 1) (h2 : w ≤ 9) : okAsk9 k a b d w = true := by simp [okAsk9, inR, h, h1, Int32.not_lt.mpr h2]
set_option maxRecDepth 100000 in
theorem cwp_0 (dA : Nat → ClassId) (xa : Nat → Nat) (sh : Nat → Nat) (cs : Nat → Nat) (rp : Nat → Nat) (zq : Nat → Nat) (cm : Nat) (vs : Nat) (bd : Int32) (op : Bool) (mst : Int32) (nst : Nat) (cps : Nat) (ars : Nat) (fss : Nat → Option Nat) (se : Nat → Nat) (SK : Nat → Int32) (SA : Nat → Int32) (SB : Nat → Int32) (mdd : Int32) (nd : Nat) (capd : Nat) (ad0 : Nat) (fdd : Nat → Option Nat) (dt : Nat → Nat → Nat) (TG : Nat → Int32) (WH : Nat → Int32) (CK : Nat → Int32) (TW : Nat → Nat → Int32) (TP : Nat → Nat → Int32) (TX : Nat → Nat → Int32) (NM : Nat → Nat) (mvv : Int32) (nv : Nat) (capv : Nat) (av0 : Nat) (fvv : Nat → Option Nat) (ve : Nat → Nat → Nat) (VN : Nat → Int32) (VC : Nat → Nat) (VP : Nat → Nat → Int32) (mq : Int32) (nq : Nat) (capq : Nat) (aq0 : Nat) (fq : Nat → Option Nat) (eq : Nat → Nat) (QK : Nat → Int32) (QA : Nat → Int32) (QB : Nat → Int32) (QD : Nat → Int32) (WT : Nat → Nat) (QN : Nat → Int32) (tS : Nat → Int32) (tG : Nat → Int32) (nsg : Nat) (kS : Nat → Int32) (kG : Nat → Int32) (kd : Nat) (ksg : Nat) (rP : Nat → Int32) (aq : Int32) (fd : Int32) (pp : Nat → Int32) (t0 : Nat → Int32) (sc : Nat → Int32) (R0 : Nat → Int32) (h0 : Nat → Nat) (mm : Nat → Int32) : (CW dA (CS.mk xa sh cs rp zq cm vs bd op mst nst cps ars fss se SK SA SB mdd nd capd ad0 fdd dt TG WH CK TW TP TX NM mvv nv capv av0 fvv ve VN VC VP mq nq capq aq0 fq eq QK QA QB QD WT QN tS tG nsg kS kG kd ksg rP aq fd pp t0 sc R0 h0 mm)).Perm (HAppend.hAppend (α := va_W) (β := va_W) (γ := va_W) [(xa 0, .inr (11, [.ref (xa 1), .ref (xa 2), .ref (xa 3), .ref (xa 4), .ref (sh 0), .ref (cs 0), .ref (rp 0), .ref (zq 0), (opV op (dt nd 7)), .int (nI cm), .int (nI vs), .int bd]))] (T9 (arw dA cps ars fss) (arw dA capd ad0 fdd) (arw dA capv av0 fvv) (arw dA capq aq0 fq) (fam nd (dcb dA dt TG WH CK TW TP TX NM)) (em 4 nq eq (qfs QK QA QB QD (nF WT) QN)) (fam nv (vcb dA ve VN VP VC)) (em 8 nst se (sfs SK SA SB)) (HAppend.hAppend (α := va_W) (β := va_W) (γ := va_W) [(xa 1, .inr (2, [.int mst, .ref ars, .int (nI nst)])), (xa 2, .inr (2, [.int mdd, .ref ad0, .int (nI nd)])), (xa 3, .inr (2, [.int mvv, .ref av0, .int (nI nv)])), (xa 4, .inr (2, [.int mq, .ref aq0, .int (nI nq)])), (sh 0, .inr (7, [.ref (sh 1), .ref (sh 3), .int (nI nd), .int (nI nsg)])), (sh 1, .inr (5, [.ref (sh 2)])), (sh 2, .inl (dA 0, 30, .inl tS)), (sh 3, .inr (5, [.ref (sh 4)])), (sh 4, .inl (dA 0, 30, .inl tG)), (cs 0, .inr (7, [.ref (cs 1), .ref (cs 3), .int (nI kd), .int (nI ksg)])), (cs 1, .inr (5, [.ref (cs 2)])), (cs 2, .inl (dA 0, 30, .inl kS)), (cs 3, .inr (5, [.ref (cs 4)])), (cs 4, .inl (dA 0, 30, .inl kG)), (rp 0, .inr (5, [.ref (rp 1)])), (rp 1, .inl (dA 0, 30, .inl rP)), (zq 0, .inr (6, [.ref (zq 1), .ref (zq 3), .ref (zq 5), .ref (zq 7), .ref (zq 9), .ref (zq 11), .int aq, .int fd])), (zq 1, .inr (5, [.ref (zq 2)])), (zq 2, .inl (dA 0, 40, .inl pp)), (zq 3, .inr (5, [.ref (zq 4)])), (zq 4, .inl (dA 0, 30, .inl t0)), (zq 5, .inr (5, [.ref (zq 6)])), (zq 6, .inl (dA 0, 1200, .inl sc)), (zq 7, .inr (5, [.ref (zq 8)])), (zq 8, .inl (dA 0, 30, .inl R0)), (zq 9, .inr (5, [.ref (zq 10)])), (zq 10, .inl (dA 0, 30, .inl (nF h0))), (zq 11, .inr (5, [.ref (zq 12)])), (zq 12, .inl (dA 0, 12, .inl mm))] (opB op (dcb dA dt TG WH CK TW TP TX NM nd))))) := (lst_pm (X := [(xa 0, .inr (11, [.ref (xa 1), .ref (xa 2), .ref (xa 3), .ref (xa 4), .ref (sh 0), .ref (cs 0), .ref (rp 0), .ref (zq 0), (opV op (dt nd 7)), .int (nI cm), .int (nI vs), .int bd])), (xa 1, .inr (2, [.int mst, .ref ars, .int (nI nst)])), (xa 2, .inr (2, [.int mdd, .ref ad0, .int (nI nd)])), (xa 3, .inr (2, [.int mvv, .ref av0, .int (nI nv)])), (xa 4, .inr (2, [.int mq, .ref aq0, .int (nI nq)])), (sh 0, .inr (7, [.ref (sh 1), .ref (sh 3), .int (nI nd), .int (nI nsg)])), (sh 1, .inr (5, [.ref (sh 2)])), (sh 2, .inl (dA 0, 30, .inl tS)), (sh 3, .inr (5, [.ref (sh 4)])), (sh 4, .inl (dA 0, 30, .inl tG)), (cs 0, .inr (7, [.ref (cs 1), .ref (cs 3), .int (nI kd), .int (nI ksg)])), (cs 1, .inr (5, [.ref (cs 2)])), (cs 2, .inl (dA 0, 30, .inl kS)), (cs 3, .inr (5, [.ref (cs 4)])), (cs 4, .inl (dA 0, 30, .inl kG)), (rp 0, .inr (5, [.ref (rp 1)])), (rp 1, .inl (dA 0, 30, .inl rP)), (zq 0, .inr (6, [.ref (zq 1), .ref (zq 3), .ref (zq 5), .ref (zq 7), .ref (zq 9), .ref (zq 11), .int aq, .int fd])), (zq 1, .inr (5, [.ref (zq 2)])), (zq 2, .inl (dA 0, 40, .inl pp)), (zq 3, .inr (5, [.ref (zq 4)])), (zq 4, .inl (dA 0, 30, .inl t0)), (zq 5, .inr (5, [.ref (zq 6)])), (zq 6, .inl (dA 0, 1200, .inl sc)), (zq 7, .inr (5, [.ref (zq 8)])), (zq 8, .inl (dA 0, 30, .inl R0)), (zq 9, .inr (5, [.ref (zq 10)])), (zq 10, .inl (dA 0, 30, .inl (nF h0))), (zq 11, .inr (5, [.ref (zq 12)])), (zq 12, .inl (dA 0, 12, .inl mm))]) (cx := [(xa 0, .inr (11, [.ref (xa 1), .ref (xa 2), .ref (xa 3), .ref (xa 4), .ref (sh 0), .ref (cs 0), .ref (rp 0), .ref (zq 0), (opV op (dt nd 7)), .int (nI cm), .int (nI vs), .int bd]))] ++ [(xa 1, .inr (2, [.int mst, .ref ars, .int (nI nst)])), (xa 2, .inr (2, [.int mdd, .ref ad0, .int (nI nd)])), (xa 3, .inr (2, [.int mvv, .ref av0, .int (nI nv)])), (xa 4, .inr (2, [.int mq, .ref aq0, .int (nI nq)])), (sh 0, .inr (7, [.ref (sh 1), .ref (sh 3), .int (nI nd), .int (nI nsg)])), (sh 1, .inr (5, [.ref (sh 2)])), (sh 2, .inl (dA 0, 30, .inl tS)), (sh 3, .inr (5, [.ref (sh 4)])), (sh 4, .inl (dA 0, 30, .inl tG)), (cs 0, .inr (7, [.ref (cs 1), .ref (cs 3), .int (nI kd), .int (nI ksg)])), (cs 1, .inr (5, [.ref (cs 2)])), (cs 2, .inl (dA 0, 30, .inl kS)), (cs 3, .inr (5, [.ref (cs 4)])), (cs 4, .inl (dA 0, 30, .inl kG)), (rp 0, .inr (5, [.ref (rp 1)])), (rp 1, .inl (dA 0, 30, .inl rP)), (zq 0, .inr (6, [.ref (zq 1), .ref (zq 3), .ref (zq 5), .ref (zq 7), .ref (zq 9), .ref (zq 11), .int aq, .int fd])), (zq 1, .inr (5, [.ref (zq 2)])), (zq 2, .inl (dA 0, 40, .inl pp)), (zq 3, .inr (5, [.ref (zq 4)])), (zq 4, .inl (dA 0, 30, .inl t0)), (zq 5, .inr (5, [.ref (zq 6)])), (zq 6, .inl (dA 0, 1200, .inl sc)), (zq 7, .inr (5, [.ref (zq 8)])), (zq 8, .inl (dA 0, 30, .inl R0)), (zq 9, .inr (5, [.ref (zq 10)])), (zq 10, .inl (dA 0, 30, .inl (nF h0))), (zq 11, .inr (5, [.ref (zq 12)])), (zq 12, .inl (dA 0, 12, .inl mm))]) (T := (T9 (arw dA cps ars fss) (arw dA capd ad0 fdd) (arw dA capv av0 fvv) (arw dA capq aq0 fq) (fam nd (dcb dA dt TG WH CK TW TP TX NM)) (em 4 nq eq (qfs QK QA QB QD (nF WT) QN)) (fam nv (vcb dA ve VN VP VC)) (em 8 nst se (sfs SK SA SB)) (opB op (dcb dA dt TG WH CK TW TP TX NM nd)))) [0, 1, 2, 3, 4, 5, 6, 7, 8, 9, 10, 11, 12, 13, 14, 15, 16, 17, 18, 19, 20, 21, 22, 23, 24, 25, 26, 27, 28, 29] 30 rfl rfl (by decide)).trans (cw_sp (t9_8 (List.Perm.refl _)))

set_option maxHeartbeats 4000000 in
set_option maxRecDepth 100000 in
theorem x8_setBound (l : Launch) (hlt : l.stackTraces = false) (D : va_G) (dA : Nat → ClassId) (E : Nat) (xa : Nat → Nat) (sh : Nat → Nat) (cs : Nat → Nat) (rp : Nat → Nat) (zq : Nat → Nat) (cm : Nat) (vs : Nat) (bd : Int32) (op : Bool) (mst : Int32) (nst : Nat) (cps : Nat) (ars : Nat) (fss : Nat → Option Nat) (se : Nat → Nat) (SK : Nat → Int32) (SA : Nat → Int32) (SB : Nat → Int32) (mdd : Int32) (nd : Nat) (capd : Nat) (ad0 : Nat) (fdd : Nat → Option Nat) (dt : Nat → Nat → Nat) (TG : Nat → Int32) (WH : Nat → Int32) (CK : Nat → Int32) (TW : Nat → Nat → Int32) (TP : Nat → Nat → Int32) (TX : Nat → Nat → Int32) (NM : Nat → Nat) (mvv : Int32) (nv : Nat) (capv : Nat) (av0 : Nat) (fvv : Nat → Option Nat) (ve : Nat → Nat → Nat) (VN : Nat → Int32) (VC : Nat → Nat) (VP : Nat → Nat → Int32) (mq : Int32) (nq : Nat) (capq : Nat) (aq0 : Nat) (fq : Nat → Option Nat) (eq : Nat → Nat) (QK : Nat → Int32) (QA : Nat → Int32) (QB : Nat → Int32) (QD : Nat → Int32) (WT : Nat → Nat) (QN : Nat → Int32) (tS : Nat → Int32) (tG : Nat → Int32) (nsg : Nat) (kS : Nat → Int32) (kG : Nat → Int32) (kd : Nat) (ksg : Nat) (rP : Nat → Int32) (aq : Int32) (fd : Int32) (pp : Nat → Int32) (t0 : Nat → Int32) (sc : Nat → Int32) (R0 : Nat → Int32) (h0 : Nat → Nat) (mm : Nat → Int32) (tn : Nat) (p0 : Int32) (sz : Nat) (hI : CI E tn (CS.mk xa sh cs rp zq cm vs bd op mst nst cps ars fss se SK SA SB mdd nd capd ad0 fdd dt TG WH CK TW TP TX NM mvv nv capv av0 fvv ve VN VC VP mq nq capq aq0 fq eq QK QA QB QD WT QN tS tG nsg kS kG kd ksg rP aq fd pp t0 sc R0 h0 mm)) (htn : tn ≤ 600) : vx_Met l yX8_setBound (wq (.code yX8_setBound cX8_setBound 3 (some .int))) { frames := 6, cells := 1, slots := 6, locals := 82 } (va_Pc [.ref (xa 0), .int p0] (PcB D dA E (HAppend.hAppend (α := va_W) (β := va_W) (γ := va_W) [] (CW dA (CS.mk xa sh cs rp zq cm vs bd op mst nst cps ars fss se SK SA SB mdd nd capd ad0 fdd dt TG WH CK TW TP TX NM mvv nv capv av0 fvv ve VN VC VP mq nq capq aq0 fq eq QK QA QB QD WT QN tS tG nsg kS kG kd ksg rP aq fd pp t0 sc R0 h0 mm))) sz)) (va_Qi (fun (r : Int32) (u : CS) => CI E (tn + 1) u ∧ u.xa = xa ∧ ((True) ∧ (True) ∧ ((u.vs = vs) ∧ (u.nv = nv) ∧ (u.VN = VN)))) (fun u t => va_P D vwCl (CW dA u) t.heap ∧ va_D (va_A (HAppend.hAppend (α := va_W) (β := va_W) (γ := va_W) [] (CW dA (CS.mk xa sh cs rp zq cm vs bd op mst nst cps ars fss se SK SA SB mdd nd capd ad0 fdd dt TG WH CK TW TP TX NM mvv nv capv av0 fvv ve VN VC VP mq nq capq aq0 fq eq QK QA QB QD WT QN tS tG nsg kS kG kd ksg rP aq fd pp t0 sc R0 h0 mm))) sz) (CW dA u)) (va_A (HAppend.hAppend (α := va_W) (β := va_W) (γ := va_W) [] (CW dA (CS.mk xa sh cs rp zq cm vs bd op mst nst cps ars fss se SK SA SB mdd nd capd ad0 fdd dt TG WH CK TW TP TX NM mvv nv capv av0 fvv ve VN VC VP mq nq capq aq0 fq eq QK QA QB QD WT QN tS tG nsg kS kG kd ksg rP aq fd pp t0 sc R0 h0 mm))) sz)) (vx_X (fun (k : Nat × CS) => CI E (tn + 1) k.2 ∧ k.2.xa = xa ∧ (k.1 = 1) ∧ ((True) ∧ ((k.2.vs = vs) ∧ (k.2.nv = nv) ∧ (k.2.VN = VN)))) (fun E9 k t => E9 = xN k.1 ∧ va_P D vwCl (CW dA k.2) t.heap ∧ va_D (va_A (HAppend.hAppend (α := va_W) (β := va_W) (γ := va_W) [] (CW dA (CS.mk xa sh cs rp zq cm vs bd op mst nst cps ars fss se SK SA SB mdd nd capd ad0 fdd dt TG WH CK TW TP TX NM mvv nv capv av0 fvv ve VN VC VP mq nq capq aq0 fq eq QK QA QB QD WT QN tS tG nsg kS kG kd ksg rP aq fd pp t0 sc R0 h0 mm))) sz) (CW dA k.2)) (va_A (HAppend.hAppend (α := va_W) (β := va_W) (γ := va_W) [] (CW dA (CS.mk xa sh cs rp zq cm vs bd op mst nst cps ars fss se SK SA SB mdd nd capd ad0 fdd dt TG WH CK TW TP TX NM mvv nv capv av0 fvv ve VN VC VP mq nq capq aq0 fq eq QK QA QB QD WT QN tS tG nsg kS kG kd ksg rP aq fd pp t0 sc R0 h0 mm))) sz)) 1 6 (va_A (HAppend.hAppend (α := va_W) (β := va_W) (γ := va_W) [] (CW dA (CS.mk xa sh cs rp zq cm vs bd op mst nst cps ars fss se SK SA SB mdd nd capd ad0 fdd dt TG WH CK TW TP TX NM mvv nv capv av0 fvv ve VN VC VP mq nq capq aq0 fq eq QK QA QB QD WT QN tS tG nsg kS kG kd ksg rP aq fd pp t0 sc R0 h0 mm))) sz) := by
  refine mx_of (y := yX8_setBound) (av := [.ref (xa 0), .int p0]) (maxL := 3) (Qc := fun A => va_Qi (fun (r : Int32) (u : CS) => CI E (tn + 1) u ∧ u.xa = xa ∧ ((True) ∧ (True) ∧ ((u.vs = vs) ∧ (u.nv = nv) ∧ (u.VN = VN)))) (fun u t => va_P D vwCl (CW dA u) t.heap ∧ va_D A (CW dA u)) A) (XC := fun A => vx_X (fun (k : Nat × CS) => CI E (tn + 1) k.2 ∧ k.2.xa = xa ∧ (k.1 = 1) ∧ ((True) ∧ ((k.2.vs = vs) ∧ (k.2.nv = nv) ∧ (k.2.VN = VN)))) (fun E9 k t => E9 = xN k.1 ∧ va_P D vwCl (CW dA k.2) t.heap ∧ va_D A (CW dA k.2)) A) RX8 rfl (by decide) (Nat.le_of_ble_eq_true rfl) ?_
  intro p e s m args below meth c hae hx hb hr hts hown hlocks hml hnm htb hP hK A hAe hD hZ hS hA ls hl
  replace hl : lv_has ls 3 [(0, .ref (xa 0)), (1, .int p0)] := hl
  have hI : (nst ≤ 6) ∧ (nst ≤ cps) ∧ (cps = 0 ∨ cps = 10) ∧ (cps = 0 → ars = E) ∧ (∀ i, i < nst → fss i = some (se i)) ∧ (∀ i, i < nst → okStep (SK i) (SA i) (SB i) = true) ∧ (nd ≤ 30) ∧ (nd ≤ capd) ∧ (capd = 0 ∨ capd = 10 ∨ capd = 15 ∨ capd = 22 ∨ capd = 33) ∧ (capd = 0 → ad0 = E) ∧ (∀ i, i < nd → fdd i = some (dt i 7)) ∧ (∀ i, i < nd → NM i ≤ 84) ∧ (op = true → nd < 30 ∧ NM nd ≤ 12 ∧ ∀ j, j < NM nd → TP nd j = nI j ∧ okW (TW nd j) = true) ∧ (nv ≤ 4) ∧ (nv ≤ capv) ∧ (capv = 0 ∨ capv = 10) ∧ (capv = 0 → av0 = E) ∧ (∀ i, i < nv → fvv i = some (ve i 0)) ∧ (∀ i, i < nv → VC i ≤ 30) ∧ (nq ≤ 40) ∧ (nq ≤ capq) ∧ (capq = 0 ∨ capq = 10 ∨ capq = 15 ∨ capq = 22 ∨ capq = 33 ∨ capq = 49) ∧ (capq = 0 → aq0 = E) ∧ (∀ i, i < nq → fq i = some (eq i)) ∧ (∀ i, i < nq → okJ (QK i) = true → ∃ x9 y9, QA i = nI x9 ∧ QB i = nI y9 ∧ x9 < i ∧ y9 < i) ∧ (∀ i, WT i ≤ 9) ∧ (AC tS) ∧ (AC kS) ∧ (kd ≤ nd) ∧ (nsg ≤ tn) ∧ (ksg ≤ tn) ∧ (cm ≤ tn) ∧ (vs ≤ tn) ∧ (∀ j, h0 j < 30) := hI
  obtain ⟨hs6, hsc, hscap, hsE, hfs, hsk, hnd9, hnd, hdcap, hdE, hfd, hNM, hop, hnv4, hnv, hvcap, hvE, hfv, hVC, hnq9, hnq, hqcap, hqE, hfq, hJ, hwt9, hAC, hAK, hkd, hnsg, hksg, hcm, hvs, hh0⟩ := hI
  have hcs9 := cap_s hscap
  have hcd9 := cap_d hdcap
  have hcv9 := cap_s hvcap
  have hcq9 := cap_q hqcap
  replace hP := perm_P (cwp_0 dA xa sh cs rp zq cm vs bd op mst nst cps ars fss se SK SA SB mdd nd capd ad0 fdd dt TG WH CK TW TP TX NM mvv nv capv av0 fvv ve VN VC VP mq nq capq aq0 fq eq QK QA QB QD WT QN tS tG nsg kS kG kd ksg rP aq fd pp t0 sc R0 h0 mm) hP
  replace hD := perm_D (cwp_0 dA xa sh cs rp zq cm vs bd op mst nst cps ars fss se SK SA SB mdd nd capd ad0 fdd dt TG WH CK TW TP TX NM mvv nv capv av0 fvv ve VN VC VP mq nq capq aq0 fq eq QK QA QB QD WT QN tS tG nsg kS kG kd ksg rP aq fd pp t0 sc R0 h0 mm) hD
  obtain ⟨R0x, hR0x⟩ : ∃ z9, z9 = (HAppend.hAppend (α := va_W) (β := va_W) (γ := va_W) [(xa 1, .inr (2, [.int mst, .ref ars, .int (nI nst)])), (xa 2, .inr (2, [.int mdd, .ref ad0, .int (nI nd)])), (xa 3, .inr (2, [.int mvv, .ref av0, .int (nI nv)])), (xa 4, .inr (2, [.int mq, .ref aq0, .int (nI nq)])), (sh 0, .inr (7, [.ref (sh 1), .ref (sh 3), .int (nI nd), .int (nI nsg)])), (sh 1, .inr (5, [.ref (sh 2)])), (sh 2, .inl (dA 0, 30, .inl tS)), (sh 3, .inr (5, [.ref (sh 4)])), (sh 4, .inl (dA 0, 30, .inl tG)), (cs 0, .inr (7, [.ref (cs 1), .ref (cs 3), .int (nI kd), .int (nI ksg)])), (cs 1, .inr (5, [.ref (cs 2)])), (cs 2, .inl (dA 0, 30, .inl kS)), (cs 3, .inr (5, [.ref (cs 4)])), (cs 4, .inl (dA 0, 30, .inl kG)), (rp 0, .inr (5, [.ref (rp 1)])), (rp 1, .inl (dA 0, 30, .inl rP)), (zq 0, .inr (6, [.ref (zq 1), .ref (zq 3), .ref (zq 5), .ref (zq 7), .ref (zq 9), .ref (zq 11), .int aq, .int fd])), (zq 1, .inr (5, [.ref (zq 2)])), (zq 2, .inl (dA 0, 40, .inl pp)), (zq 3, .inr (5, [.ref (zq 4)])), (zq 4, .inl (dA 0, 30, .inl t0)), (zq 5, .inr (5, [.ref (zq 6)])), (zq 6, .inl (dA 0, 1200, .inl sc)), (zq 7, .inr (5, [.ref (zq 8)])), (zq 8, .inl (dA 0, 30, .inl R0)), (zq 9, .inr (5, [.ref (zq 10)])), (zq 10, .inl (dA 0, 30, .inl (nF h0))), (zq 11, .inr (5, [.ref (zq 12)])), (zq 12, .inl (dA 0, 12, .inl mm))] (opB op (dcb dA dt TG WH CK TW TP TX NM nd))) := ⟨_, rfl⟩
  rw [← hR0x] at hP hD
  replace hP : va_P D vwCl (HAppend.hAppend (α := va_W) (β := va_W) (γ := va_W) [(xa 0, .inr (11, [.ref (xa 1), .ref (xa 2), .ref (xa 3), .ref (xa 4), .ref (sh 0), .ref (cs 0), .ref (rp 0), .ref (zq 0), (opV op (dt nd 7)), .int (nI cm), .int (nI vs), .int bd]))] (T9 (arw dA cps ars fss) (arw dA capd ad0 fdd) (arw dA capv av0 fvv) (arw dA capq aq0 fq) (fam nd (dcb dA dt TG WH CK TW TP TX NM)) (em 4 nq eq (qfs QK QA QB QD (nF WT) QN)) (fam nv (vcb dA ve VN VP VC)) (em 8 nst se (sfs SK SA SB)) R0x)) s.heap := hP
  replace hD : va_D A (HAppend.hAppend (α := va_W) (β := va_W) (γ := va_W) [(xa 0, .inr (11, [.ref (xa 1), .ref (xa 2), .ref (xa 3), .ref (xa 4), .ref (sh 0), .ref (cs 0), .ref (rp 0), .ref (zq 0), (opV op (dt nd 7)), .int (nI cm), .int (nI vs), .int bd]))] (T9 (arw dA cps ars fss) (arw dA capd ad0 fdd) (arw dA capv av0 fvv) (arw dA capq aq0 fq) (fam nd (dcb dA dt TG WH CK TW TP TX NM)) (em 4 nq eq (qfs QK QA QB QD (nF WT) QN)) (fam nv (vcb dA ve VN VP VC)) (em 8 nst se (sfs SK SA SB)) R0x)) := hD
  refine lv_iload_n hx hb dX8_setBound_0 rfl (lv_at hl 1 rfl) ?_
  refine lv_if_lt (tgt := 11) hx hb dX8_setBound_1 (by decide) (fun c1 => ?_) (fun c1 => ?_)
  · obtain ⟨sa, hstr2⟩ := (znS_26 hZ.1)
    rw [hR0x] at hP hD
    have hP9 : va_P D vwCl (CW dA (CS.mk xa sh cs rp zq cm vs bd op mst nst cps ars fss se SK SA SB mdd nd capd ad0 fdd dt TG WH CK TW TP TX NM mvv nv capv av0 fvv ve VN VC VP mq nq capq aq0 fq eq QK QA QB QD WT QN tS tG nsg kS kG kd ksg rP aq fd pp t0 sc R0 h0 mm)) s.heap := perm_P (cwp_0 dA xa sh cs rp zq cm vs bd op mst nst cps ars fss se SK SA SB mdd nd capd ad0 fdd dt TG WH CK TW TP TX NM mvv nv capv av0 fvv ve VN VC VP mq nq capq aq0 fq eq QK QA QB QD WT QN tS tG nsg kS kG kd ksg rP aq fd pp t0 sc R0 h0 mm).symm hP
    have hD9 : va_D A (CW dA (CS.mk xa sh cs rp zq cm vs bd op mst nst cps ars fss se SK SA SB mdd nd capd ad0 fdd dt TG WH CK TW TP TX NM mvv nv capv av0 fvv ve VN VC VP mq nq capq aq0 fq eq QK QA QB QD WT QN tS tG nsg kS kG kd ksg rP aq fd pp t0 sc R0 h0 mm)) := perm_D (cwp_0 dA xa sh cs rp zq cm vs bd op mst nst cps ars fss se SK SA SB mdd nd capd ad0 fdd dt TG WH CK TW TP TX NM mvv nv capv av0 fvv ve VN VC VP mq nq capq aq0 fq eq QK QA QB QD WT QN tS tG nsg kS kG kd ksg rP aq fd pp t0 sc R0 h0 mm).symm hD
    exact vx_throwSW (cls := "java/lang/IllegalArgumentException") (names := ["java/lang/RuntimeException", "java/lang/Exception"]) (own := RX8) hx hb hlt hown hFit_1 hFitN (hts _ q526) (hts _ q527) hstr2 (hat_RX8_61 hts hZ.1) hgd_RX8_61_57 hZ.2.1 hZ.2.2.1 hS (hl.1.trans hml.symm) dX8_setBound_11 dX8_setBound_14 dX8_setBound_15 dX8_setBound_18 dX8_setBound_21 (fun x h => (htb x h).elim) (Nat.le_of_ble_eq_true rfl) (Nat.le_of_ble_eq_true rfl) (Nat.le_of_ble_eq_true rfl) (Nat.le_of_ble_eq_true rfl) hlocks (fun t hal hz hk => ⟨(1, (CS.mk xa sh cs rp zq cm vs bd op mst nst cps ars fss se SK SA SB mdd nd capd ad0 fdd dt TG WH CK TW TP TX NM mvv nv capv av0 fvv ve VN VC VP mq nq capq aq0 fq eq QK QA QB QD WT QN tS tG nsg kS kG kd ksg rP aq fd pp t0 sc R0 h0 mm)), ⟨⟨hs6, hsc, hscap, hsE, hfs, hsk, hnd9, hnd, hdcap, hdE, hfd, hNM, hop, hnv4, hnv, hvcap, hvE, hfv, hVC, hnq9, hnq, hqcap, hqE, hfq, hJ, hwt9, hAC, hAK, hkd, (show nsg ≤ tn + 1 from by omega), (show ksg ≤ tn + 1 from by omega), (show cm ≤ tn + 1 from by omega), (show vs ≤ tn + 1 from by omega), hh0⟩, rfl, (rfl), ⟨trivial, ⟨rfl, rfl, rfl⟩⟩⟩, ⟨rfl, vP_kept hP9 hk, hD9⟩, sF_t hS hz hk⟩) hS.2.2 (Nat.le_of_ble_eq_true rfl) (Nat.le_of_ble_eq_true rfl)
  · refine lv_iload_n hx hb dX8_setBound_4 rfl (lv_at hl 1 rfl) ?_
    refine lv_sipush (v := 999) hx hb dX8_setBound_5 (by decide) ?_
    refine lv_icmp_le (tgt := 22) hx hb dX8_setBound_8 (by decide) (fun c3 => ?_) (fun c3 => ?_)
    · refine lv_aload_n hx hb dX8_setBound_22 rfl (lv_at hl 0 rfl) ?_
      refine va_get (D := D) (ci := 11) (v := .int bd) (C := RX8) (T := TX8) (N := 12) hx hb hts inAX8 hown hK hP 0 rfl rfl 11 (by decide) (hts _ q549) (fun _ h9 => h9) rfl dX8_setBound_23 ?_
      refine lv_istore_n (lv' := [(2, .int bd), (0, .ref (xa 0)), (1, .int p0)]) hx hb dX8_setBound_26 rfl hl (by decide) rfl (fun ls hl => ?_)
      refine lv_aload_n hx hb dX8_setBound_27 rfl (lv_at hl 1 rfl) ?_
      refine lv_iload_n hx hb dX8_setBound_28 rfl (lv_at hl 2 rfl) ?_
      refine va_put (D := D) (ci := 11) (v := .int p0) (ty := .int) (C := RX8) (T := TX8) (N := 12) hx hb hts inAX8 tyX8 tyX8_ok nmX8 hown hK hP hD hS 0 rfl rfl 11 (by decide) (hts _ q549) (fun _ h9 => h9) rfl (tyX8_ok 11 (by decide)) rfl rfl (Nat.le_of_ble_eq_true rfl) dX8_setBound_29 (fun H locs hP hD hS => ?_)
      replace hP : va_P D vwCl (HAppend.hAppend (α := va_W) (β := va_W) (γ := va_W) [(xa 0, .inr (11, [.ref (xa 1), .ref (xa 2), .ref (xa 3), .ref (xa 4), .ref (sh 0), .ref (cs 0), .ref (rp 0), .ref (zq 0), (opV op (dt nd 7)), .int (nI cm), .int (nI vs), .int p0]))] (T9 (arw dA cps ars fss) (arw dA capd ad0 fdd) (arw dA capv av0 fvv) (arw dA capq aq0 fq) (fam nd (dcb dA dt TG WH CK TW TP TX NM)) (em 4 nq eq (qfs QK QA QB QD (nF WT) QN)) (fam nv (vcb dA ve VN VP VC)) (em 8 nst se (sfs SK SA SB)) R0x)) H := hP
      replace hD : va_D A (HAppend.hAppend (α := va_W) (β := va_W) (γ := va_W) [(xa 0, .inr (11, [.ref (xa 1), .ref (xa 2), .ref (xa 3), .ref (xa 4), .ref (sh 0), .ref (cs 0), .ref (rp 0), .ref (zq 0), (opV op (dt nd 7)), .int (nI cm), .int (nI vs), .int p0]))] (T9 (arw dA cps ars fss) (arw dA capd ad0 fdd) (arw dA capv av0 fvv) (arw dA capq aq0 fq) (fam nd (dcb dA dt TG WH CK TW TP TX NM)) (em 4 nq eq (qfs QK QA QB QD (nF WT) QN)) (fam nv (vcb dA ve VN VP VC)) (em 8 nst se (sfs SK SA SB)) R0x)) := hD
      refine lv_iload_n hx hb dX8_setBound_32 rfl (lv_at hl 0 rfl) ?_
      refine W.widen (k := 1) (n := 6) (Nat.le_of_ble_eq_true rfl) (Nat.le_of_ble_eq_true rfl) ?_
      refine vx_ret ?_
      rw [hR0x] at hP hD
      have hP9 : va_P D vwCl (CW dA (CS.mk xa sh cs rp zq cm vs p0 op mst nst cps ars fss se SK SA SB mdd nd capd ad0 fdd dt TG WH CK TW TP TX NM mvv nv capv av0 fvv ve VN VC VP mq nq capq aq0 fq eq QK QA QB QD WT QN tS tG nsg kS kG kd ksg rP aq fd pp t0 sc R0 h0 mm)) H := perm_P (cwp_0 dA xa sh cs rp zq cm vs p0 op mst nst cps ars fss se SK SA SB mdd nd capd ad0 fdd dt TG WH CK TW TP TX NM mvv nv capv av0 fvv ve VN VC VP mq nq capq aq0 fq eq QK QA QB QD WT QN tS tG nsg kS kG kd ksg rP aq fd pp t0 sc R0 h0 mm).symm hP
      have hD9 : va_D A (CW dA (CS.mk xa sh cs rp zq cm vs p0 op mst nst cps ars fss se SK SA SB mdd nd capd ad0 fdd dt TG WH CK TW TP TX NM mvv nv capv av0 fvv ve VN VC VP mq nq capq aq0 fq eq QK QA QB QD WT QN tS tG nsg kS kG kd ksg rP aq fd pp t0 sc R0 h0 mm)) := perm_D (cwp_0 dA xa sh cs rp zq cm vs p0 op mst nst cps ars fss se SK SA SB mdd nd capd ad0 fdd dt TG WH CK TW TP TX NM mvv nv capv av0 fvv ve VN VC VP mq nq capq aq0 fq eq QK QA QB QD WT QN tS tG nsg kS kG kd ksg rP aq fd pp t0 sc R0 h0 mm).symm hD
      exact W.iret (v := bd) hx hb hr (fun t ht hW => ⟨⟨bd, (CS.mk xa sh cs rp zq cm vs p0 op mst nst cps ars fss se SK SA SB mdd nd capd ad0 fdd dt TG WH CK TW TP TX NM mvv nv capv av0 fvv ve VN VC VP mq nq capq aq0 fq eq QK QA QB QD WT QN tS tG nsg kS kG kd ksg rP aq fd pp t0 sc R0 h0 mm), rfl, ⟨⟨hs6, hsc, hscap, hsE, hfs, hsk, hnd9, hnd, hdcap, hdE, hfd, hNM, hop, hnv4, hnv, hvcap, hvE, hfv, hVC, hnq9, hnq, hqcap, hqE, hfq, hJ, hwt9, hAC, hAK, hkd, (show nsg ≤ tn + 1 from by omega), (show ksg ≤ tn + 1 from by omega), (show cm ≤ tn + 1 from by omega), (show vs ≤ tn + 1 from by omega), hh0⟩, rfl, ⟨trivial, trivial, ⟨rfl, rfl, rfl⟩⟩⟩, ⟨by rw [ht]; exact hP9, hD9⟩⟩, hS.F ht⟩) hS.2.2 dX8_setBound_33
    · obtain ⟨sa, hstr4⟩ := (znS_26 hZ.1)
      rw [hR0x] at hP hD
      have hP9 : va_P D vwCl (CW dA (CS.mk xa sh cs rp zq cm vs bd op mst nst cps ars fss se SK SA SB mdd nd capd ad0 fdd dt TG WH CK TW TP TX NM mvv nv capv av0 fvv ve VN VC VP mq nq capq aq0 fq eq QK QA QB QD WT QN tS tG nsg kS kG kd ksg rP aq fd pp t0 sc R0 h0 mm)) s.heap := perm_P (cwp_0 dA xa sh cs rp zq cm vs bd op mst nst cps ars fss se SK SA SB mdd nd capd ad0 fdd dt TG WH CK TW TP TX NM mvv nv capv av0 fvv ve VN VC VP mq nq capq aq0 fq eq QK QA QB QD WT QN tS tG nsg kS kG kd ksg rP aq fd pp t0 sc R0 h0 mm).symm hP
      have hD9 : va_D A (CW dA (CS.mk xa sh cs rp zq cm vs bd op mst nst cps ars fss se SK SA SB mdd nd capd ad0 fdd dt TG WH CK TW TP TX NM mvv nv capv av0 fvv ve VN VC VP mq nq capq aq0 fq eq QK QA QB QD WT QN tS tG nsg kS kG kd ksg rP aq fd pp t0 sc R0 h0 mm)) := perm_D (cwp_0 dA xa sh cs rp zq cm vs bd op mst nst cps ars fss se SK SA SB mdd nd capd ad0 fdd dt TG WH CK TW TP TX NM mvv nv capv av0 fvv ve VN VC VP mq nq capq aq0 fq eq QK QA QB QD WT QN tS tG nsg kS kG kd ksg rP aq fd pp t0 sc R0 h0 mm).symm hD
      exact vx_throwSW (cls := "java/lang/IllegalArgumentException") (names := ["java/lang/RuntimeException", "java/lang/Exception"]) (own := RX8) hx hb hlt hown hFit_1 hFitN (hts _ q526) (hts _ q527) hstr4 (hat_RX8_61 hts hZ.1) hgd_RX8_61_57 hZ.2.1 hZ.2.2.1 hS (hl.1.trans hml.symm) dX8_setBound_11 dX8_setBound_14 dX8_setBound_15 dX8_setBound_18 dX8_setBound_21 (fun x h => (htb x h).elim) (Nat.le_of_ble_eq_true rfl) (Nat.le_of_ble_eq_true rfl) (Nat.le_of_ble_eq_true rfl) (Nat.le_of_ble_eq_true rfl) hlocks (fun t hal hz hk => ⟨(1, (CS.mk xa sh cs rp zq cm vs bd op mst nst cps ars fss se SK SA SB mdd nd capd ad0 fdd dt TG WH CK TW TP TX NM mvv nv capv av0 fvv ve VN VC VP mq nq capq aq0 fq eq QK QA QB QD WT QN tS tG nsg kS kG kd ksg rP aq fd pp t0 sc R0 h0 mm)), ⟨⟨hs6, hsc, hscap, hsE, hfs, hsk, hnd9, hnd, hdcap, hdE, hfd, hNM, hop, hnv4, hnv, hvcap, hvE, hfv, hVC, hnq9, hnq, hqcap, hqE, hfq, hJ, hwt9, hAC, hAK, hkd, (show nsg ≤ tn + 1 from by omega), (show ksg ≤ tn + 1 from by omega), (show cm ≤ tn + 1 from by omega), (show vs ≤ tn + 1 from by omega), hh0⟩, rfl, (rfl), ⟨trivial, ⟨rfl, rfl, rfl⟩⟩⟩, ⟨rfl, vP_kept hP9 hk, hD9⟩, sF_t hS hz hk⟩) hS.2.2 (Nat.le_of_ble_eq_true rfl) (Nat.le_of_ble_eq_true rfl)
