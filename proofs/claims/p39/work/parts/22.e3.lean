/-! CONTRACTS -/
theorem q594 : (.classLink RX8 223 RX1 : Cond) ∈ WA := WA_of (tb_2 26 rfl) rfl
theorem q595 : (.instantiable RX1 6 : Cond) ∈ WA := WA_of (tb_2 27 rfl) rfl
theorem q597 : (.methodLink RX8 234 yX1_init : Cond) ∈ WA := WA_of (tb_2 28 rfl) rfl
theorem q598 : (.instanceMethod yX1_init : Cond) ∈ WA := WA_of (tb_2 29 rfl) rfl
theorem q592 : (.methodLink RX8 222 yX1_canAsk : Cond) ∈ WA := WA_of (tb_1 169 rfl) rfl
theorem q593 : (.static yX1_canAsk : Cond) ∈ WA := WA_of (tb_1 170 rfl) rfl
theorem q591 : (.code yX1_canAsk cX1_canAsk 5 (some .boolean) : Cond) ∈ WA := WA_of (tb_1 171 rfl) rfl
theorem q596 : (.code yX1_init cX1_init 7 none : Cond) ∈ WA := WA_of (tb_2 30 rfl) rfl
theorem q601 : (.methodLink RX8 76 yJx4a65c_add_9ea2d : Cond) ∈ WA := WA_of (tb_2 53 rfl) rfl
theorem q602 : (.instanceMethod yJx4a65c_add_9ea2d : Cond) ∈ WA := WA_of (tb_2 54 rfl) rfl
theorem q599 : (.selects RJx4a65c yJx4a65c_add_9ea2d yJx4a65c_add_9ea2d : Cond) ∈ WA := WA_of (tb_2 55 rfl) rfl
theorem q600 : (.code yJx4a65c_add_9ea2d cJx4a65c_add_9ea2d 2 (some .boolean) : Cond) ∈ WA := WA_of (tb_2 56 rfl) rfl
theorem q603 : (.instantiable RX7 3 : Cond) ∈ WA := WA_of (tb_4 218 rfl) rfl
theorem q604 : (.fieldLink RX8 203 "TallowIndex" "viewsOpened" "I" : Cond) ∈ WA := WA_of (tb_1 138 rfl) rfl
theorem q606 : (.methodLink RX8 206 yX7_init : Cond) ∈ WA := WA_of (tb_4 219 rfl) rfl
theorem q607 : (.instanceMethod yX7_init : Cond) ∈ WA := WA_of (tb_4 220 rfl) rfl
theorem q605 : (.code yX7_init cX7_init 4 none : Cond) ∈ WA := WA_of (tb_4 221 rfl) rfl
theorem q610 : (.methodLink RX8 214 yJx4a65c_remove_915e3 : Cond) ∈ WA := WA_of (tb_4 182 rfl) rfl
theorem q611 : (.instanceMethod yJx4a65c_remove_915e3 : Cond) ∈ WA := WA_of (tb_4 183 rfl) rfl
theorem q608 : (.selects RJx4a65c yJx4a65c_remove_915e3 yJx4a65c_remove_915e3 : Cond) ∈ WA := WA_of (tb_4 184 rfl) rfl
theorem q609 : (.code yJx4a65c_remove_915e3 cJx4a65c_remove_915e3 4 (some (.object "java/lang/Object")) : Cond) ∈ WA := WA_of (tb_4 185 rfl) rfl
theorem q615 : (.fieldLink RX8 89 "TallowIndex" "opened" "LTallowIndex$Document;" : Cond) ∈ WA := WA_of (tb_1 136 rfl) rfl
theorem q535 : (.classLink RX8 97 RX0 : Cond) ∈ WA := WA_of (tb_3 214 rfl) rfl
theorem q616 : (.instantiable RX0 4 : Cond) ∈ WA := WA_of (tb_3 215 rfl) rfl
theorem q617 : (.initialized RX0 : Cond) ∈ WA := WA_of (tb_1 20 rfl) rfl
theorem q619 : (.methodLink RX8 99 yX0_init : Cond) ∈ WA := WA_of (tb_3 216 rfl) rfl
theorem q620 : (.instanceMethod yX0_init : Cond) ∈ WA := WA_of (tb_3 217 rfl) rfl
theorem q613 : (.methodLink RX8 83 yX8_checkTag : Cond) ∈ WA := WA_of (tb_3 208 rfl) rfl
theorem q614 : (.static yX8_checkTag : Cond) ∈ WA := WA_of (tb_3 209 rfl) rfl
theorem q612 : (.code yX8_checkTag cX8_checkTag 1 none : Cond) ∈ WA := WA_of (tb_3 210 rfl) rfl
theorem q618 : (.code yX0_init cX0_init 3 none : Cond) ∈ WA := WA_of (tb_3 218 rfl) rfl
theorem q621 : (.methodLink RX8 102 yX8_isWord : Cond) ∈ WA := WA_of (tb_4 25 rfl) rfl
theorem q622 : (.methodLink RX8 122 yX6_append : Cond) ∈ WA := WA_of (tb_4 29 rfl) rfl
theorem q625 : (.methodLink RX8 80 yJx4a65c_clear_da8c8 : Cond) ∈ WA := WA_of (tb_4 162 rfl) rfl
theorem q626 : (.instanceMethod yJx4a65c_clear_da8c8 : Cond) ∈ WA := WA_of (tb_4 163 rfl) rfl
theorem q623 : (.selects RJx4a65c yJx4a65c_clear_da8c8 yJx4a65c_clear_da8c8 : Cond) ∈ WA := WA_of (tb_4 164 rfl) rfl
theorem q624 : (.code yJx4a65c_clear_da8c8 cJx4a65c_clear_da8c8 4 none : Cond) ∈ WA := WA_of (tb_4 165 rfl) rfl
theorem q629 : (.methodLink RX8 187 yX4_goBackTo : Cond) ∈ WA := WA_of (tb_4 166 rfl) rfl
theorem q630 : (.instanceMethod yX4_goBackTo : Cond) ∈ WA := WA_of (tb_4 167 rfl) rfl
theorem q627 : (.selects RX4 yX4_goBackTo yX4_goBackTo : Cond) ∈ WA := WA_of (tb_4 168 rfl) rfl
theorem q628 : (.code yX4_goBackTo cX4_goBackTo 6 (some .int) : Cond) ∈ WA := WA_of (tb_4 169 rfl) rfl
theorem znS_16 {U : State} (h : ZS U) : ∃ a, vk_R "TallowIndex" 230 "no such weight" a U := h.2.2.2.2.1 ("TallowIndex", 230, "no such weight") (List.mem_of_getElem? (i := 1) rfl)
theorem znS_17 {U : State} (h : ZS U) : ∃ a, vk_R "TallowIndex" 232 "all queries are numbered" a U := h.2.2.2.2.1 ("TallowIndex", 232, "all queries are numbered") (List.mem_of_getElem? (i := 2) rfl)
theorem znS_15 {U : State} (h : ZS U) : ∃ a, vk_R "TallowIndex" 228 "no such kind, word or distance" a U := h.2.2.2.2.1 ("TallowIndex", 228, "no such kind, word or distance") (List.mem_of_getElem? (i := 0) rfl)
theorem znS_13 {U : State} (h : ZS U) : ∃ a, vk_R "TallowIndex" 199 "all views are open" a U := h.2.2.2.2.1 ("TallowIndex", 199, "all views are open") (List.mem_of_getElem? (i := 18) rfl)
theorem znS_5 {U : State} (h : ZS U) : ∃ a, vk_R "TallowIndex" 95 "all documents are numbered" a U := h.2.2.2.2.1 ("TallowIndex", 95, "all documents are numbered") (List.mem_of_getElem? (i := 11) rfl)
theorem znS_4 {U : State} (h : ZS U) : ∃ a, vk_R "TallowIndex" 93 "a text is open" a U := h.2.2.2.2.1 ("TallowIndex", 93, "a text is open") (List.mem_of_getElem? (i := 10) rfl)
theorem znS_7 {U : State} (h : ZS U) : ∃ a, vk_R "TallowIndex" 108 "no text is open" a U := h.2.2.2.2.1 ("TallowIndex", 108, "no text is open") (List.mem_of_getElem? (i := 13) rfl)
theorem znF_10 {U : State} (h : ZS U) : va_Nw (.fieldLinkNest "TallowIndex" 110 "TallowIndex$Document" "text" "LTallowIndex$Text;" "TallowIndex") U := h.2.2.1 ("TallowIndex", 110, "TallowIndex$Document", "text", "LTallowIndex$Text;", "TallowIndex") (List.mem_of_getElem? (i := 20) rfl)
theorem znF_5 {U : State} (h : ZS U) : va_Nw (.fieldLinkNest "TallowIndex" 114 "TallowIndex$Text" "count" "I" "TallowIndex") U := h.2.2.1 ("TallowIndex", 114, "TallowIndex$Text", "count", "I", "TallowIndex") (List.mem_of_getElem? (i := 17) rfl)
theorem znS_8 {U : State} (h : ZS U) : ∃ a, vk_R "TallowIndex" 120 "the text is full" a U := h.2.2.2.2.1 ("TallowIndex", 120, "the text is full") (List.mem_of_getElem? (i := 14) rfl)
theorem znS_6 {U : State} (h : ZS U) : ∃ a, vk_R "TallowIndex" 106 "no such word" a U := h.2.2.2.2.1 ("TallowIndex", 106, "no such word") (List.mem_of_getElem? (i := 12) rfl)
theorem nil_pm {A : va_W} : A.Perm (A ++ []) := by rw [List.append_nil]
theorem sub_P {D : va_G} {cl : List vw_C} {ws ws' : va_W} {H : Heap} (h : ws'.Sublist ws) (hP : va_P D cl ws H) : va_P D cl ws' H := fun k q hk => by
  obtain ⟨i, hi⟩ := List.getElem?_of_mem (h.subset (List.mem_of_getElem? hk))
  exact hP i q hi
theorem sub_D {A : Nat → Prop} {ws ws' : va_W} (h : ws'.Sublist ws) (hD : va_D A ws) : va_D A ws' := of_nd (List.Pairwise.sublist (List.Sublist.map (fun q => q.1) h) (nd_of hD)) (fun q hq => by
  obtain ⟨i, hi⟩ := List.getElem?_of_mem (h.subset hq)
  exact hD.2 i q hi)
theorem drp_P {D : va_G} {cl : List vw_C} {X T B T' : va_W} {H : Heap} (hp : T.Perm (B ++ T')) (hP : va_P D cl (X ++ T) H) : va_P D cl (X ++ T') H := sub_P (List.Sublist.append_left (List.sublist_append_right B T') X) (perm_P (List.Perm.append_left X hp) hP)
theorem drp_D {A : Nat → Prop} {X T B T' : va_W} (hp : T.Perm (B ++ T')) (hD : va_D A (X ++ T)) : va_D A (X ++ T') := sub_D (List.Sublist.append_left (List.sublist_append_right B T') X) (perm_D (List.Perm.append_left X hp) hD)
theorem em_add {ci n x : Nat} {v : List Value} {ea ea' : Nat → Nat} {fs fs' : Nat → List Value} (h1 : ∀ j, j < n → ea' j = ea j) (h2 : ∀ j, j < n → fs' j = fs j) (ha : ea' n = x) (hv : fs' n = v) : (em ci (n + 1) ea' fs').Perm ([(x, .inr (ci, v))] ++ em ci n ea fs) := by
  have e : em ci (n + 1) ea' fs' = em ci n ea fs ++ [(x, .inr (ci, v))] := by
    unfold em
    rw [List.range_succ, List.map_append, List.map_cons, List.map_nil, ha, hv]
    congr 1
    apply List.map_congr_left
    intro j hj
    have := List.mem_range.mp hj
    rw [h1 j this, h2 j this]
  rw [e]
  exact List.perm_append_comm
theorem fam_add {n : Nat} {b b' : Nat → va_W} {B : va_W} (h1 : ∀ j, j < n → b' j = b j) (hB : b' n = B) : (fam (n + 1) b').Perm (B ++ fam n b) := by
  rw [fam_succ, hB, fam_cong h1]
  exact List.perm_append_comm
theorem add_fd {f : Nat → Option Nat} {g : Nat → Nat} {n x : Nat} (hf : ∀ i, i < n → f i = some (g i)) (hx : g n = x) : ∀ i, i < n + 1 → va_up f n (some x) i = some (g i) := fun i hi => by
  by_cases e : i = n
  · subst e; rw [va_up_self, hx]
  · rw [va_up_ne _ _ e]; exact hf i (by omega)
theorem add_f {f : Nat → Option Nat} {ea : Nat → Nat} {n x : Nat} (hf : ∀ i, i < n → f i = some (ea i)) : ∀ i, i < n + 1 → va_up f n (some x) i = some (va_up ea n x i) := add_fd (fun i hi => by rw [va_up_ne _ _ (by omega)]; exact hf i hi) (va_up_self _ _ _)
theorem cpy_f {f g : Nat → Option Nat} {ea : Nat → Nat} {n : Nat} (hf : ∀ i, i < n → f i = some (ea i)) : ∀ i, i < n → va_cpy f g 0 0 n i = some (ea i) := fun i hi => by
  rw [pk_cpy_in (by omega) (by omega), show 0 + (i - 0) = i by omega]
  exact hf i hi
theorem no_f {f : Nat → Option Nat} {ea : Nat → Nat} : ∀ i, i < 0 → f i = some (ea i) := fun i h => absurd h (Nat.not_lt_zero i)
theorem mem_pm {T B R : va_W} {x : Nat × va_E} (h : T.Perm (B ++ R)) (hx : x ∈ B) : x ∈ T := h.mem_iff.mpr (List.mem_append_left R hx)
def rmI (k i : Nat) : Nat := if i < k then i else i + 1
theorem fam_rm {n k : Nat} {b : Nat → va_W} (h : k < n + 1) : (fam (n + 1) b).Perm (b k ++ fam n (fun i => b (rmI k i))) := by
  refine (fam_pm h).trans (List.Perm.append_left _ ?_)
  have e : fam n (fun i => b (rmI k i)) = ((List.range n).map (rmI k)).flatMap b := by
    unfold fam
    rw [List.flatMap_map]
  rw [e]
  unfold famx
  refine List.Perm.flatMap_right b ((List.perm_ext_iff_of_nodup (List.nodup_range.erase k) ?_).mpr ?_)
  · unfold List.Nodup
    rw [List.pairwise_map]
    refine List.Pairwise.imp ?_ (List.nodup_range (n := n))
    intro a c hac e2
    apply hac
    unfold rmI at e2
    split at e2 <;> split at e2 <;> omega
  · intro a
    rw [(List.nodup_range (n := n + 1)).mem_erase_iff, List.mem_map, List.mem_range]
    constructor
    · intro ⟨h1, h2⟩
      by_cases h3 : a < k
      · exact ⟨a, List.mem_range.mpr (by omega), by unfold rmI; rw [if_pos h3]⟩
      · exact ⟨a - 1, List.mem_range.mpr (by omega), by unfold rmI; rw [if_neg (by omega)]; omega⟩
    · rintro ⟨i, hi, rfl⟩
      have := List.mem_range.mp hi
      unfold rmI
      split <;> omega
def tri (a b c : Nat) : Nat → Nat
  | 0 => a
  | 1 => b
  | _ => c
def dmk (u : Nat → Nat) (x k : Nat) : Nat := if k = 7 then x else u k
theorem w9_of {x : Int32} (h1 : ¬ x < 1) (h9 : x ≤ 9) : ∃ j : Nat, j ≤ 9 ∧ x = nI j := by
  have e1 : x < 1 ↔ x.toInt < (1 : Int) := Int32.lt_iff_toInt_lt
  have e0 : x < 0 ↔ x.toInt < (0 : Int) := Int32.lt_iff_toInt_lt
  exact nI_of2 (M := 9) (by decide) (by have := mt e1.mpr h1; exact mt e0.mp (by omega)) h9
theorem can_j {k a b d : Int32} (h : okCan k a b d = true) : okJ k = false := by
  unfold okCan at h
  by_cases h1 : k = 119
  · subst h1; decide
  · by_cases h2 : k = 112
    · subst h2; decide
    · by_cases h3 : k = 110
      · subst h3; decide
      · simp [h1, h2, h3] at h
theorem up_le9 {f : Nat → Nat} {n x : Nat} (h : ∀ i, f i ≤ 9) (hx : x ≤ 9) (i : Nat) : va_up f n x i ≤ 9 := by
  unfold va_up
  split
  · exact hx
  · exact h i
theorem ap_hop {w p : Nat → Int32} {n : Nat} {x : Int32} (h : ∀ j, j < n → p j = nI j ∧ okW (w j) = true) (hx : okW x = true) : ∀ j, j < n + 1 → upd p n (nI n) j = nI j ∧ okW (upd w n x j) = true := by
  intro j hj
  unfold upd
  by_cases e : j = n
  · rw [if_pos e, if_pos e, e]; exact ⟨rfl, hx⟩
  · rw [if_neg e, if_neg e]; exact h j (by omega)
theorem up_all {P : Nat → Prop} {n : Nat} (h : ∀ i, i < n → P i) (hn : P n) : ∀ i, i < n + 1 → P i := all_succ h hn
set_option maxRecDepth 100000 in
theorem cwp_6 (dA : Nat → ClassId) (xa : Nat → Nat) (sh : Nat → Nat) (cs : Nat → Nat) (rp : Nat → Nat) (zq : Nat → Nat) (cm : Nat) (vs : Nat) (bd : Int32) (op : Bool) (mst : Int32) (nst : Nat) (cps : Nat) (ars : Nat) (fss : Nat → Option Nat) (se : Nat → Nat) (SK : Nat → Int32) (SA : Nat → Int32) (SB : Nat → Int32) (mdd : Int32) (nd : Nat) (capd : Nat) (ad0 : Nat) (fdd : Nat → Option Nat) (dt : Nat → Nat → Nat) (TG : Nat → Int32) (WH : Nat → Int32) (CK : Nat → Int32) (TW : Nat → Nat → Int32) (TP : Nat → Nat → Int32) (TX : Nat → Nat → Int32) (NM : Nat → Nat) (mvv : Int32) (nv : Nat) (capv : Nat) (av0 : Nat) (fvv : Nat → Option Nat) (ve : Nat → Nat → Nat) (VN : Nat → Int32) (VC : Nat → Nat) (VP : Nat → Nat → Int32) (mq : Int32) (nq : Nat) (capq : Nat) (aq0 : Nat) (fq : Nat → Option Nat) (eq : Nat → Nat) (QK : Nat → Int32) (QA : Nat → Int32) (QB : Nat → Int32) (QD : Nat → Int32) (WT : Nat → Nat) (QN : Nat → Int32) (tS : Nat → Int32) (tG : Nat → Int32) (nsg : Nat) (kS : Nat → Int32) (kG : Nat → Int32) (kd : Nat) (ksg : Nat) (rP : Nat → Int32) (aq : Int32) (fd : Int32) (pp : Nat → Int32) (t0 : Nat → Int32) (sc : Nat → Int32) (R0 : Nat → Int32) (h0 : Nat → Nat) (mm : Nat → Int32) : (CW dA (CS.mk xa sh cs rp zq cm vs bd op mst nst cps ars fss se SK SA SB mdd nd capd ad0 fdd dt TG WH CK TW TP TX NM mvv nv capv av0 fvv ve VN VC VP mq nq capq aq0 fq eq QK QA QB QD WT QN tS tG nsg kS kG kd ksg rP aq fd pp t0 sc R0 h0 mm)).Perm (HAppend.hAppend (α := va_W) (β := va_W) (γ := va_W) [(xa 0, .inr (11, [.ref (xa 1), .ref (xa 2), .ref (xa 3), .ref (xa 4), .ref (sh 0), .ref (cs 0), .ref (rp 0), .ref (zq 0), (opV op (dt nd 7)), .int (nI cm), .int (nI vs), .int bd])), (xa 4, .inr (2, [.int mq, .ref aq0, .int (nI nq)]))] (T9 (arw dA cps ars fss) (arw dA capd ad0 fdd) (arw dA capv av0 fvv) (arw dA capq aq0 fq) (fam nd (dcb dA dt TG WH CK TW TP TX NM)) (em 4 nq eq (qfs QK QA QB QD (nF WT) QN)) (fam nv (vcb dA ve VN VP VC)) (em 8 nst se (sfs SK SA SB)) (HAppend.hAppend (α := va_W) (β := va_W) (γ := va_W) [(xa 1, .inr (2, [.int mst, .ref ars, .int (nI nst)])), (xa 2, .inr (2, [.int mdd, .ref ad0, .int (nI nd)])), (xa 3, .inr (2, [.int mvv, .ref av0, .int (nI nv)])), (sh 0, .inr (7, [.ref (sh 1), .ref (sh 3), .int (nI nd), .int (nI nsg)])), (sh 1, .inr (5, [.ref (sh 2)])), (sh 2, .inl (dA 0, 30, .inl tS)), (sh 3, .inr (5, [.ref (sh 4)])), (sh 4, .inl (dA 0, 30, .inl tG)), (cs 0, .inr (7, [.ref (cs 1), .ref (cs 3), .int (nI kd), .int (nI ksg)])), (cs 1, .inr (5, [.ref (cs 2)])), (cs 2, .inl (dA 0, 30, .inl kS)), (cs 3, .inr (5, [.ref (cs 4)])), (cs 4, .inl (dA 0, 30, .inl kG)), (rp 0, .inr (5, [.ref (rp 1)])), (rp 1, .inl (dA 0, 30, .inl rP)), (zq 0, .inr (6, [.ref (zq 1), .ref (zq 3), .ref (zq 5), .ref (zq 7), .ref (zq 9), .ref (zq 11), .int aq, .int fd])), (zq 1, .inr (5, [.ref (zq 2)])), (zq 2, .inl (dA 0, 40, .inl pp)), (zq 3, .inr (5, [.ref (zq 4)])), (zq 4, .inl (dA 0, 30, .inl t0)), (zq 5, .inr (5, [.ref (zq 6)])), (zq 6, .inl (dA 0, 1200, .inl sc)), (zq 7, .inr (5, [.ref (zq 8)])), (zq 8, .inl (dA 0, 30, .inl R0)), (zq 9, .inr (5, [.ref (zq 10)])), (zq 10, .inl (dA 0, 30, .inl (nF h0))), (zq 11, .inr (5, [.ref (zq 12)])), (zq 12, .inl (dA 0, 12, .inl mm))] (opB op (dcb dA dt TG WH CK TW TP TX NM nd))))) := (lst_pm (X := [(xa 0, .inr (11, [.ref (xa 1), .ref (xa 2), .ref (xa 3), .ref (xa 4), .ref (sh 0), .ref (cs 0), .ref (rp 0), .ref (zq 0), (opV op (dt nd 7)), .int (nI cm), .int (nI vs), .int bd])), (xa 1, .inr (2, [.int mst, .ref ars, .int (nI nst)])), (xa 2, .inr (2, [.int mdd, .ref ad0, .int (nI nd)])), (xa 3, .inr (2, [.int mvv, .ref av0, .int (nI nv)])), (xa 4, .inr (2, [.int mq, .ref aq0, .int (nI nq)])), (sh 0, .inr (7, [.ref (sh 1), .ref (sh 3), .int (nI nd), .int (nI nsg)])), (sh 1, .inr (5, [.ref (sh 2)])), (sh 2, .inl (dA 0, 30, .inl tS)), (sh 3, .inr (5, [.ref (sh 4)])), (sh 4, .inl (dA 0, 30, .inl tG)), (cs 0, .inr (7, [.ref (cs 1), .ref (cs 3), .int (nI kd), .int (nI ksg)])), (cs 1, .inr (5, [.ref (cs 2)])), (cs 2, .inl (dA 0, 30, .inl kS)), (cs 3, .inr (5, [.ref (cs 4)])), (cs 4, .inl (dA 0, 30, .inl kG)), (rp 0, .inr (5, [.ref (rp 1)])), (rp 1, .inl (dA 0, 30, .inl rP)), (zq 0, .inr (6, [.ref (zq 1), .ref (zq 3), .ref (zq 5), .ref (zq 7), .ref (zq 9), .ref (zq 11), .int aq, .int fd])), (zq 1, .inr (5, [.ref (zq 2)])), (zq 2, .inl (dA 0, 40, .inl pp)), (zq 3, .inr (5, [.ref (zq 4)])), (zq 4, .inl (dA 0, 30, .inl t0)), (zq 5, .inr (5, [.ref (zq 6)])), (zq 6, .inl (dA 0, 1200, .inl sc)), (zq 7, .inr (5, [.ref (zq 8)])), (zq 8, .inl (dA 0, 30, .inl R0)), (zq 9, .inr (5, [.ref (zq 10)])), (zq 10, .inl (dA 0, 30, .inl (nF h0))), (zq 11, .inr (5, [.ref (zq 12)])), (zq 12, .inl (dA 0, 12, .inl mm))]) (cx := [(xa 0, .inr (11, [.ref (xa 1), .ref (xa 2), .ref (xa 3), .ref (xa 4), .ref (sh 0), .ref (cs 0), .ref (rp 0), .ref (zq 0), (opV op (dt nd 7)), .int (nI cm), .int (nI vs), .int bd])), (xa 4, .inr (2, [.int mq, .ref aq0, .int (nI nq)]))] ++ [(xa 1, .inr (2, [.int mst, .ref ars, .int (nI nst)])), (xa 2, .inr (2, [.int mdd, .ref ad0, .int (nI nd)])), (xa 3, .inr (2, [.int mvv, .ref av0, .int (nI nv)])), (sh 0, .inr (7, [.ref (sh 1), .ref (sh 3), .int (nI nd), .int (nI nsg)])), (sh 1, .inr (5, [.ref (sh 2)])), (sh 2, .inl (dA 0, 30, .inl tS)), (sh 3, .inr (5, [.ref (sh 4)])), (sh 4, .inl (dA 0, 30, .inl tG)), (cs 0, .inr (7, [.ref (cs 1), .ref (cs 3), .int (nI kd), .int (nI ksg)])), (cs 1, .inr (5, [.ref (cs 2)])), (cs 2, .inl (dA 0, 30, .inl kS)), (cs 3, .inr (5, [.ref (cs 4)])), (cs 4, .inl (dA 0, 30, .inl kG)), (rp 0, .inr (5, [.ref (rp 1)])), (rp 1, .inl (dA 0, 30, .inl rP)), (zq 0, .inr (6, [.ref (zq 1), .ref (zq 3), .ref (zq 5), .ref (zq 7), .ref (zq 9), .ref (zq 11), .int aq, .int fd])), (zq 1, .inr (5, [.ref (zq 2)])), (zq 2, .inl (dA 0, 40, .inl pp)), (zq 3, .inr (5, [.ref (zq 4)])), (zq 4, .inl (dA 0, 30, .inl t0)), (zq 5, .inr (5, [.ref (zq 6)])), (zq 6, .inl (dA 0, 1200, .inl sc)), (zq 7, .inr (5, [.ref (zq 8)])), (zq 8, .inl (dA 0, 30, .inl R0)), (zq 9, .inr (5, [.ref (zq 10)])), (zq 10, .inl (dA 0, 30, .inl (nF h0))), (zq 11, .inr (5, [.ref (zq 12)])), (zq 12, .inl (dA 0, 12, .inl mm))]) (T := (T9 (arw dA cps ars fss) (arw dA capd ad0 fdd) (arw dA capv av0 fvv) (arw dA capq aq0 fq) (fam nd (dcb dA dt TG WH CK TW TP TX NM)) (em 4 nq eq (qfs QK QA QB QD (nF WT) QN)) (fam nv (vcb dA ve VN VP VC)) (em 8 nst se (sfs SK SA SB)) (opB op (dcb dA dt TG WH CK TW TP TX NM nd)))) [0, 4, 1, 2, 3, 5, 6, 7, 8, 9, 10, 11, 12, 13, 14, 15, 16, 17, 18, 19, 20, 21, 22, 23, 24, 25, 26, 27, 28, 29] 30 rfl rfl (by decide)).trans (cw_sp (t9_8 (List.Perm.refl _)))
