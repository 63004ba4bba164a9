/-! CONTRACTS, general -/
theorem q541 : (.selects RX8 yX8_viewNumbered yX8_viewNumbered : Cond) ∈ WA := WA_of (sb_1 11 rfl) rfl
theorem q542 : (.code yX8_viewNumbered cX8_viewNumbered 3 (some (.object "TallowIndex$View")) : Cond) ∈ WA := WA_of (tb_4 30 rfl) rfl
theorem q543 : (.methodLink RX8 217 yX8_viewNumbered : Cond) ∈ WA := WA_of (tb_4 27 rfl) rfl
theorem q544 : (.instanceMethod yX8_viewNumbered : Cond) ∈ WA := WA_of (tb_4 29 rfl) rfl
theorem q545 : (.selects RX8 yX8_checkQuery yX8_checkQuery : Cond) ∈ WA := WA_of (sb_1 12 rfl) rfl
theorem q546 : (.code yX8_checkQuery cX8_checkQuery 2 none : Cond) ∈ WA := WA_of (tb_4 87 rfl) rfl
theorem q547 : (.methodLink RX8 243 yX8_checkQuery : Cond) ∈ WA := WA_of (tb_4 84 rfl) rfl
theorem q548 : (.instanceMethod yX8_checkQuery : Cond) ∈ WA := WA_of (tb_4 86 rfl) rfl
theorem q549 : (.fieldLink RX8 297 "TallowIndex" "bound" "I" : Cond) ∈ WA := WA_of (tb_1 142 rfl) rfl
theorem q550 : (.selects RX3 yX3_run yX3_run : Cond) ∈ WA := WA_of (tb_4 103 rfl) rfl
theorem q551 : (.code yX3_run cX3_run 7 none : Cond) ∈ WA := WA_of (tb_4 104 rfl) rfl
theorem q552 : (.methodLink RX8 322 yX3_run : Cond) ∈ WA := WA_of (tb_4 101 rfl) rfl
theorem q553 : (.instanceMethod yX3_run : Cond) ∈ WA := WA_of (tb_4 102 rfl) rfl
theorem q554 : (.classLink RX8 273 "java/util/NoSuchElementException" : Cond) ∈ WA := WA_of (tb_4 192 rfl) rfl
theorem q555 : (.initialized "java/util/NoSuchElementException" : Cond) ∈ WA := WA_of (tb_1 28 rfl) rfl
theorem q556 : (.methodLink RX8 264 yX3_scoreOf : Cond) ∈ WA := WA_of (tb_4 219 rfl) rfl
theorem znS_21 {U : State} (h : ZS U) : ∃ a, vk_R "TallowIndex" 326 "no such hit" a U := h.2.2.2.2.1 ("TallowIndex", 326, "no such hit") (List.mem_of_getElem? (i := 21) rfl)
theorem znF_1 {U : State} (h : ZS U) : va_Nw (.fieldLinkNest "TallowIndex" 255 "TallowIndex$Search" "found" "I" "TallowIndex") U := h.2.2.1 ("TallowIndex", 255, "TallowIndex$Search", "found", "I", "TallowIndex") (List.mem_of_getElem? (i := 1) rfl)
theorem znF_8 {U : State} (h : ZS U) : va_Nw (.fieldLinkNest "TallowIndex" 328 "TallowIndex$Document" "tag" "I" "TallowIndex") U := h.2.2.1 ("TallowIndex", 328, "TallowIndex$Document", "tag", "I", "TallowIndex") (List.mem_of_getElem? (i := 8) rfl)
theorem znF_9 {U : State} (h : ZS U) : va_Nw (.fieldLinkNest "TallowIndex" 331 "TallowIndex$Document" "whole" "I" "TallowIndex") U := h.2.2.1 ("TallowIndex", 331, "TallowIndex$Document", "whole", "I", "TallowIndex") (List.mem_of_getElem? (i := 9) rfl)
theorem znC_4 {U : State} (h : ZS U) : va_Nw (.castable "java/util/NoSuchElementException" "java/util/NoSuchElementException") U := h.1 ("java/util/NoSuchElementException", "java/util/NoSuchElementException") (List.mem_of_getElem? (i := 4) rfl)
theorem hat0_RX8_277 : ∀ w ∈ (nx_at RX8 277 "java/util/NoSuchElementException" 13 prog_32_method_4_code "java/lang/RuntimeException" ["java/lang/Exception"]).filter goodWord, w ∈ lw_tbl := by decide +kernel
theorem hat_RX8_277 {args : Array Value} {s : State} (hts : ∀ w ∈ WA, w.before args s = true) (hz : ZS s) : ∀ w ∈ nx_at RX8 277 "java/util/NoSuchElementException" 13 prog_32_method_4_code "java/lang/RuntimeException" ["java/lang/Exception"], w.before args s = true := vx_hat (L := nx_at RX8 277 "java/util/NoSuchElementException" 13 prog_32_method_4_code "java/lang/RuntimeException" ["java/lang/Exception"]) (B := [.castable "java/util/NoSuchElementException" "java/util/NoSuchElementException", .declares ⟨"java/lang/RuntimeException", "<init>", "(Ljava/lang/String;)V"⟩, .declares ⟨"java/lang/Exception", "<init>", "(Ljava/lang/String;)V"⟩, .declares ⟨"java/lang/Throwable", "<init>", "(Ljava/lang/String;)V"⟩]) (fun w hw => hts w (WA_of (hat0_RX8_277 w hw) (List.mem_filter.mp hw).2)) (by decide +kernel) (vx_c (va_Nw.use rfl (znC_4 hz)) (vx_c (va_Nw.use rfl (znD_1 hz)) (vx_c (va_Nw.use rfl (znD_3 hz)) (vx_c (va_Nw.use rfl (znD_5 hz)) (vx_n)))))
theorem hgd_RX8_277_273 : ∀ w ∈ Cond.classLink RX8 273 "java/util/NoSuchElementException" :: Cond.initialized "java/util/NoSuchElementException" :: nx_at RX8 277 "java/util/NoSuchElementException" 13 prog_32_method_4_code "java/lang/RuntimeException" ["java/lang/Exception"], vx_ot w = true := by decide +kernel
/-- the scores of the parts below n -/
def scB (K A B Dd : Nat → Int32) (Wt : Nat → Nat) (ns : Nat) (vp : Nat → Int32) (TW TP : Nat → Nat → Int32) (NM : Nat → Nat) (nd : Nat) : Nat → Nat → Nat → Int32
  | 0, _, _ => 0
  | n + 1, i, d => if i = n then (if okJ (K n) = true then jsF (K n) (scB K A B Dd Wt ns vp TW TP NM nd n (A n).toNatClampNeg d) (scB K A B Dd Wt ns vp TW TP NM nd n (B n).toNatClampNeg d) else swV (K n) (A n) (B n) (Dd n) (Wt n) ns (mtD (K n) (A n) (B n) (Dd n) vp TW TP NM nd) vp TW TP NM d) else scB K A B Dd Wt ns vp TW TP NM nd n i d
def scC (K A B Dd : Nat → Int32) (Wt : Nat → Nat) (ns : Nat) (vp : Nat → Int32) (TW TP : Nat → Nat → Int32) (NM : Nat → Nat) (nd : Nat) (i d : Nat) : Int32 := scB K A B Dd Wt ns vp TW TP NM nd (i + 1) i d
theorem scB_lt {K A B Dd : Nat → Int32} {Wt : Nat → Nat} {ns : Nat} {vp : Nat → Int32} {TW TP : Nat → Nat → Int32} {NM : Nat → Nat} {nd : Nat} {i d : Nat} : ∀ {n : Nat}, i < n → scB K A B Dd Wt ns vp TW TP NM nd n i d = scC K A B Dd Wt ns vp TW TP NM nd i d
  | 0, h => absurd h (Nat.not_lt_zero _)
  | n + 1, h => by
    by_cases e : i = n
    · subst e; rfl
    · rw [scB, if_neg e]
      exact scB_lt (by omega)
theorem scC_w {K A B Dd : Nat → Int32} {Wt : Nat → Nat} {ns : Nat} {vp : Nat → Int32} {TW TP : Nat → Nat → Int32} {NM : Nat → Nat} {nd : Nat} {i d : Nat} (h : okJ (K i) = false) : scC K A B Dd Wt ns vp TW TP NM nd i d = swV (K i) (A i) (B i) (Dd i) (Wt i) ns (mtD (K i) (A i) (B i) (Dd i) vp TW TP NM nd) vp TW TP NM d := by
  unfold scC
  rw [scB, if_pos rfl, if_neg (by rw [h]; decide)]
theorem scC_j {K A B Dd : Nat → Int32} {Wt : Nat → Nat} {ns : Nat} {vp : Nat → Int32} {TW TP : Nat → Nat → Int32} {NM : Nat → Nat} {nd : Nat} {i d a b : Nat} (h : okJ (K i) = true) (ha : A i = nI a) (hb : B i = nI b) (h1 : a < i) (h2 : b < i) (hi : i < 40) : scC K A B Dd Wt ns vp TW TP NM nd i d = jsF (K i) (scC K A B Dd Wt ns vp TW TP NM nd a d) (scC K A B Dd Wt ns vp TW TP NM nd b d) := by
  have e : scC K A B Dd Wt ns vp TW TP NM nd i d = jsF (K i) (scB K A B Dd Wt ns vp TW TP NM nd i (A i).toNatClampNeg d) (scB K A B Dd Wt ns vp TW TP NM nd i (B i).toNatClampNeg d) := by
    unfold scC
    rw [scB, if_pos rfl, if_pos h]
  rw [e, ha, hb, nI_clamp (by omega), nI_clamp (by omega), scB_lt h1, scB_lt h2]
def bpC (sc : Nat → Int32) (qq : Nat) (WH : Nat → Int32) (x : Int32) : Nat → Int32
  | 0 => -1
  | d + 1 => if WH d = x then (if bpC sc qq WH x d < sc (30 * qq + d) then sc (30 * qq + d) else bpC sc qq WH x d) else bpC sc qq WH x d
theorem bp_n {sc : Nat → Int32} {qq : Nat} {WH : Nat → Int32} {x : Int32} {d : Nat} (h : ¬ WH d = x) : bpC sc qq WH x d = bpC sc qq WH x (d + 1) := by simp [bpC, h]
theorem bp_y {sc : Nat → Int32} {qq : Nat} {WH : Nat → Int32} {x : Int32} {d : Nat} (h : WH d = x) (h2 : bpC sc qq WH x d < sc (30 * qq + d)) : sc (30 * qq + d) = bpC sc qq WH x (d + 1) := by simp [bpC, h, h2]
theorem bp_k {sc : Nat → Int32} {qq : Nat} {WH : Nat → Int32} {x : Int32} {d : Nat} (h : WH d = x) (h2 : sc (30 * qq + d) ≤ bpC sc qq WH x d) : bpC sc qq WH x d = bpC sc qq WH x (d + 1) := by simp [bpC, h, Int32.not_lt.mpr h2]
set_option maxHeartbeats 4000000 in
set_option maxRecDepth 100000 in
theorem z_scoreWordsE (l : Launch) (D : va_G) (dA : Nat → ClassId) (E : Nat) (zq : Nat → Nat) (aq fd : Int32) (t0 sc : Nat → Int32) (pt : Nat) (qo qw ns vo v1 v2 : Nat) (qk qa qb qd qn vn : Int32) (vp : Nat → Int32) (hdl ad0 nd : Nat) (mdd : Int32) (sz : Nat) (hnz : nd = 0)  : Met l yX3_scoreWords (wq (.code yX3_scoreWords cX3_scoreWords 10 none)) { frames := 1, cells := 0, slots := 0, locals := 20 } (va_Pc [.ref (zq 0), .ref hdl, .ref qo, .int (nI pt), .ref vo] (PcB D dA E [(zq 0, .inr (6, [.ref (zq 1), .ref (zq 3), .ref (zq 5), .ref (zq 7), .ref (zq 9), .ref (zq 11), .int aq, .int fd])), (zq 3, .inr (5, [.ref (zq 4)])), (zq 4, .inl (dA 0, 30, .inl t0)), (zq 5, .inr (5, [.ref (zq 6)])), (zq 6, .inl (dA 0, 1200, .inl sc)), (qo, .inr (4, [.int qk, .int qa, .int qb, .int qd, .int (nI qw), .int qn])), (vo, .inr (10, [.int vn, .ref v1, .int (nI ns)])), (v1, .inr (5, [.ref v2])), (v2, .inl (dA 0, 30, .inl vp)), (hdl, .inr (2, [.int mdd, .ref ad0, .int (nI nd)]))] sz)) (va_Qv (fun (u : Unit) => True) (fun u t => va_P D vwCl [(zq 0, .inr (6, [.ref (zq 1), .ref (zq 3), .ref (zq 5), .ref (zq 7), .ref (zq 9), .ref (zq 11), .int aq, .int fd])), (zq 3, .inr (5, [.ref (zq 4)])), (zq 4, .inl (dA 0, 30, .inl t0)), (zq 5, .inr (5, [.ref (zq 6)])), (zq 6, .inl (dA 0, 1200, .inl sc)), (qo, .inr (4, [.int qk, .int qa, .int qb, .int qd, .int (nI qw), .int qn])), (vo, .inr (10, [.int vn, .ref v1, .int (nI ns)])), (v1, .inr (5, [.ref v2])), (v2, .inl (dA 0, 30, .inl vp)), (hdl, .inr (2, [.int mdd, .ref ad0, .int (nI nd)]))] t.heap ∧ va_D (va_A [(zq 0, .inr (6, [.ref (zq 1), .ref (zq 3), .ref (zq 5), .ref (zq 7), .ref (zq 9), .ref (zq 11), .int aq, .int fd])), (zq 3, .inr (5, [.ref (zq 4)])), (zq 4, .inl (dA 0, 30, .inl t0)), (zq 5, .inr (5, [.ref (zq 6)])), (zq 6, .inl (dA 0, 1200, .inl sc)), (qo, .inr (4, [.int qk, .int qa, .int qb, .int qd, .int (nI qw), .int qn])), (vo, .inr (10, [.int vn, .ref v1, .int (nI ns)])), (v1, .inr (5, [.ref v2])), (v2, .inl (dA 0, 30, .inl vp)), (hdl, .inr (2, [.int mdd, .ref ad0, .int (nI nd)]))] sz) [(zq 0, .inr (6, [.ref (zq 1), .ref (zq 3), .ref (zq 5), .ref (zq 7), .ref (zq 9), .ref (zq 11), .int aq, .int fd])), (zq 3, .inr (5, [.ref (zq 4)])), (zq 4, .inl (dA 0, 30, .inl t0)), (zq 5, .inr (5, [.ref (zq 6)])), (zq 6, .inl (dA 0, 1200, .inl sc)), (qo, .inr (4, [.int qk, .int qa, .int qb, .int qd, .int (nI qw), .int qn])), (vo, .inr (10, [.int vn, .ref v1, .int (nI ns)])), (v1, .inr (5, [.ref v2])), (v2, .inl (dA 0, 30, .inl vp)), (hdl, .inr (2, [.int mdd, .ref ad0, .int (nI nd)]))]) (va_A [(zq 0, .inr (6, [.ref (zq 1), .ref (zq 3), .ref (zq 5), .ref (zq 7), .ref (zq 9), .ref (zq 11), .int aq, .int fd])), (zq 3, .inr (5, [.ref (zq 4)])), (zq 4, .inl (dA 0, 30, .inl t0)), (zq 5, .inr (5, [.ref (zq 6)])), (zq 6, .inl (dA 0, 1200, .inl sc)), (qo, .inr (4, [.int qk, .int qa, .int qb, .int qd, .int (nI qw), .int qn])), (vo, .inr (10, [.int vn, .ref v1, .int (nI ns)])), (v1, .inr (5, [.ref v2])), (v2, .inl (dA 0, 30, .inl vp)), (hdl, .inr (2, [.int mdd, .ref ad0, .int (nI nd)]))] sz)) 0 0 (va_A [(zq 0, .inr (6, [.ref (zq 1), .ref (zq 3), .ref (zq 5), .ref (zq 7), .ref (zq 9), .ref (zq 11), .int aq, .int fd])), (zq 3, .inr (5, [.ref (zq 4)])), (zq 4, .inl (dA 0, 30, .inl t0)), (zq 5, .inr (5, [.ref (zq 6)])), (zq 6, .inl (dA 0, 1200, .inl sc)), (qo, .inr (4, [.int qk, .int qa, .int qb, .int qd, .int (nI qw), .int qn])), (vo, .inr (10, [.int vn, .ref v1, .int (nI ns)])), (v1, .inr (5, [.ref v2])), (v2, .inl (dA 0, 30, .inl vp)), (hdl, .inr (2, [.int mdd, .ref ad0, .int (nI nd)]))] sz) := by
  refine mb_of (Qc := fun A => va_Qv (fun (u : Unit) => True) (fun u t => va_P D vwCl [(zq 0, .inr (6, [.ref (zq 1), .ref (zq 3), .ref (zq 5), .ref (zq 7), .ref (zq 9), .ref (zq 11), .int aq, .int fd])), (zq 3, .inr (5, [.ref (zq 4)])), (zq 4, .inl (dA 0, 30, .inl t0)), (zq 5, .inr (5, [.ref (zq 6)])), (zq 6, .inl (dA 0, 1200, .inl sc)), (qo, .inr (4, [.int qk, .int qa, .int qb, .int qd, .int (nI qw), .int qn])), (vo, .inr (10, [.int vn, .ref v1, .int (nI ns)])), (v1, .inr (5, [.ref v2])), (v2, .inl (dA 0, 30, .inl vp)), (hdl, .inr (2, [.int mdd, .ref ad0, .int (nI nd)]))] t.heap ∧ va_D A [(zq 0, .inr (6, [.ref (zq 1), .ref (zq 3), .ref (zq 5), .ref (zq 7), .ref (zq 9), .ref (zq 11), .int aq, .int fd])), (zq 3, .inr (5, [.ref (zq 4)])), (zq 4, .inl (dA 0, 30, .inl t0)), (zq 5, .inr (5, [.ref (zq 6)])), (zq 6, .inl (dA 0, 1200, .inl sc)), (qo, .inr (4, [.int qk, .int qa, .int qb, .int qd, .int (nI qw), .int qn])), (vo, .inr (10, [.int vn, .ref v1, .int (nI ns)])), (v1, .inr (5, [.ref v2])), (v2, .inl (dA 0, 30, .inl vp)), (hdl, .inr (2, [.int mdd, .ref ad0, .int (nI nd)]))]) A) RX3 rfl (by decide) (Nat.le_of_ble_eq_true rfl) ?_
  intro p e s m args below meth c hae hx hb hr hts hown hlocks hml hnm hP hK A hAe hD hZ hS hA ls hl
  replace hl : lv_has ls 10 [(0, .ref (zq 0)), (1, .ref hdl), (2, .ref qo), (3, .int (nI pt)), (4, .ref vo)] := hl
  refine lv_iconst (v := 0) hx hb dX3_scoreWords_0 (by decide) ?_
  refine lv_istore (lv' := [(5, .int 0), (0, .ref (zq 0)), (1, .ref hdl), (2, .ref qo), (3, .int (nI pt)), (4, .ref vo)]) hx hb dX3_scoreWords_1 hl (by decide) rfl (fun ls hl => ?_)
  refine lv_iconst (v := 0) hx hb dX3_scoreWords_3 (by decide) ?_
  refine lv_istore (lv' := [(6, .int 0), (5, .int 0), (0, .ref (zq 0)), (1, .ref hdl), (2, .ref qo), (3, .int (nI pt)), (4, .ref vo)]) hx hb dX3_scoreWords_4 hl (by decide) rfl (fun ls hl => ?_)
  refine lv_iload hx hb dX3_scoreWords_6 (lv_at hl 0 rfl) ?_
  refine lv_aload_n hx hb dX3_scoreWords_8 rfl (lv_at hl 3 rfl) ?_
  replace hPc := hP.sub (ws' := [(hdl, .inr (2, [.int mdd, .ref ad0, .int (nI nd)]))]) [9] rfl
  replace hDc := hD.sub (ws' := [(hdl, .inr (2, [.int mdd, .ref ad0, .int (nI nd)]))]) [9] (by decide) rfl
  replace hFc := va_free (wc := [(hdl, .inr (2, [.int mdd, .ref ad0, .int (nI nd)]))]) hD hS hA [9] rfl
  refine va_calli (va_runV (As := []) (rest := [.int 0]) ⟨hx, hb, hml, hown, hts⟩ (l_size l D dA E hdl mdd (.ref ad0) (nI nd) s.heap.size ) (cwV 0 hts (ga_V q452 q453 q450 q322 q451) rfl rfl rfl (by decide +kernel) ⟨(Nat.le_of_ble_eq_true rfl), (Nat.le_of_ble_eq_true rfl)⟩) ⟨pb_blind, va_recv hK hPc (ci := 2) (q0 := 0) rfl rfl, pb_pre hK hPc hDc hZ hS hFc _⟩ rfl rfl hl.1 rfl (lv_room (Nat.le_of_ble_eq_true rfl)) dX3_scoreWords_9 ⟨(Nat.le_of_ble_eq_true rfl), (Nat.le_of_ble_eq_true rfl)⟩) hS (fun q _ h => hFc q h) hFc (fun r u t H1 locs ht hvm hw hB hz1 hk1 hS => ?_)
  refine W.widen (k := 0) (n := 0) (Nat.le_of_ble_eq_true rfl) (Nat.le_of_ble_eq_true rfl) ?_
  obtain ⟨r1, rfl⟩ : ∃ z, z = r := ⟨_, rfl⟩
  obtain ⟨u2, rfl⟩ : ∃ z, z = u := ⟨_, rfl⟩
  have hw3 := hw
  clear hw
  obtain ⟨hP1, hD1⟩ := hB
  rw [ht] at hP1
  obtain ⟨hP, hD⟩ := va_join (wr := [(zq 0, .inr (6, [.ref (zq 1), .ref (zq 3), .ref (zq 5), .ref (zq 7), .ref (zq 9), .ref (zq 11), .int aq, .int fd])), (zq 3, .inr (5, [.ref (zq 4)])), (zq 4, .inl (dA 0, 30, .inl t0)), (zq 5, .inr (5, [.ref (zq 6)])), (zq 6, .inl (dA 0, 1200, .inl sc)), (qo, .inr (4, [.int qk, .int qa, .int qb, .int qd, .int (nI qw), .int qn])), (vo, .inr (10, [.int vn, .ref v1, .int (nI ns)])), (v1, .inr (5, [.ref v2])), (v2, .inl (dA 0, 30, .inl vp))]) (w1 := [(hdl, .inr (2, [.int mdd, .ref ad0, .int (nI nd)]))]) hP hD [9] [0, 1, 2, 3, 4, 5, 6, 7, 8] rfl rfl (by decide) (by decide) hk1 hFc hP1 hD1
  generalize H1 = H at hP hS ⊢
  replace hP : va_P D vwCl [(zq 0, .inr (6, [.ref (zq 1), .ref (zq 3), .ref (zq 5), .ref (zq 7), .ref (zq 9), .ref (zq 11), .int aq, .int fd])), (zq 3, .inr (5, [.ref (zq 4)])), (zq 4, .inl (dA 0, 30, .inl t0)), (zq 5, .inr (5, [.ref (zq 6)])), (zq 6, .inl (dA 0, 1200, .inl sc)), (qo, .inr (4, [.int qk, .int qa, .int qb, .int qd, .int (nI qw), .int qn])), (vo, .inr (10, [.int vn, .ref v1, .int (nI ns)])), (v1, .inr (5, [.ref v2])), (v2, .inl (dA 0, 30, .inl vp)), (hdl, .inr (2, [.int mdd, .ref ad0, .int (nI nd)]))] H := hP
  replace hD : va_D A [(zq 0, .inr (6, [.ref (zq 1), .ref (zq 3), .ref (zq 5), .ref (zq 7), .ref (zq 9), .ref (zq 11), .int aq, .int fd])), (zq 3, .inr (5, [.ref (zq 4)])), (zq 4, .inl (dA 0, 30, .inl t0)), (zq 5, .inr (5, [.ref (zq 6)])), (zq 6, .inl (dA 0, 1200, .inl sc)), (qo, .inr (4, [.int qk, .int qa, .int qb, .int qd, .int (nI qw), .int qn])), (vo, .inr (10, [.int vn, .ref v1, .int (nI ns)])), (v1, .inr (5, [.ref v2])), (v2, .inl (dA 0, 30, .inl vp)), (hdl, .inr (2, [.int mdd, .ref ad0, .int (nI nd)]))] := hD
  obtain rfl : r1 = nI nd := hw3
  refine lv_icmp_ge (tgt := 75) hx hb dX3_scoreWords_12 (by decide) (fun _ => ?_) (fun c4 => absurd ((nI_leI (a := nd) (b := 0) (by omega) (by omega)).mpr (by omega)) c4)
  refine lv_iconst (v := 0) hx hb dX3_scoreWords_75 (by decide) ?_
  refine lv_istore (lv' := [(6, .int 0), (5, .int 0), (0, .ref (zq 0)), (1, .ref hdl), (2, .ref qo), (3, .int (nI pt)), (4, .ref vo)]) hx hb dX3_scoreWords_76 hl (by decide) rfl (fun ls hl => ?_)
  refine lv_iload hx hb dX3_scoreWords_78 (lv_at hl 0 rfl) ?_
  refine lv_aload_n hx hb dX3_scoreWords_80 rfl (lv_at hl 3 rfl) ?_
  replace hPc := hP.sub (ws' := [(hdl, .inr (2, [.int mdd, .ref ad0, .int (nI nd)]))]) [9] rfl
  replace hDc := hD.sub (ws' := [(hdl, .inr (2, [.int mdd, .ref ad0, .int (nI nd)]))]) [9] (by decide) rfl
  replace hFc := va_free (wc := [(hdl, .inr (2, [.int mdd, .ref ad0, .int (nI nd)]))]) hD hS hA [9] rfl
  refine va_calli (va_runV (As := []) (rest := [.int 0]) ⟨hx, hb, hml, hown, hts⟩ (l_size l D dA E hdl mdd (.ref ad0) (nI nd) H.size ) (cwV 0 hts (ga_V q452 q453 q450 q322 q451) rfl rfl rfl (by decide +kernel) ⟨(Nat.le_of_ble_eq_true rfl), (Nat.le_of_ble_eq_true rfl)⟩) ⟨pb_blind, va_recv hK hPc (ci := 2) (q0 := 0) rfl rfl, pb_pre hK hPc hDc hZ hS hFc _⟩ rfl rfl hl.1 rfl (lv_room (Nat.le_of_ble_eq_true rfl)) dX3_scoreWords_81 ⟨(Nat.le_of_ble_eq_true rfl), (Nat.le_of_ble_eq_true rfl)⟩) hS (fun q _ h => hFc q h) hFc (fun r u t H1 locs ht hvm hw hB hz1 hk1 hS => ?_)
  refine W.widen (k := 0) (n := 0) (Nat.le_of_ble_eq_true rfl) (Nat.le_of_ble_eq_true rfl) ?_
  obtain ⟨r5, rfl⟩ : ∃ z, z = r := ⟨_, rfl⟩
  obtain ⟨u6, rfl⟩ : ∃ z, z = u := ⟨_, rfl⟩
  have hw7 := hw
  clear hw
  obtain ⟨hP1, hD1⟩ := hB
  rw [ht] at hP1
  obtain ⟨hP, hD⟩ := va_join (wr := [(zq 0, .inr (6, [.ref (zq 1), .ref (zq 3), .ref (zq 5), .ref (zq 7), .ref (zq 9), .ref (zq 11), .int aq, .int fd])), (zq 3, .inr (5, [.ref (zq 4)])), (zq 4, .inl (dA 0, 30, .inl t0)), (zq 5, .inr (5, [.ref (zq 6)])), (zq 6, .inl (dA 0, 1200, .inl sc)), (qo, .inr (4, [.int qk, .int qa, .int qb, .int qd, .int (nI qw), .int qn])), (vo, .inr (10, [.int vn, .ref v1, .int (nI ns)])), (v1, .inr (5, [.ref v2])), (v2, .inl (dA 0, 30, .inl vp))]) (w1 := [(hdl, .inr (2, [.int mdd, .ref ad0, .int (nI nd)]))]) hP hD [9] [0, 1, 2, 3, 4, 5, 6, 7, 8] rfl rfl (by decide) (by decide) hk1 hFc hP1 hD1
  generalize H1 = H at hP hS ⊢
  replace hP : va_P D vwCl [(zq 0, .inr (6, [.ref (zq 1), .ref (zq 3), .ref (zq 5), .ref (zq 7), .ref (zq 9), .ref (zq 11), .int aq, .int fd])), (zq 3, .inr (5, [.ref (zq 4)])), (zq 4, .inl (dA 0, 30, .inl t0)), (zq 5, .inr (5, [.ref (zq 6)])), (zq 6, .inl (dA 0, 1200, .inl sc)), (qo, .inr (4, [.int qk, .int qa, .int qb, .int qd, .int (nI qw), .int qn])), (vo, .inr (10, [.int vn, .ref v1, .int (nI ns)])), (v1, .inr (5, [.ref v2])), (v2, .inl (dA 0, 30, .inl vp)), (hdl, .inr (2, [.int mdd, .ref ad0, .int (nI nd)]))] H := hP
  replace hD : va_D A [(zq 0, .inr (6, [.ref (zq 1), .ref (zq 3), .ref (zq 5), .ref (zq 7), .ref (zq 9), .ref (zq 11), .int aq, .int fd])), (zq 3, .inr (5, [.ref (zq 4)])), (zq 4, .inl (dA 0, 30, .inl t0)), (zq 5, .inr (5, [.ref (zq 6)])), (zq 6, .inl (dA 0, 1200, .inl sc)), (qo, .inr (4, [.int qk, .int qa, .int qb, .int qd, .int (nI qw), .int qn])), (vo, .inr (10, [.int vn, .ref v1, .int (nI ns)])), (v1, .inr (5, [.ref v2])), (v2, .inl (dA 0, 30, .inl vp)), (hdl, .inr (2, [.int mdd, .ref ad0, .int (nI nd)]))] := hD
  obtain rfl : r5 = nI nd := hw7
  refine lv_icmp_ge (tgt := 162) hx hb dX3_scoreWords_84 (by decide) (fun _ => ?_) (fun c8 => absurd ((nI_leI (a := nd) (b := 0) (by omega) (by omega)).mpr (by omega)) c8)
  refine W.widen (k := 0) (n := 0) (Nat.le_of_ble_eq_true rfl) (Nat.le_of_ble_eq_true rfl) ?_
  have hP9 := hP.sub (ws' := [(zq 0, .inr (6, [.ref (zq 1), .ref (zq 3), .ref (zq 5), .ref (zq 7), .ref (zq 9), .ref (zq 11), .int aq, .int fd])), (zq 3, .inr (5, [.ref (zq 4)])), (zq 4, .inl (dA 0, 30, .inl t0)), (zq 5, .inr (5, [.ref (zq 6)])), (zq 6, .inl (dA 0, 1200, .inl sc)), (qo, .inr (4, [.int qk, .int qa, .int qb, .int qd, .int (nI qw), .int qn])), (vo, .inr (10, [.int vn, .ref v1, .int (nI ns)])), (v1, .inr (5, [.ref v2])), (v2, .inl (dA 0, 30, .inl vp)), (hdl, .inr (2, [.int mdd, .ref ad0, .int (nI nd)]))]) [0, 1, 2, 3, 4, 5, 6, 7, 8, 9] rfl
  have hD9 := hD.sub (ws' := [(zq 0, .inr (6, [.ref (zq 1), .ref (zq 3), .ref (zq 5), .ref (zq 7), .ref (zq 9), .ref (zq 11), .int aq, .int fd])), (zq 3, .inr (5, [.ref (zq 4)])), (zq 4, .inl (dA 0, 30, .inl t0)), (zq 5, .inr (5, [.ref (zq 6)])), (zq 6, .inl (dA 0, 1200, .inl sc)), (qo, .inr (4, [.int qk, .int qa, .int qb, .int qd, .int (nI qw), .int qn])), (vo, .inr (10, [.int vn, .ref v1, .int (nI ns)])), (v1, .inr (5, [.ref v2])), (v2, .inl (dA 0, 30, .inl vp)), (hdl, .inr (2, [.int mdd, .ref ad0, .int (nI nd)]))]) [0, 1, 2, 3, 4, 5, 6, 7, 8, 9] (by decide) rfl
  exact W.vret hx hb hr (fun t ht hW => ⟨⟨(), rfl, trivial, ⟨by rw [ht]; exact hP9, hD9⟩⟩, hS.F ht⟩) hS.2.2 dX3_scoreWords_162

set_option maxHeartbeats 4000000 in
set_option maxRecDepth 100000 in
theorem z_orderHitsE (l : Launch) (D : va_G) (dA : Nat → ClassId) (E : Nat) (zq : Nat → Nat) (aq : Nat) (fd0 bd : Int32) (hdl ad0 nd : Nat) (mdd : Int32) (sz : Nat) (hnz : nd = 0)  : Met l yX3_orderHits (wq (.code yX3_orderHits cX3_orderHits 5 none)) { frames := 1, cells := 0, slots := 0, locals := 20 } (va_Pc [.ref (zq 0), .ref hdl, .int bd] (PcB D dA E [(zq 0, .inr (6, [.ref (zq 1), .ref (zq 3), .ref (zq 5), .ref (zq 7), .ref (zq 9), .ref (zq 11), .int (nI aq), .int fd0])), (hdl, .inr (2, [.int mdd, .ref ad0, .int (nI nd)]))] sz)) (va_Qv (fun (u : Unit) => True) (fun u t => va_P D vwCl [(zq 0, .inr (6, [.ref (zq 1), .ref (zq 3), .ref (zq 5), .ref (zq 7), .ref (zq 9), .ref (zq 11), .int (nI aq), .int 0])), (hdl, .inr (2, [.int mdd, .ref ad0, .int (nI nd)]))] t.heap ∧ va_D (va_A [(zq 0, .inr (6, [.ref (zq 1), .ref (zq 3), .ref (zq 5), .ref (zq 7), .ref (zq 9), .ref (zq 11), .int (nI aq), .int fd0])), (hdl, .inr (2, [.int mdd, .ref ad0, .int (nI nd)]))] sz) [(zq 0, .inr (6, [.ref (zq 1), .ref (zq 3), .ref (zq 5), .ref (zq 7), .ref (zq 9), .ref (zq 11), .int (nI aq), .int 0])), (hdl, .inr (2, [.int mdd, .ref ad0, .int (nI nd)]))]) (va_A [(zq 0, .inr (6, [.ref (zq 1), .ref (zq 3), .ref (zq 5), .ref (zq 7), .ref (zq 9), .ref (zq 11), .int (nI aq), .int fd0])), (hdl, .inr (2, [.int mdd, .ref ad0, .int (nI nd)]))] sz)) 0 0 (va_A [(zq 0, .inr (6, [.ref (zq 1), .ref (zq 3), .ref (zq 5), .ref (zq 7), .ref (zq 9), .ref (zq 11), .int (nI aq), .int fd0])), (hdl, .inr (2, [.int mdd, .ref ad0, .int (nI nd)]))] sz) := by
  refine mb_of (Qc := fun A => va_Qv (fun (u : Unit) => True) (fun u t => va_P D vwCl [(zq 0, .inr (6, [.ref (zq 1), .ref (zq 3), .ref (zq 5), .ref (zq 7), .ref (zq 9), .ref (zq 11), .int (nI aq), .int 0])), (hdl, .inr (2, [.int mdd, .ref ad0, .int (nI nd)]))] t.heap ∧ va_D A [(zq 0, .inr (6, [.ref (zq 1), .ref (zq 3), .ref (zq 5), .ref (zq 7), .ref (zq 9), .ref (zq 11), .int (nI aq), .int 0])), (hdl, .inr (2, [.int mdd, .ref ad0, .int (nI nd)]))]) A) RX3 rfl (by decide) (Nat.le_of_ble_eq_true rfl) ?_
  intro p e s m args below meth c hae hx hb hr hts hown hlocks hml hnm hP hK A hAe hD hZ hS hA ls hl
  replace hl : lv_has ls 5 [(0, .ref (zq 0)), (1, .ref hdl), (2, .int bd)] := hl
  refine lv_aload_n hx hb dX3_orderHits_0 rfl (lv_at hl 0 rfl) ?_
  refine lv_iconst (v := 0) hx hb dX3_orderHits_1 (by decide) ?_
  refine va_put (D := D) (ci := 6) (v := .int 0) (ty := .int) (C := RX3) (T := TX3) (N := 8) hx hb hts inAX3 tyX3 tyX3_ok nmX3 hown hK hP hD hS 0 rfl rfl 7 (by decide) (hts _ q443) (fun _ h9 => h9) rfl (tyX3_ok 7 (by decide)) rfl rfl (Nat.le_of_ble_eq_true rfl) dX3_orderHits_2 (fun H locs hP hD hS => ?_)
  replace hP : va_P D vwCl [(zq 0, .inr (6, [.ref (zq 1), .ref (zq 3), .ref (zq 5), .ref (zq 7), .ref (zq 9), .ref (zq 11), .int (nI aq), .int 0])), (hdl, .inr (2, [.int mdd, .ref ad0, .int (nI nd)]))] H := hP
  replace hD : va_D A [(zq 0, .inr (6, [.ref (zq 1), .ref (zq 3), .ref (zq 5), .ref (zq 7), .ref (zq 9), .ref (zq 11), .int (nI aq), .int 0])), (hdl, .inr (2, [.int mdd, .ref ad0, .int (nI nd)]))] := hD
  refine lv_iconst (v := 0) hx hb dX3_orderHits_5 (by decide) ?_
  refine lv_istore_n (lv' := [(3, .int 0), (0, .ref (zq 0)), (1, .ref hdl), (2, .int bd)]) hx hb dX3_orderHits_6 rfl hl (by decide) rfl (fun ls hl => ?_)
  refine lv_iload_n hx hb dX3_orderHits_7 rfl (lv_at hl 0 rfl) ?_
  refine lv_aload_n hx hb dX3_orderHits_8 rfl (lv_at hl 2 rfl) ?_
  replace hPc := hP.sub (ws' := [(hdl, .inr (2, [.int mdd, .ref ad0, .int (nI nd)]))]) [1] rfl
  replace hDc := hD.sub (ws' := [(hdl, .inr (2, [.int mdd, .ref ad0, .int (nI nd)]))]) [1] (by decide) rfl
  replace hFc := va_free (wc := [(hdl, .inr (2, [.int mdd, .ref ad0, .int (nI nd)]))]) hD hS hA [1] rfl
  refine va_calli (va_runV (As := []) (rest := [.int 0]) ⟨hx, hb, hml, hown, hts⟩ (l_size l D dA E hdl mdd (.ref ad0) (nI nd) H.size ) (cwV 0 hts (ga_V q452 q453 q450 q322 q451) rfl rfl rfl (by decide +kernel) ⟨(Nat.le_of_ble_eq_true rfl), (Nat.le_of_ble_eq_true rfl)⟩) ⟨pb_blind, va_recv hK hPc (ci := 2) (q0 := 0) rfl rfl, pb_pre hK hPc hDc hZ hS hFc _⟩ rfl rfl hl.1 rfl (lv_room (Nat.le_of_ble_eq_true rfl)) dX3_orderHits_9 ⟨(Nat.le_of_ble_eq_true rfl), (Nat.le_of_ble_eq_true rfl)⟩) hS (fun q _ h => hFc q h) hFc (fun r u t H1 locs ht hvm hw hB hz1 hk1 hS => ?_)
  refine W.widen (k := 0) (n := 0) (Nat.le_of_ble_eq_true rfl) (Nat.le_of_ble_eq_true rfl) ?_
  obtain ⟨r1, rfl⟩ : ∃ z, z = r := ⟨_, rfl⟩
  obtain ⟨u2, rfl⟩ : ∃ z, z = u := ⟨_, rfl⟩
  have hw3 := hw
  clear hw
  obtain ⟨hP1, hD1⟩ := hB
  rw [ht] at hP1
  obtain ⟨hP, hD⟩ := va_join (wr := [(zq 0, .inr (6, [.ref (zq 1), .ref (zq 3), .ref (zq 5), .ref (zq 7), .ref (zq 9), .ref (zq 11), .int (nI aq), .int 0]))]) (w1 := [(hdl, .inr (2, [.int mdd, .ref ad0, .int (nI nd)]))]) hP hD [1] [0] rfl rfl (by decide) (by decide) hk1 hFc hP1 hD1
  generalize H1 = H at hP hS ⊢
  replace hP : va_P D vwCl [(zq 0, .inr (6, [.ref (zq 1), .ref (zq 3), .ref (zq 5), .ref (zq 7), .ref (zq 9), .ref (zq 11), .int (nI aq), .int 0])), (hdl, .inr (2, [.int mdd, .ref ad0, .int (nI nd)]))] H := hP
  replace hD : va_D A [(zq 0, .inr (6, [.ref (zq 1), .ref (zq 3), .ref (zq 5), .ref (zq 7), .ref (zq 9), .ref (zq 11), .int (nI aq), .int 0])), (hdl, .inr (2, [.int mdd, .ref ad0, .int (nI nd)]))] := hD
  obtain rfl : r1 = nI nd := hw3
  refine lv_icmp_ge (tgt := 77) hx hb dX3_orderHits_12 (by decide) (fun _ => ?_) (fun c4 => absurd ((nI_leI (a := nd) (b := 0) (by omega) (by omega)).mpr (by omega)) c4)
  refine W.widen (k := 0) (n := 0) (Nat.le_of_ble_eq_true rfl) (Nat.le_of_ble_eq_true rfl) ?_
  have hP9 := hP.sub (ws' := [(zq 0, .inr (6, [.ref (zq 1), .ref (zq 3), .ref (zq 5), .ref (zq 7), .ref (zq 9), .ref (zq 11), .int (nI aq), .int 0])), (hdl, .inr (2, [.int mdd, .ref ad0, .int (nI nd)]))]) [0, 1] rfl
  have hD9 := hD.sub (ws' := [(zq 0, .inr (6, [.ref (zq 1), .ref (zq 3), .ref (zq 5), .ref (zq 7), .ref (zq 9), .ref (zq 11), .int (nI aq), .int 0])), (hdl, .inr (2, [.int mdd, .ref ad0, .int (nI nd)]))]) [0, 1] (by decide) rfl
  exact W.vret hx hb hr (fun t ht hW => ⟨⟨(), rfl, trivial, ⟨by rw [ht]; exact hP9, hD9⟩⟩, hS.F ht⟩) hS.2.2 dX3_orderHits_77
