/-! CONTRACTS, general -/
theorem q262 : (.methodLink RJxa1e45 1 objectInit : Cond) ∈ WA := WA_of (tb_1 49 rfl) rfl
theorem q263 : (.instanceMethod objectInit : Cond) ∈ WA := WA_of (tb_1 36 rfl) rfl
theorem q264 : (.code objectInit ⟨#[0xb1]⟩ 1 none : Cond) ∈ WA := WA_of (tb_1 37 rfl) rfl
theorem q265 : (.code yJxa1e45_init_da8c8 cJxa1e45_init_da8c8 1 none : Cond) ∈ WA := WA_of (tb_1 48 rfl) rfl
theorem q266 : (.initialized RJxa1e45 : Cond) ∈ WA := WA_of (tb_1 2 rfl) rfl
theorem q267 : (.methodLink RJxc12de 1 yJxa1e45_init_da8c8 : Cond) ∈ WA := WA_of (tb_1 46 rfl) rfl
theorem q268 : (.instanceMethod yJxa1e45_init_da8c8 : Cond) ∈ WA := WA_of (tb_1 47 rfl) rfl
theorem q269 : (.fieldLink RJxc12de 7 "java/util/AbstractList" "modCount" "I" : Cond) ∈ WA := WA_of (tb_1 54 rfl) rfl
theorem q270 : (.code yJxc12de_init_da8c8 cJxc12de_init_da8c8 1 none : Cond) ∈ WA := WA_of (tb_1 45 rfl) rfl
theorem q271 : (.initialized RJxc12de : Cond) ∈ WA := WA_of (tb_1 3 rfl) rfl
theorem q272 : (.methodLink RJx4a65c 1 yJxc12de_init_da8c8 : Cond) ∈ WA := WA_of (tb_1 43 rfl) rfl
theorem q273 : (.instanceMethod yJxc12de_init_da8c8 : Cond) ∈ WA := WA_of (tb_1 44 rfl) rfl
theorem q274 : (.fieldLink RJx4a65c 39 "java/util/ArrayList" "DEFAULTCAPACITY_EMPTY_ELEMENTDATA" "[Ljava/lang/Object;" : Cond) ∈ WA := WA_of (tb_1 50 rfl) rfl
theorem q275 : (.fieldLink RJx4a65c 9 "java/util/ArrayList" "elementData" "[Ljava/lang/Object;" : Cond) ∈ WA := WA_of (tb_1 52 rfl) rfl
theorem q276 : (.methodLink RX2 1 objectInit : Cond) ∈ WA := WA_of (tb_1 75 rfl) rfl
theorem q277 : (.arrayClass .int : Cond) ∈ WA := WA_of (tb_1 80 rfl) rfl
theorem q278 : (.methodLink RX6 3 objectInit : Cond) ∈ WA := WA_of (tb_2 236 rfl) rfl
theorem q279 : (.classLink RX6 9 RX2 : Cond) ∈ WA := WA_of (tb_2 237 rfl) rfl
theorem q280 : (.instantiable RX2 1 : Cond) ∈ WA := WA_of (tb_1 71 rfl) rfl
theorem q281 : (.code yX2_init cX2_init 2 none : Cond) ∈ WA := WA_of (tb_1 74 rfl) rfl
theorem q282 : (.methodLink RX6 11 yX2_init : Cond) ∈ WA := WA_of (tb_2 238 rfl) rfl
theorem q283 : (.instanceMethod yX2_init : Cond) ∈ WA := WA_of (tb_1 73 rfl) rfl
theorem q284 : (.methodLink RX0 1 objectInit : Cond) ∈ WA := WA_of (tb_2 230 rfl) rfl
theorem q285 : (.classLink RX0 7 RX6 : Cond) ∈ WA := WA_of (tb_2 231 rfl) rfl
theorem q286 : (.instantiable RX6 4 : Cond) ∈ WA := WA_of (tb_2 232 rfl) rfl
theorem q287 : (.code yX6_init cX6_init 1 none : Cond) ∈ WA := WA_of (tb_2 235 rfl) rfl
theorem q288 : (.instanceMethod yX6_init : Cond) ∈ WA := WA_of (tb_2 234 rfl) rfl
theorem q289 : (.fieldLink RX0 10 "TallowIndex$Document" "text" "LTallowIndex$Text;" : Cond) ∈ WA := WA_of (tb_3 22 rfl) rfl
theorem q290 : (.fieldLink RX0 16 "TallowIndex$Document" "tag" "I" : Cond) ∈ WA := WA_of (tb_3 18 rfl) rfl
theorem q291 : (.fieldLink RX0 20 "TallowIndex$Document" "whole" "I" : Cond) ∈ WA := WA_of (tb_3 20 rfl) rfl
theorem q292 : (.methodLink RX7 1 objectInit : Cond) ∈ WA := WA_of (tb_3 225 rfl) rfl
theorem q293 : (.fieldLink RX7 7 "TallowIndex$View" "number" "I" : Cond) ∈ WA := WA_of (tb_3 226 rfl) rfl
theorem q294 : (.fieldLink RX7 13 "TallowIndex$View" "present" "LTallowIndex$Row;" : Cond) ∈ WA := WA_of (tb_3 228 rfl) rfl
theorem q295 : (.fieldLink RX7 17 "TallowIndex$View" "count" "I" : Cond) ∈ WA := WA_of (tb_3 229 rfl) rfl
theorem q296 : (.methodLink RX5 1 objectInit : Cond) ∈ WA := WA_of (tb_2 96 rfl) rfl
theorem q297 : (.fieldLink RX5 7 "TallowIndex$Step" "kind" "C" : Cond) ∈ WA := WA_of (tb_2 97 rfl) rfl
theorem q298 : (.fieldLink RX5 13 "TallowIndex$Step" "first" "I" : Cond) ∈ WA := WA_of (tb_2 98 rfl) rfl
theorem q299 : (.fieldLink RX5 17 "TallowIndex$Step" "second" "I" : Cond) ∈ WA := WA_of (tb_2 99 rfl) rfl
theorem q300 : (.methodLink RX1 3 objectInit : Cond) ∈ WA := WA_of (tb_4 50 rfl) rfl
theorem q301 : (.fieldLink RX1 9 "TallowIndex$Query" "kind" "C" : Cond) ∈ WA := WA_of (tb_4 51 rfl) rfl
theorem q302 : (.fieldLink RX1 15 "TallowIndex$Query" "first" "I" : Cond) ∈ WA := WA_of (tb_4 52 rfl) rfl
theorem q303 : (.fieldLink RX1 19 "TallowIndex$Query" "second" "I" : Cond) ∈ WA := WA_of (tb_4 54 rfl) rfl
theorem q304 : (.fieldLink RX1 22 "TallowIndex$Query" "distance" "I" : Cond) ∈ WA := WA_of (tb_4 56 rfl) rfl
theorem q305 : (.fieldLink RX1 25 "TallowIndex$Query" "weight" "I" : Cond) ∈ WA := WA_of (tb_4 57 rfl) rfl
theorem q306 : (.fieldLink RX1 28 "TallowIndex$Query" "wordQueries" "I" : Cond) ∈ WA := WA_of (tb_4 58 rfl) rfl
theorem q307 : (.methodLink RX4 3 objectInit : Cond) ∈ WA := WA_of (tb_1 69 rfl) rfl
theorem q308 : (.classLink RX4 9 RX2 : Cond) ∈ WA := WA_of (tb_1 70 rfl) rfl
theorem q309 : (.methodLink RX4 11 yX2_init : Cond) ∈ WA := WA_of (tb_1 72 rfl) rfl
theorem q310 : (.methodLink RX3 3 objectInit : Cond) ∈ WA := WA_of (tb_1 102 rfl) rfl
theorem q311 : (.classLink RX3 9 RX2 : Cond) ∈ WA := WA_of (tb_1 103 rfl) rfl
theorem q312 : (.methodLink RX3 11 yX2_init : Cond) ∈ WA := WA_of (tb_1 104 rfl) rfl
theorem q313 : (.fieldLink RX3 14 "TallowIndex$Search" "parts" "LTallowIndex$Row;" : Cond) ∈ WA := WA_of (tb_1 105 rfl) rfl
theorem q314 : (.fieldLink RX3 20 "TallowIndex$Search" "times" "LTallowIndex$Row;" : Cond) ∈ WA := WA_of (tb_1 106 rfl) rfl
theorem q315 : (.fieldLink RX3 23 "TallowIndex$Search" "scores" "LTallowIndex$Row;" : Cond) ∈ WA := WA_of (tb_1 107 rfl) rfl
theorem q316 : (.fieldLink RX3 26 "TallowIndex$Search" "ranks" "LTallowIndex$Row;" : Cond) ∈ WA := WA_of (tb_1 108 rfl) rfl
theorem q317 : (.fieldLink RX3 29 "TallowIndex$Search" "order" "LTallowIndex$Row;" : Cond) ∈ WA := WA_of (tb_1 109 rfl) rfl
theorem q318 : (.fieldLink RX3 32 "TallowIndex$Search" "marks" "LTallowIndex$Row;" : Cond) ∈ WA := WA_of (tb_1 110 rfl) rfl
theorem q319 : (.methodLink RX8 3 objectInit : Cond) ∈ WA := WA_of (tb_1 35 rfl) rfl
theorem q320 : (.classLink RX8 9 RJx4a65c : Cond) ∈ WA := WA_of (tb_1 38 rfl) rfl
theorem q321 : (.instantiable RJx4a65c 3 : Cond) ∈ WA := WA_of (tb_1 39 rfl) rfl
theorem q322 : (.initialized RJx4a65c : Cond) ∈ WA := WA_of (tb_1 4 rfl) rfl
theorem q323 : (.code yJx4a65c_init_da8c8 cJx4a65c_init_da8c8 1 none : Cond) ∈ WA := WA_of (tb_1 42 rfl) rfl
theorem q324 : (.methodLink RX8 11 yJx4a65c_init_da8c8 : Cond) ∈ WA := WA_of (tb_1 40 rfl) rfl
theorem q325 : (.instanceMethod yJx4a65c_init_da8c8 : Cond) ∈ WA := WA_of (tb_1 41 rfl) rfl
theorem q326 : (.fieldLink RX8 12 "TallowIndex" "steps" "Ljava/util/ArrayList;" : Cond) ∈ WA := WA_of (tb_1 131 rfl) rfl
theorem q327 : (.fieldLink RX8 16 "TallowIndex" "documents" "Ljava/util/ArrayList;" : Cond) ∈ WA := WA_of (tb_1 132 rfl) rfl
theorem q328 : (.fieldLink RX8 19 "TallowIndex" "views" "Ljava/util/ArrayList;" : Cond) ∈ WA := WA_of (tb_1 133 rfl) rfl
theorem q329 : (.fieldLink RX8 22 "TallowIndex" "queries" "Ljava/util/ArrayList;" : Cond) ∈ WA := WA_of (tb_1 134 rfl) rfl
theorem q330 : (.classLink RX8 25 RX4 : Cond) ∈ WA := WA_of (tb_1 64 rfl) rfl
theorem q331 : (.instantiable RX4 4 : Cond) ∈ WA := WA_of (tb_1 65 rfl) rfl
theorem q332 : (.code yX4_init cX4_init 1 none : Cond) ∈ WA := WA_of (tb_1 68 rfl) rfl
theorem q333 : (.instanceMethod yX4_init : Cond) ∈ WA := WA_of (tb_1 67 rfl) rfl
theorem q334 : (.fieldLink RX8 28 "TallowIndex" "shelf" "LTallowIndex$Shelf;" : Cond) ∈ WA := WA_of (tb_1 135 rfl) rfl
theorem q335 : (.fieldLink RX8 32 "TallowIndex" "committed" "LTallowIndex$Shelf;" : Cond) ∈ WA := WA_of (tb_1 136 rfl) rfl
theorem q336 : (.classLink RX8 35 RX2 : Cond) ∈ WA := WA_of (tb_1 95 rfl) rfl
theorem q337 : (.methodLink RX8 37 yX2_init : Cond) ∈ WA := WA_of (tb_1 96 rfl) rfl
theorem q338 : (.fieldLink RX8 40 "TallowIndex" "replica" "LTallowIndex$Row;" : Cond) ∈ WA := WA_of (tb_1 137 rfl) rfl
theorem q339 : (.classLink RX8 44 RX3 : Cond) ∈ WA := WA_of (tb_1 97 rfl) rfl
theorem q340 : (.instantiable RX3 8 : Cond) ∈ WA := WA_of (tb_1 98 rfl) rfl
theorem q341 : (.initialized RX3 : Cond) ∈ WA := WA_of (tb_1 7 rfl) rfl
theorem q342 : (.code yX3_init cX3_init 1 none : Cond) ∈ WA := WA_of (tb_1 101 rfl) rfl
theorem q343 : (.instanceMethod yX3_init : Cond) ∈ WA := WA_of (tb_1 100 rfl) rfl
theorem q344 : (.fieldLink RX8 47 "TallowIndex" "search" "LTallowIndex$Search;" : Cond) ∈ WA := WA_of (tb_1 138 rfl) rfl
theorem q345 : (.code yX8_isWord cX8_isWord 1 (some .boolean) : Cond) ∈ WA := WA_of (tb_2 3 rfl) rfl
theorem q346 : (.initialized RX8 : Cond) ∈ WA := WA_of (tb_1 1 rfl) rfl
theorem q347 : (.static yX8_isWord : Cond) ∈ WA := WA_of (tb_2 2 rfl) rfl
theorem znM_3 {U : State} (h : ZS U) : va_Nw (.methodLinkNest "TallowIndex$Document" 9 yX6_init "TallowIndex") U := h.2.2.2.1 ("TallowIndex$Document", 9, yX6_init, "TallowIndex") (List.mem_of_getElem? (i := 3) rfl)
theorem znM_0 {U : State} (h : ZS U) : va_Nw (.methodLinkNest "TallowIndex" 27 yX4_init "TallowIndex") U := h.2.2.2.1 ("TallowIndex", 27, yX4_init, "TallowIndex") (List.mem_of_getElem? (i := 0) rfl)
theorem znM_1 {U : State} (h : ZS U) : va_Nw (.methodLinkNest "TallowIndex" 46 yX3_init "TallowIndex") U := h.2.2.2.1 ("TallowIndex", 46, yX3_init, "TallowIndex") (List.mem_of_getElem? (i := 1) rfl)
theorem znM_2 {U : State} (h : ZS U) : va_Nw (.methodLinkNest "TallowIndex$Step" 20 yX8_isWord "TallowIndex") U := h.2.2.2.1 ("TallowIndex$Step", 20, yX8_isWord, "TallowIndex") (List.mem_of_getElem? (i := 2) rfl)
theorem znM_4 {U : State} (h : ZS U) : va_Nw (.methodLinkNest "TallowIndex$Query" 31 yX8_isWord "TallowIndex") U := h.2.2.2.1 ("TallowIndex$Query", 31, yX8_isWord, "TallowIndex") (List.mem_of_getElem? (i := 4) rfl)
theorem nle_lt {x y : Int32} (h : ¬ x ≤ y) : y < x := Int32.not_le.mp h
theorem rgF_nat {n k : Nat} {f : Nat → Int32} (hk : k < n) (hn : n < 2 ^ 31) : rgF n f (nI k) = f k := by
  unfold rgF
  rw [if_neg (nI_pos (by omega)), if_neg (nI_ge hk hn), nI_clamp (by omega)]
set_option maxHeartbeats 4000000 in
set_option maxRecDepth 100000 in
theorem i_ac (l : Launch) (D : va_G) (dA : Nat → ClassId) (E : Nat) (h : Nat) (sz : Nat)   : Met l yJxa1e45_init_da8c8 (wq (.code yJxa1e45_init_da8c8 cJxa1e45_init_da8c8 1 none)) { frames := 1, cells := 0, slots := 0, locals := 12 } (va_Pc [.ref h] (PcB D dA E [] sz)) (va_Qv (fun (u : Unit) => True) (fun u t => va_P D vwCl [] t.heap ∧ va_D (va_A [] sz) []) (va_A [] sz)) 0 0 (va_A [] sz) := by
  refine mb_of (Qc := fun A => va_Qv (fun (u : Unit) => True) (fun u t => va_P D vwCl [] t.heap ∧ va_D A []) A) RJxa1e45 rfl (by decide) (Nat.le_of_ble_eq_true rfl) ?_
  intro p e s m args below meth c hae hx hb hr hts hown hlocks hml hnm hP hK A hAe hD hZ hS hA ls hl
  replace hl : lv_has ls 1 [(0, .ref h)] := hl
  refine lv_aload_n hx hb dJxa1e45_init_da8c8_0 rfl (lv_at hl 0 rfl) ?_
  refine W.objInit hx hb hown (hts _ q262) (hts _ q263) (hts _ q264) rfl (by rw [hml]; exact hl.1) rfl dJxa1e45_init_da8c8_1 (Nat.le_of_ble_eq_true rfl) (Nat.le_of_ble_eq_true rfl) ?_
  refine W.eq (g2 := F0 m 4 ls []) rfl ?_
  refine W.widen (k := 0) (n := 0) (Nat.le_of_ble_eq_true rfl) (Nat.le_of_ble_eq_true rfl) ?_
  have hP9 := hP.sub (ws' := []) [] rfl
  have hD9 := hD.sub (ws' := []) [] (by decide) rfl
  exact W.vret hx hb hr (fun t ht hW => ⟨⟨(), rfl, trivial, ⟨by rw [ht]; exact hP9, hD9⟩⟩, hS.F ht⟩) hS.2.2 dJxa1e45_init_da8c8_4

set_option maxHeartbeats 4000000 in
set_option maxRecDepth 100000 in
theorem i_al (l : Launch) (D : va_G) (dA : Nat → ClassId) (E : Nat) (h : Nat) (sz : Nat)   : Met l yJxc12de_init_da8c8 (wq (.code yJxc12de_init_da8c8 cJxc12de_init_da8c8 1 none)) { frames := 2, cells := 0, slots := 0, locals := 32 } (va_Pc [.ref h] (PcB D dA E [(h, .inr (2, [.int 0, .null, .int 0]))] sz)) (va_Qv (fun (u : Unit) => True) (fun u t => va_P D vwCl [(h, .inr (2, [.int 0, .null, .int 0]))] t.heap ∧ va_D (va_A [(h, .inr (2, [.int 0, .null, .int 0]))] sz) [(h, .inr (2, [.int 0, .null, .int 0]))]) (va_A [(h, .inr (2, [.int 0, .null, .int 0]))] sz)) 0 0 (va_A [(h, .inr (2, [.int 0, .null, .int 0]))] sz) := by
  refine mb_of (Qc := fun A => va_Qv (fun (u : Unit) => True) (fun u t => va_P D vwCl [(h, .inr (2, [.int 0, .null, .int 0]))] t.heap ∧ va_D A [(h, .inr (2, [.int 0, .null, .int 0]))]) A) RJxc12de rfl (by decide) (Nat.le_of_ble_eq_true rfl) ?_
  intro p e s m args below meth c hae hx hb hr hts hown hlocks hml hnm hP hK A hAe hD hZ hS hA ls hl
  replace hl : lv_has ls 1 [(0, .ref h)] := hl
  refine lv_aload_n hx hb dJxc12de_init_da8c8_0 rfl (lv_at hl 0 rfl) ?_
  replace hPc := hP.sub (ws' := []) [] rfl
  replace hDc := hD.sub (ws' := []) [] (by decide) rfl
  replace hFc := va_free (wc := []) hD hS hA [] rfl
  refine va_callv (va_runI (As := []) (rest := []) ⟨hx, hb, hml, hown, hts⟩ (i_ac l D dA E h s.heap.size ) (cwI 0 hts (ga_I q265) rfl rfl rfl (hts _ q266) (hts _ q267) (hts _ q268) rfl (by decide +kernel) ⟨(Nat.le_of_ble_eq_true rfl), (Nat.le_of_ble_eq_true rfl)⟩) ⟨pb_blind, pb_pre hK hPc hDc hZ hS hFc _⟩ rfl rfl hl.1 rfl (lv_room (Nat.le_of_ble_eq_true rfl)) dJxc12de_init_da8c8_1 ⟨(Nat.le_of_ble_eq_true rfl), (Nat.le_of_ble_eq_true rfl)⟩) hS (fun q _ h => hFc q h) hFc (fun u t H1 locs ht hvm hw hB hz1 hk1 hS => ?_)
  refine W.widen (k := 0) (n := 0) (Nat.le_of_ble_eq_true rfl) (Nat.le_of_ble_eq_true rfl) ?_
  obtain ⟨u1, rfl⟩ : ∃ z, z = u := ⟨_, rfl⟩
  have hw2 := hw
  clear hw
  obtain ⟨hP1, hD1⟩ := hB
  rw [ht] at hP1
  obtain ⟨hP, hD⟩ := va_join (wr := [(h, .inr (2, [.int 0, .null, .int 0]))]) (w1 := []) hP hD [] [0] rfl rfl (by decide) (by decide) hk1 hFc hP1 hD1
  generalize H1 = H at hP hS ⊢
  replace hP : va_P D vwCl [(h, .inr (2, [.int 0, .null, .int 0]))] H := hP
  replace hD : va_D A [(h, .inr (2, [.int 0, .null, .int 0]))] := hD
  refine lv_aload_n hx hb dJxc12de_init_da8c8_4 rfl (lv_at hl 0 rfl) ?_
  refine lv_iconst (v := 0) hx hb dJxc12de_init_da8c8_5 (by decide) ?_
  refine va_put (D := D) (ci := 2) (v := .int 0) (ty := .int) (C := RJx4a65c) (T := TJx4a65c) (N := 3) hx hb hts inAJx4a65c tyJx4a65c tyJx4a65c_ok nmJx4a65c hown hK hP hD hS 0 rfl rfl 0 (by decide) (hts _ q269) (fun _ h9 => h9) rfl (tyJx4a65c_ok 0 (by decide)) rfl rfl (Nat.le_of_ble_eq_true rfl) dJxc12de_init_da8c8_6 (fun H locs hP hD hS => ?_)
  replace hP : va_P D vwCl [(h, .inr (2, [.int 0, .null, .int 0]))] H := hP
  replace hD : va_D A [(h, .inr (2, [.int 0, .null, .int 0]))] := hD
  refine W.widen (k := 0) (n := 0) (Nat.le_of_ble_eq_true rfl) (Nat.le_of_ble_eq_true rfl) ?_
  have hP9 := hP.sub (ws' := [(h, .inr (2, [.int 0, .null, .int 0]))]) [0] rfl
  have hD9 := hD.sub (ws' := [(h, .inr (2, [.int 0, .null, .int 0]))]) [0] (by decide) rfl
  exact W.vret hx hb hr (fun t ht hW => ⟨⟨(), rfl, trivial, ⟨by rw [ht]; exact hP9, hD9⟩⟩, hS.F ht⟩) hS.2.2 dJxc12de_init_da8c8_9

set_option maxHeartbeats 4000000 in
set_option maxRecDepth 100000 in
theorem i_list (l : Launch) (D : va_G) (dA : Nat → ClassId) (E : Nat) (h : Nat) (sz : Nat)   : Met l yJx4a65c_init_da8c8 (wq (.code yJx4a65c_init_da8c8 cJx4a65c_init_da8c8 1 none)) { frames := 3, cells := 0, slots := 0, locals := 52 } (va_Pc [.ref h] (PcB D dA E [(h, .inr (2, [.int 0, .null, .int 0]))] sz)) (va_Qv (fun (u : Unit) => True) (fun u t => va_P D vwCl [(h, .inr (2, [.int 0, .ref E, .int 0]))] t.heap ∧ va_D (va_A [(h, .inr (2, [.int 0, .null, .int 0]))] sz) [(h, .inr (2, [.int 0, .ref E, .int 0]))]) (va_A [(h, .inr (2, [.int 0, .null, .int 0]))] sz)) 0 0 (va_A [(h, .inr (2, [.int 0, .null, .int 0]))] sz) := by
  refine mb_of (Qc := fun A => va_Qv (fun (u : Unit) => True) (fun u t => va_P D vwCl [(h, .inr (2, [.int 0, .ref E, .int 0]))] t.heap ∧ va_D A [(h, .inr (2, [.int 0, .ref E, .int 0]))]) A) RJx4a65c rfl (by decide) (Nat.le_of_ble_eq_true rfl) ?_
  intro p e s m args below meth c hae hx hb hr hts hown hlocks hml hnm hP hK A hAe hD hZ hS hA ls hl
  replace hl : lv_has ls 1 [(0, .ref h)] := hl
  refine lv_aload_n hx hb dJx4a65c_init_da8c8_0 rfl (lv_at hl 0 rfl) ?_
  replace hPc := hP.sub (ws' := [(h, .inr (2, [.int 0, .null, .int 0]))]) [0] rfl
  replace hDc := hD.sub (ws' := [(h, .inr (2, [.int 0, .null, .int 0]))]) [0] (by decide) rfl
  replace hFc := va_free (wc := [(h, .inr (2, [.int 0, .null, .int 0]))]) hD hS hA [0] rfl
  refine va_callv (va_runI (As := []) (rest := []) ⟨hx, hb, hml, hown, hts⟩ (i_al l D dA E h s.heap.size ) (cwI 0 hts (ga_I q270) rfl rfl rfl (hts _ q271) (hts _ q272) (hts _ q273) rfl (by decide +kernel) ⟨(Nat.le_of_ble_eq_true rfl), (Nat.le_of_ble_eq_true rfl)⟩) ⟨pb_blind, pb_pre hK hPc hDc hZ hS hFc _⟩ rfl rfl hl.1 rfl (lv_room (Nat.le_of_ble_eq_true rfl)) dJx4a65c_init_da8c8_1 ⟨(Nat.le_of_ble_eq_true rfl), (Nat.le_of_ble_eq_true rfl)⟩) hS (fun q _ h => hFc q h) hFc (fun u t H1 locs ht hvm hw hB hz1 hk1 hS => ?_)
  refine W.widen (k := 0) (n := 0) (Nat.le_of_ble_eq_true rfl) (Nat.le_of_ble_eq_true rfl) ?_
  obtain ⟨u1, rfl⟩ : ∃ z, z = u := ⟨_, rfl⟩
  have hw2 := hw
  clear hw
  obtain ⟨hP1, hD1⟩ := hB
  rw [ht] at hP1
  obtain ⟨hP, hD⟩ := va_join (wr := []) (w1 := [(h, .inr (2, [.int 0, .null, .int 0]))]) hP hD [0] [] rfl rfl (by decide) (by decide) hk1 hFc hP1 hD1
  generalize H1 = H at hP hS ⊢
  replace hP : va_P D vwCl [(h, .inr (2, [.int 0, .null, .int 0]))] H := hP
  replace hD : va_D A [(h, .inr (2, [.int 0, .null, .int 0]))] := hD
  refine lv_aload_n hx hb dJx4a65c_init_da8c8_4 rfl (lv_at hl 0 rfl) ?_
  refine va_gets hx hb hZ.2.2.2.1 hS hown (hts _ q274) (fun _ h9 => h9) dJx4a65c_init_da8c8_5 ?_
  refine va_put (D := D) (ci := 2) (v := .ref E) (ty := .array (.object "java/lang/Object")) (C := RJx4a65c) (T := TJx4a65c) (N := 3) hx hb hts inAJx4a65c tyJx4a65c tyJx4a65c_ok nmJx4a65c hown hK hP hD hS 0 rfl rfl 1 (by decide) (hts _ q275) (fun _ h9 => h9) rfl (tyJx4a65c_ok 1 (by decide)) rfl rfl (Nat.le_of_ble_eq_true rfl) dJx4a65c_init_da8c8_8 (fun H locs hP hD hS => ?_)
  replace hP : va_P D vwCl [(h, .inr (2, [.int 0, .ref E, .int 0]))] H := hP
  replace hD : va_D A [(h, .inr (2, [.int 0, .ref E, .int 0]))] := hD
  refine W.widen (k := 0) (n := 0) (Nat.le_of_ble_eq_true rfl) (Nat.le_of_ble_eq_true rfl) ?_
  have hP9 := hP.sub (ws' := [(h, .inr (2, [.int 0, .ref E, .int 0]))]) [0] rfl
  have hD9 := hD.sub (ws' := [(h, .inr (2, [.int 0, .ref E, .int 0]))]) [0] (by decide) rfl
  exact W.vret hx hb hr (fun t ht hW => ⟨⟨(), rfl, trivial, ⟨by rw [ht]; exact hP9, hD9⟩⟩, hS.F ht⟩) hS.2.2 dJx4a65c_init_da8c8_11

set_option maxHeartbeats 4000000 in
set_option maxRecDepth 100000 in
theorem i_Row_12 (l : Launch) (D : va_G) (dA : Nat → ClassId) (E : Nat) (h : Nat) (sz : Nat)   : Met l yX2_init (wq (.code yX2_init cX2_init 2 none)) { frames := 1, cells := 1, slots := 12, locals := 12 } (va_Pc [.ref h, .int 12] (PcB D dA E [(h, .inr (5, [.null]))] sz)) (va_Qv (fun (u : Nat) => True) (fun u t => va_P D vwCl [(h, .inr (5, [.ref u])), (u, .inl (dA 0, 12, .inl (fun _ => 0)))] t.heap ∧ va_D (va_A [(h, .inr (5, [.null]))] sz) [(h, .inr (5, [.ref u])), (u, .inl (dA 0, 12, .inl (fun _ => 0)))]) (va_A [(h, .inr (5, [.null]))] sz)) 1 12 (va_A [(h, .inr (5, [.null]))] sz) := by
  refine mb_of (Qc := fun A => va_Qv (fun (u : Nat) => True) (fun u t => va_P D vwCl [(h, .inr (5, [.ref u])), (u, .inl (dA 0, 12, .inl (fun _ => 0)))] t.heap ∧ va_D A [(h, .inr (5, [.ref u])), (u, .inl (dA 0, 12, .inl (fun _ => 0)))]) A) RX2 rfl (by decide) (Nat.le_of_ble_eq_true rfl) ?_
  intro p e s m args below meth c hae hx hb hr hts hown hlocks hml hnm hP hK A hAe hD hZ hS hA ls hl
  replace hl : lv_has ls 2 [(0, .ref h), (1, .int 12)] := hl
  refine lv_aload_n hx hb dX2_init_0 rfl (lv_at hl 0 rfl) ?_
  refine W.objInit hx hb hown (hts _ q276) (hts _ q263) (hts _ q264) rfl (by rw [hml]; exact hl.1) rfl dX2_init_1 (Nat.le_of_ble_eq_true rfl) (Nat.le_of_ble_eq_true rfl) ?_
  refine W.eq (g2 := F0 m 4 ls []) rfl ?_
  refine lv_aload_n hx hb dX2_init_4 rfl (lv_at hl 0 rfl) ?_
  refine lv_iload_n hx hb dX2_init_5 rfl (lv_at hl 1 rfl) ?_
  refine lv_if_ge (tgt := 13) hx hb dX2_init_6 (by decide) (fun _ => ?_) (fun c1 => absurd (by decide) c1)
  refine lv_iload_n hx hb dX2_init_13 rfl (lv_at hl 1 rfl) ?_
  refine va_newa (atype := .int) (ty := .int) (N' := 12) (a0 := (12, .inl (fun _ => 0))) hx hb (hts _ q277) rfl hK hP hD hS hA (fun _ => rfl) (by decide) (by decide) (by decide) (Nat.le_of_ble_eq_true rfl) (Nat.le_of_ble_eq_true rfl) dX2_init_14 (fun q2 cAq2 H hKn hP hD hS => ?_)
  obtain rfl : cAq2 = dA 0 := ty_eq 0 hKn rfl
  replace hP : va_P D vwCl [(h, .inr (5, [.null])), (q2, .inl (dA 0, 12, .inl (fun _ => 0)))] H := hP
  replace hD : va_D A [(h, .inr (5, [.null])), (q2, .inl (dA 0, 12, .inl (fun _ => 0)))] := hD
  refine W.widen (k := 1) (n := 12) (Nat.le_of_ble_eq_true rfl) (Nat.le_of_ble_eq_true rfl) ?_
  refine va_putF (D := D) (ci := 5) (v := .ref q2) (ty := .array .int) (C := RX2) (T := TX2) (N := 1) hx hb hts inAX2 tyX2 tyX2_ok nmX2 hown hK hP hD hS 0 rfl rfl 0 (by decide) (hts _ q199) (fun _ h9 => h9) rfl hnm rfl (tyX2_ok 0 (by decide)) rfl rfl (Nat.le_of_ble_eq_true rfl) dX2_init_16 (fun H locs hP hD hS => ?_)
  replace hP : va_P D vwCl [(h, .inr (5, [.ref q2])), (q2, .inl (dA 0, 12, .inl (fun _ => 0)))] H := hP
  replace hD : va_D A [(h, .inr (5, [.ref q2])), (q2, .inl (dA 0, 12, .inl (fun _ => 0)))] := hD
  refine W.widen (k := 1) (n := 12) (Nat.le_of_ble_eq_true rfl) (Nat.le_of_ble_eq_true rfl) ?_
  have hP9 := hP.sub (ws' := [(h, .inr (5, [.ref q2])), (q2, .inl (dA 0, 12, .inl (fun _ => 0)))]) [0, 1] rfl
  have hD9 := hD.sub (ws' := [(h, .inr (5, [.ref q2])), (q2, .inl (dA 0, 12, .inl (fun _ => 0)))]) [0, 1] (by decide) rfl
  exact W.vret hx hb hr (fun t ht hW => ⟨⟨q2, rfl, trivial, ⟨by rw [ht]; exact hP9, hD9⟩⟩, hS.F ht⟩) hS.2.2 dX2_init_19

set_option maxHeartbeats 4000000 in
set_option maxRecDepth 100000 in
theorem i_Row_30 (l : Launch) (D : va_G) (dA : Nat → ClassId) (E : Nat) (h : Nat) (sz : Nat)   : Met l yX2_init (wq (.code yX2_init cX2_init 2 none)) { frames := 1, cells := 1, slots := 30, locals := 12 } (va_Pc [.ref h, .int 30] (PcB D dA E [(h, .inr (5, [.null]))] sz)) (va_Qv (fun (u : Nat) => True) (fun u t => va_P D vwCl [(h, .inr (5, [.ref u])), (u, .inl (dA 0, 30, .inl (fun _ => 0)))] t.heap ∧ va_D (va_A [(h, .inr (5, [.null]))] sz) [(h, .inr (5, [.ref u])), (u, .inl (dA 0, 30, .inl (fun _ => 0)))]) (va_A [(h, .inr (5, [.null]))] sz)) 1 30 (va_A [(h, .inr (5, [.null]))] sz) := by
  refine mb_of (Qc := fun A => va_Qv (fun (u : Nat) => True) (fun u t => va_P D vwCl [(h, .inr (5, [.ref u])), (u, .inl (dA 0, 30, .inl (fun _ => 0)))] t.heap ∧ va_D A [(h, .inr (5, [.ref u])), (u, .inl (dA 0, 30, .inl (fun _ => 0)))]) A) RX2 rfl (by decide) (Nat.le_of_ble_eq_true rfl) ?_
  intro p e s m args below meth c hae hx hb hr hts hown hlocks hml hnm hP hK A hAe hD hZ hS hA ls hl
  replace hl : lv_has ls 2 [(0, .ref h), (1, .int 30)] := hl
  refine lv_aload_n hx hb dX2_init_0 rfl (lv_at hl 0 rfl) ?_
  refine W.objInit hx hb hown (hts _ q276) (hts _ q263) (hts _ q264) rfl (by rw [hml]; exact hl.1) rfl dX2_init_1 (Nat.le_of_ble_eq_true rfl) (Nat.le_of_ble_eq_true rfl) ?_
  refine W.eq (g2 := F0 m 4 ls []) rfl ?_
  refine lv_aload_n hx hb dX2_init_4 rfl (lv_at hl 0 rfl) ?_
  refine lv_iload_n hx hb dX2_init_5 rfl (lv_at hl 1 rfl) ?_
  refine lv_if_ge (tgt := 13) hx hb dX2_init_6 (by decide) (fun _ => ?_) (fun c1 => absurd (by decide) c1)
  refine lv_iload_n hx hb dX2_init_13 rfl (lv_at hl 1 rfl) ?_
  refine va_newa (atype := .int) (ty := .int) (N' := 30) (a0 := (30, .inl (fun _ => 0))) hx hb (hts _ q277) rfl hK hP hD hS hA (fun _ => rfl) (by decide) (by decide) (by decide) (Nat.le_of_ble_eq_true rfl) (Nat.le_of_ble_eq_true rfl) dX2_init_14 (fun q2 cAq2 H hKn hP hD hS => ?_)
  obtain rfl : cAq2 = dA 0 := ty_eq 0 hKn rfl
  replace hP : va_P D vwCl [(h, .inr (5, [.null])), (q2, .inl (dA 0, 30, .inl (fun _ => 0)))] H := hP
  replace hD : va_D A [(h, .inr (5, [.null])), (q2, .inl (dA 0, 30, .inl (fun _ => 0)))] := hD
  refine W.widen (k := 1) (n := 30) (Nat.le_of_ble_eq_true rfl) (Nat.le_of_ble_eq_true rfl) ?_
  refine va_putF (D := D) (ci := 5) (v := .ref q2) (ty := .array .int) (C := RX2) (T := TX2) (N := 1) hx hb hts inAX2 tyX2 tyX2_ok nmX2 hown hK hP hD hS 0 rfl rfl 0 (by decide) (hts _ q199) (fun _ h9 => h9) rfl hnm rfl (tyX2_ok 0 (by decide)) rfl rfl (Nat.le_of_ble_eq_true rfl) dX2_init_16 (fun H locs hP hD hS => ?_)
  replace hP : va_P D vwCl [(h, .inr (5, [.ref q2])), (q2, .inl (dA 0, 30, .inl (fun _ => 0)))] H := hP
  replace hD : va_D A [(h, .inr (5, [.ref q2])), (q2, .inl (dA 0, 30, .inl (fun _ => 0)))] := hD
  refine W.widen (k := 1) (n := 30) (Nat.le_of_ble_eq_true rfl) (Nat.le_of_ble_eq_true rfl) ?_
  have hP9 := hP.sub (ws' := [(h, .inr (5, [.ref q2])), (q2, .inl (dA 0, 30, .inl (fun _ => 0)))]) [0, 1] rfl
  have hD9 := hD.sub (ws' := [(h, .inr (5, [.ref q2])), (q2, .inl (dA 0, 30, .inl (fun _ => 0)))]) [0, 1] (by decide) rfl
  exact W.vret hx hb hr (fun t ht hW => ⟨⟨q2, rfl, trivial, ⟨by rw [ht]; exact hP9, hD9⟩⟩, hS.F ht⟩) hS.2.2 dX2_init_19

set_option maxHeartbeats 4000000 in
set_option maxRecDepth 100000 in
theorem i_Row_40 (l : Launch) (D : va_G) (dA : Nat → ClassId) (E : Nat) (h : Nat) (sz : Nat)   : Met l yX2_init (wq (.code yX2_init cX2_init 2 none)) { frames := 1, cells := 1, slots := 40, locals := 12 } (va_Pc [.ref h, .int 40] (PcB D dA E [(h, .inr (5, [.null]))] sz)) (va_Qv (fun (u : Nat) => True) (fun u t => va_P D vwCl [(h, .inr (5, [.ref u])), (u, .inl (dA 0, 40, .inl (fun _ => 0)))] t.heap ∧ va_D (va_A [(h, .inr (5, [.null]))] sz) [(h, .inr (5, [.ref u])), (u, .inl (dA 0, 40, .inl (fun _ => 0)))]) (va_A [(h, .inr (5, [.null]))] sz)) 1 40 (va_A [(h, .inr (5, [.null]))] sz) := by
  refine mb_of (Qc := fun A => va_Qv (fun (u : Nat) => True) (fun u t => va_P D vwCl [(h, .inr (5, [.ref u])), (u, .inl (dA 0, 40, .inl (fun _ => 0)))] t.heap ∧ va_D A [(h, .inr (5, [.ref u])), (u, .inl (dA 0, 40, .inl (fun _ => 0)))]) A) RX2 rfl (by decide) (Nat.le_of_ble_eq_true rfl) ?_
  intro p e s m args below meth c hae hx hb hr hts hown hlocks hml hnm hP hK A hAe hD hZ hS hA ls hl
  replace hl : lv_has ls 2 [(0, .ref h), (1, .int 40)] := hl
  refine lv_aload_n hx hb dX2_init_0 rfl (lv_at hl 0 rfl) ?_
  refine W.objInit hx hb hown (hts _ q276) (hts _ q263) (hts _ q264) rfl (by rw [hml]; exact hl.1) rfl dX2_init_1 (Nat.le_of_ble_eq_true rfl) (Nat.le_of_ble_eq_true rfl) ?_
  refine W.eq (g2 := F0 m 4 ls []) rfl ?_
  refine lv_aload_n hx hb dX2_init_4 rfl (lv_at hl 0 rfl) ?_
  refine lv_iload_n hx hb dX2_init_5 rfl (lv_at hl 1 rfl) ?_
  refine lv_if_ge (tgt := 13) hx hb dX2_init_6 (by decide) (fun _ => ?_) (fun c1 => absurd (by decide) c1)
  refine lv_iload_n hx hb dX2_init_13 rfl (lv_at hl 1 rfl) ?_
  refine va_newa (atype := .int) (ty := .int) (N' := 40) (a0 := (40, .inl (fun _ => 0))) hx hb (hts _ q277) rfl hK hP hD hS hA (fun _ => rfl) (by decide) (by decide) (by decide) (Nat.le_of_ble_eq_true rfl) (Nat.le_of_ble_eq_true rfl) dX2_init_14 (fun q2 cAq2 H hKn hP hD hS => ?_)
  obtain rfl : cAq2 = dA 0 := ty_eq 0 hKn rfl
  replace hP : va_P D vwCl [(h, .inr (5, [.null])), (q2, .inl (dA 0, 40, .inl (fun _ => 0)))] H := hP
  replace hD : va_D A [(h, .inr (5, [.null])), (q2, .inl (dA 0, 40, .inl (fun _ => 0)))] := hD
  refine W.widen (k := 1) (n := 40) (Nat.le_of_ble_eq_true rfl) (Nat.le_of_ble_eq_true rfl) ?_
  refine va_putF (D := D) (ci := 5) (v := .ref q2) (ty := .array .int) (C := RX2) (T := TX2) (N := 1) hx hb hts inAX2 tyX2 tyX2_ok nmX2 hown hK hP hD hS 0 rfl rfl 0 (by decide) (hts _ q199) (fun _ h9 => h9) rfl hnm rfl (tyX2_ok 0 (by decide)) rfl rfl (Nat.le_of_ble_eq_true rfl) dX2_init_16 (fun H locs hP hD hS => ?_)
  replace hP : va_P D vwCl [(h, .inr (5, [.ref q2])), (q2, .inl (dA 0, 40, .inl (fun _ => 0)))] H := hP
  replace hD : va_D A [(h, .inr (5, [.ref q2])), (q2, .inl (dA 0, 40, .inl (fun _ => 0)))] := hD
  refine W.widen (k := 1) (n := 40) (Nat.le_of_ble_eq_true rfl) (Nat.le_of_ble_eq_true rfl) ?_
  have hP9 := hP.sub (ws' := [(h, .inr (5, [.ref q2])), (q2, .inl (dA 0, 40, .inl (fun _ => 0)))]) [0, 1] rfl
  have hD9 := hD.sub (ws' := [(h, .inr (5, [.ref q2])), (q2, .inl (dA 0, 40, .inl (fun _ => 0)))]) [0, 1] (by decide) rfl
  exact W.vret hx hb hr (fun t ht hW => ⟨⟨q2, rfl, trivial, ⟨by rw [ht]; exact hP9, hD9⟩⟩, hS.F ht⟩) hS.2.2 dX2_init_19

set_option maxHeartbeats 4000000 in
set_option maxRecDepth 100000 in
theorem i_Row_84 (l : Launch) (D : va_G) (dA : Nat → ClassId) (E : Nat) (h : Nat) (sz : Nat)   : Met l yX2_init (wq (.code yX2_init cX2_init 2 none)) { frames := 1, cells := 1, slots := 84, locals := 12 } (va_Pc [.ref h, .int 84] (PcB D dA E [(h, .inr (5, [.null]))] sz)) (va_Qv (fun (u : Nat) => True) (fun u t => va_P D vwCl [(h, .inr (5, [.ref u])), (u, .inl (dA 0, 84, .inl (fun _ => 0)))] t.heap ∧ va_D (va_A [(h, .inr (5, [.null]))] sz) [(h, .inr (5, [.ref u])), (u, .inl (dA 0, 84, .inl (fun _ => 0)))]) (va_A [(h, .inr (5, [.null]))] sz)) 1 84 (va_A [(h, .inr (5, [.null]))] sz) := by
  refine mb_of (Qc := fun A => va_Qv (fun (u : Nat) => True) (fun u t => va_P D vwCl [(h, .inr (5, [.ref u])), (u, .inl (dA 0, 84, .inl (fun _ => 0)))] t.heap ∧ va_D A [(h, .inr (5, [.ref u])), (u, .inl (dA 0, 84, .inl (fun _ => 0)))]) A) RX2 rfl (by decide) (Nat.le_of_ble_eq_true rfl) ?_
  intro p e s m args below meth c hae hx hb hr hts hown hlocks hml hnm hP hK A hAe hD hZ hS hA ls hl
  replace hl : lv_has ls 2 [(0, .ref h), (1, .int 84)] := hl
  refine lv_aload_n hx hb dX2_init_0 rfl (lv_at hl 0 rfl) ?_
  refine W.objInit hx hb hown (hts _ q276) (hts _ q263) (hts _ q264) rfl (by rw [hml]; exact hl.1) rfl dX2_init_1 (Nat.le_of_ble_eq_true rfl) (Nat.le_of_ble_eq_true rfl) ?_
  refine W.eq (g2 := F0 m 4 ls []) rfl ?_
  refine lv_aload_n hx hb dX2_init_4 rfl (lv_at hl 0 rfl) ?_
  refine lv_iload_n hx hb dX2_init_5 rfl (lv_at hl 1 rfl) ?_
  refine lv_if_ge (tgt := 13) hx hb dX2_init_6 (by decide) (fun _ => ?_) (fun c1 => absurd (by decide) c1)
  refine lv_iload_n hx hb dX2_init_13 rfl (lv_at hl 1 rfl) ?_
  refine va_newa (atype := .int) (ty := .int) (N' := 84) (a0 := (84, .inl (fun _ => 0))) hx hb (hts _ q277) rfl hK hP hD hS hA (fun _ => rfl) (by decide) (by decide) (by decide) (Nat.le_of_ble_eq_true rfl) (Nat.le_of_ble_eq_true rfl) dX2_init_14 (fun q2 cAq2 H hKn hP hD hS => ?_)
  obtain rfl : cAq2 = dA 0 := ty_eq 0 hKn rfl
  replace hP : va_P D vwCl [(h, .inr (5, [.null])), (q2, .inl (dA 0, 84, .inl (fun _ => 0)))] H := hP
  replace hD : va_D A [(h, .inr (5, [.null])), (q2, .inl (dA 0, 84, .inl (fun _ => 0)))] := hD
  refine W.widen (k := 1) (n := 84) (Nat.le_of_ble_eq_true rfl) (Nat.le_of_ble_eq_true rfl) ?_
  refine va_putF (D := D) (ci := 5) (v := .ref q2) (ty := .array .int) (C := RX2) (T := TX2) (N := 1) hx hb hts inAX2 tyX2 tyX2_ok nmX2 hown hK hP hD hS 0 rfl rfl 0 (by decide) (hts _ q199) (fun _ h9 => h9) rfl hnm rfl (tyX2_ok 0 (by decide)) rfl rfl (Nat.le_of_ble_eq_true rfl) dX2_init_16 (fun H locs hP hD hS => ?_)
  replace hP : va_P D vwCl [(h, .inr (5, [.ref q2])), (q2, .inl (dA 0, 84, .inl (fun _ => 0)))] H := hP
  replace hD : va_D A [(h, .inr (5, [.ref q2])), (q2, .inl (dA 0, 84, .inl (fun _ => 0)))] := hD
  refine W.widen (k := 1) (n := 84) (Nat.le_of_ble_eq_true rfl) (Nat.le_of_ble_eq_true rfl) ?_
  have hP9 := hP.sub (ws' := [(h, .inr (5, [.ref q2])), (q2, .inl (dA 0, 84, .inl (fun _ => 0)))]) [0, 1] rfl
  have hD9 := hD.sub (ws' := [(h, .inr (5, [.ref q2])), (q2, .inl (dA 0, 84, .inl (fun _ => 0)))]) [0, 1] (by decide) rfl
  exact W.vret hx hb hr (fun t ht hW => ⟨⟨q2, rfl, trivial, ⟨by rw [ht]; exact hP9, hD9⟩⟩, hS.F ht⟩) hS.2.2 dX2_init_19

set_option maxHeartbeats 4000000 in
set_option maxRecDepth 100000 in
theorem i_Row_1200 (l : Launch) (D : va_G) (dA : Nat → ClassId) (E : Nat) (h : Nat) (sz : Nat)   : Met l yX2_init (wq (.code yX2_init cX2_init 2 none)) { frames := 1, cells := 1, slots := 1200, locals := 12 } (va_Pc [.ref h, .int 1200] (PcB D dA E [(h, .inr (5, [.null]))] sz)) (va_Qv (fun (u : Nat) => True) (fun u t => va_P D vwCl [(h, .inr (5, [.ref u])), (u, .inl (dA 0, 1200, .inl (fun _ => 0)))] t.heap ∧ va_D (va_A [(h, .inr (5, [.null]))] sz) [(h, .inr (5, [.ref u])), (u, .inl (dA 0, 1200, .inl (fun _ => 0)))]) (va_A [(h, .inr (5, [.null]))] sz)) 1 1200 (va_A [(h, .inr (5, [.null]))] sz) := by
  refine mb_of (Qc := fun A => va_Qv (fun (u : Nat) => True) (fun u t => va_P D vwCl [(h, .inr (5, [.ref u])), (u, .inl (dA 0, 1200, .inl (fun _ => 0)))] t.heap ∧ va_D A [(h, .inr (5, [.ref u])), (u, .inl (dA 0, 1200, .inl (fun _ => 0)))]) A) RX2 rfl (by decide) (Nat.le_of_ble_eq_true rfl) ?_
  intro p e s m args below meth c hae hx hb hr hts hown hlocks hml hnm hP hK A hAe hD hZ hS hA ls hl
  replace hl : lv_has ls 2 [(0, .ref h), (1, .int 1200)] := hl
  refine lv_aload_n hx hb dX2_init_0 rfl (lv_at hl 0 rfl) ?_
  refine W.objInit hx hb hown (hts _ q276) (hts _ q263) (hts _ q264) rfl (by rw [hml]; exact hl.1) rfl dX2_init_1 (Nat.le_of_ble_eq_true rfl) (Nat.le_of_ble_eq_true rfl) ?_
  refine W.eq (g2 := F0 m 4 ls []) rfl ?_
  refine lv_aload_n hx hb dX2_init_4 rfl (lv_at hl 0 rfl) ?_
  refine lv_iload_n hx hb dX2_init_5 rfl (lv_at hl 1 rfl) ?_
  refine lv_if_ge (tgt := 13) hx hb dX2_init_6 (by decide) (fun _ => ?_) (fun c1 => absurd (by decide) c1)
  refine lv_iload_n hx hb dX2_init_13 rfl (lv_at hl 1 rfl) ?_
  refine va_newa (atype := .int) (ty := .int) (N' := 1200) (a0 := (1200, .inl (fun _ => 0))) hx hb (hts _ q277) rfl hK hP hD hS hA (fun _ => rfl) (by decide) (by decide) (by decide) (Nat.le_of_ble_eq_true rfl) (Nat.le_of_ble_eq_true rfl) dX2_init_14 (fun q2 cAq2 H hKn hP hD hS => ?_)
  obtain rfl : cAq2 = dA 0 := ty_eq 0 hKn rfl
  replace hP : va_P D vwCl [(h, .inr (5, [.null])), (q2, .inl (dA 0, 1200, .inl (fun _ => 0)))] H := hP
  replace hD : va_D A [(h, .inr (5, [.null])), (q2, .inl (dA 0, 1200, .inl (fun _ => 0)))] := hD
  refine W.widen (k := 1) (n := 1200) (Nat.le_of_ble_eq_true rfl) (Nat.le_of_ble_eq_true rfl) ?_
  refine va_putF (D := D) (ci := 5) (v := .ref q2) (ty := .array .int) (C := RX2) (T := TX2) (N := 1) hx hb hts inAX2 tyX2 tyX2_ok nmX2 hown hK hP hD hS 0 rfl rfl 0 (by decide) (hts _ q199) (fun _ h9 => h9) rfl hnm rfl (tyX2_ok 0 (by decide)) rfl rfl (Nat.le_of_ble_eq_true rfl) dX2_init_16 (fun H locs hP hD hS => ?_)
  replace hP : va_P D vwCl [(h, .inr (5, [.ref q2])), (q2, .inl (dA 0, 1200, .inl (fun _ => 0)))] H := hP
  replace hD : va_D A [(h, .inr (5, [.ref q2])), (q2, .inl (dA 0, 1200, .inl (fun _ => 0)))] := hD
  refine W.widen (k := 1) (n := 1200) (Nat.le_of_ble_eq_true rfl) (Nat.le_of_ble_eq_true rfl) ?_
  have hP9 := hP.sub (ws' := [(h, .inr (5, [.ref q2])), (q2, .inl (dA 0, 1200, .inl (fun _ => 0)))]) [0, 1] rfl
  have hD9 := hD.sub (ws' := [(h, .inr (5, [.ref q2])), (q2, .inl (dA 0, 1200, .inl (fun _ => 0)))]) [0, 1] (by decide) rfl
  exact W.vret hx hb hr (fun t ht hW => ⟨⟨q2, rfl, trivial, ⟨by rw [ht]; exact hP9, hD9⟩⟩, hS.F ht⟩) hS.2.2 dX2_init_19
