/-! CONTRACTS -/
theorem q262 : (.methodLink RJxa1e45 1 objectInit : Cond) ∈ WA := WA_of (tb_1 47 rfl) rfl
theorem q263 : (.instanceMethod objectInit : Cond) ∈ WA := WA_of (tb_1 34 rfl) rfl
theorem q264 : (.code objectInit ⟨#[0xb1]⟩ 1 none : Cond) ∈ WA := WA_of (tb_1 35 rfl) rfl
theorem q266 : (.initialized RJxa1e45 : Cond) ∈ WA := WA_of (tb_1 2 rfl) rfl
theorem q267 : (.methodLink RJxc12de 1 yJxa1e45_init_da8c8 : Cond) ∈ WA := WA_of (tb_1 44 rfl) rfl
theorem q268 : (.instanceMethod yJxa1e45_init_da8c8 : Cond) ∈ WA := WA_of (tb_1 45 rfl) rfl
theorem q269 : (.fieldLink RJxc12de 7 "java/util/AbstractList" "modCount" "I" : Cond) ∈ WA := WA_of (tb_1 52 rfl) rfl
theorem q265 : (.code yJxa1e45_init_da8c8 cJxa1e45_init_da8c8 1 none : Cond) ∈ WA := WA_of (tb_1 46 rfl) rfl
theorem q271 : (.initialized RJxc12de : Cond) ∈ WA := WA_of (tb_1 3 rfl) rfl
theorem q272 : (.methodLink RJx4a65c 1 yJxc12de_init_da8c8 : Cond) ∈ WA := WA_of (tb_1 41 rfl) rfl
theorem q273 : (.instanceMethod yJxc12de_init_da8c8 : Cond) ∈ WA := WA_of (tb_1 42 rfl) rfl
theorem q274 : (.fieldLink RJx4a65c 39 "java/util/ArrayList" "DEFAULTCAPACITY_EMPTY_ELEMENTDATA" "[Ljava/lang/Object;" : Cond) ∈ WA := WA_of (tb_1 48 rfl) rfl
theorem q275 : (.fieldLink RJx4a65c 9 "java/util/ArrayList" "elementData" "[Ljava/lang/Object;" : Cond) ∈ WA := WA_of (tb_1 50 rfl) rfl
theorem q270 : (.code yJxc12de_init_da8c8 cJxc12de_init_da8c8 1 none : Cond) ∈ WA := WA_of (tb_1 43 rfl) rfl
theorem q276 : (.methodLink RX2 1 objectInit : Cond) ∈ WA := WA_of (tb_1 73 rfl) rfl
theorem q277 : (.arrayClass .int : Cond) ∈ WA := WA_of (tb_1 78 rfl) rfl
theorem q278 : (.methodLink RX6 3 objectInit : Cond) ∈ WA := WA_of (tb_3 225 rfl) rfl
theorem q279 : (.classLink RX6 9 RX2 : Cond) ∈ WA := WA_of (tb_3 226 rfl) rfl
theorem q280 : (.instantiable RX2 1 : Cond) ∈ WA := WA_of (tb_1 69 rfl) rfl
theorem q282 : (.methodLink RX6 11 yX2_init : Cond) ∈ WA := WA_of (tb_3 227 rfl) rfl
theorem q283 : (.instanceMethod yX2_init : Cond) ∈ WA := WA_of (tb_1 71 rfl) rfl
theorem q281 : (.code yX2_init cX2_init 2 none : Cond) ∈ WA := WA_of (tb_1 72 rfl) rfl
theorem q284 : (.methodLink RX0 1 objectInit : Cond) ∈ WA := WA_of (tb_3 219 rfl) rfl
theorem q285 : (.classLink RX0 7 RX6 : Cond) ∈ WA := WA_of (tb_3 220 rfl) rfl
theorem q286 : (.instantiable RX6 4 : Cond) ∈ WA := WA_of (tb_3 221 rfl) rfl
theorem q288 : (.instanceMethod yX6_init : Cond) ∈ WA := WA_of (tb_3 223 rfl) rfl
theorem q289 : (.fieldLink RX0 10 "TallowIndex$Document" "text" "LTallowIndex$Text;" : Cond) ∈ WA := WA_of (tb_4 8 rfl) rfl
theorem q290 : (.fieldLink RX0 16 "TallowIndex$Document" "tag" "I" : Cond) ∈ WA := WA_of (tb_4 6 rfl) rfl
theorem q291 : (.fieldLink RX0 20 "TallowIndex$Document" "whole" "I" : Cond) ∈ WA := WA_of (tb_4 7 rfl) rfl
theorem q287 : (.code yX6_init cX6_init 1 none : Cond) ∈ WA := WA_of (tb_3 224 rfl) rfl
theorem q292 : (.methodLink RX7 1 objectInit : Cond) ∈ WA := WA_of (tb_4 222 rfl) rfl
theorem q293 : (.fieldLink RX7 7 "TallowIndex$View" "number" "I" : Cond) ∈ WA := WA_of (tb_4 223 rfl) rfl
theorem q294 : (.fieldLink RX7 13 "TallowIndex$View" "present" "LTallowIndex$Row;" : Cond) ∈ WA := WA_of (tb_4 225 rfl) rfl
theorem q295 : (.fieldLink RX7 17 "TallowIndex$View" "count" "I" : Cond) ∈ WA := WA_of (tb_4 226 rfl) rfl
theorem q300 : (.methodLink RX1 3 objectInit : Cond) ∈ WA := WA_of (tb_2 31 rfl) rfl
theorem q301 : (.fieldLink RX1 9 "TallowIndex$Query" "kind" "C" : Cond) ∈ WA := WA_of (tb_2 32 rfl) rfl
theorem q302 : (.fieldLink RX1 15 "TallowIndex$Query" "first" "I" : Cond) ∈ WA := WA_of (tb_2 33 rfl) rfl
theorem q303 : (.fieldLink RX1 19 "TallowIndex$Query" "second" "I" : Cond) ∈ WA := WA_of (tb_2 35 rfl) rfl
theorem q304 : (.fieldLink RX1 22 "TallowIndex$Query" "distance" "I" : Cond) ∈ WA := WA_of (tb_2 37 rfl) rfl
theorem q305 : (.fieldLink RX1 25 "TallowIndex$Query" "weight" "I" : Cond) ∈ WA := WA_of (tb_2 38 rfl) rfl
theorem q306 : (.fieldLink RX1 28 "TallowIndex$Query" "wordQueries" "I" : Cond) ∈ WA := WA_of (tb_2 39 rfl) rfl
theorem q307 : (.methodLink RX4 3 objectInit : Cond) ∈ WA := WA_of (tb_1 67 rfl) rfl
theorem q308 : (.classLink RX4 9 RX2 : Cond) ∈ WA := WA_of (tb_1 68 rfl) rfl
theorem q309 : (.methodLink RX4 11 yX2_init : Cond) ∈ WA := WA_of (tb_1 70 rfl) rfl
theorem q310 : (.methodLink RX3 3 objectInit : Cond) ∈ WA := WA_of (tb_1 100 rfl) rfl
theorem q311 : (.classLink RX3 9 RX2 : Cond) ∈ WA := WA_of (tb_1 101 rfl) rfl
theorem q312 : (.methodLink RX3 11 yX2_init : Cond) ∈ WA := WA_of (tb_1 102 rfl) rfl
theorem q313 : (.fieldLink RX3 14 "TallowIndex$Search" "parts" "LTallowIndex$Row;" : Cond) ∈ WA := WA_of (tb_1 103 rfl) rfl
theorem q314 : (.fieldLink RX3 20 "TallowIndex$Search" "times" "LTallowIndex$Row;" : Cond) ∈ WA := WA_of (tb_1 104 rfl) rfl
theorem q315 : (.fieldLink RX3 23 "TallowIndex$Search" "scores" "LTallowIndex$Row;" : Cond) ∈ WA := WA_of (tb_1 105 rfl) rfl
theorem q316 : (.fieldLink RX3 26 "TallowIndex$Search" "ranks" "LTallowIndex$Row;" : Cond) ∈ WA := WA_of (tb_1 106 rfl) rfl
theorem q317 : (.fieldLink RX3 29 "TallowIndex$Search" "order" "LTallowIndex$Row;" : Cond) ∈ WA := WA_of (tb_1 107 rfl) rfl
theorem q318 : (.fieldLink RX3 32 "TallowIndex$Search" "marks" "LTallowIndex$Row;" : Cond) ∈ WA := WA_of (tb_1 108 rfl) rfl
theorem q319 : (.methodLink RX8 3 objectInit : Cond) ∈ WA := WA_of (tb_1 33 rfl) rfl
theorem q320 : (.classLink RX8 9 RJx4a65c : Cond) ∈ WA := WA_of (tb_1 36 rfl) rfl
theorem q321 : (.instantiable RJx4a65c 3 : Cond) ∈ WA := WA_of (tb_1 37 rfl) rfl
theorem q322 : (.initialized RJx4a65c : Cond) ∈ WA := WA_of (tb_1 4 rfl) rfl
theorem q324 : (.methodLink RX8 11 yJx4a65c_init_da8c8 : Cond) ∈ WA := WA_of (tb_1 38 rfl) rfl
theorem q325 : (.instanceMethod yJx4a65c_init_da8c8 : Cond) ∈ WA := WA_of (tb_1 39 rfl) rfl
theorem q326 : (.fieldLink RX8 12 "TallowIndex" "steps" "Ljava/util/ArrayList;" : Cond) ∈ WA := WA_of (tb_1 128 rfl) rfl
theorem q327 : (.fieldLink RX8 16 "TallowIndex" "documents" "Ljava/util/ArrayList;" : Cond) ∈ WA := WA_of (tb_1 129 rfl) rfl
theorem q328 : (.fieldLink RX8 19 "TallowIndex" "views" "Ljava/util/ArrayList;" : Cond) ∈ WA := WA_of (tb_1 130 rfl) rfl
theorem q329 : (.fieldLink RX8 22 "TallowIndex" "queries" "Ljava/util/ArrayList;" : Cond) ∈ WA := WA_of (tb_1 131 rfl) rfl
theorem q330 : (.classLink RX8 25 RX4 : Cond) ∈ WA := WA_of (tb_1 62 rfl) rfl
theorem q331 : (.instantiable RX4 4 : Cond) ∈ WA := WA_of (tb_1 63 rfl) rfl
theorem q333 : (.instanceMethod yX4_init : Cond) ∈ WA := WA_of (tb_1 65 rfl) rfl
theorem q334 : (.fieldLink RX8 28 "TallowIndex" "shelf" "LTallowIndex$Shelf;" : Cond) ∈ WA := WA_of (tb_1 132 rfl) rfl
theorem q335 : (.fieldLink RX8 32 "TallowIndex" "committed" "LTallowIndex$Shelf;" : Cond) ∈ WA := WA_of (tb_1 133 rfl) rfl
theorem q336 : (.classLink RX8 35 RX2 : Cond) ∈ WA := WA_of (tb_1 93 rfl) rfl
theorem q337 : (.methodLink RX8 37 yX2_init : Cond) ∈ WA := WA_of (tb_1 94 rfl) rfl
theorem q338 : (.fieldLink RX8 40 "TallowIndex" "replica" "LTallowIndex$Row;" : Cond) ∈ WA := WA_of (tb_1 134 rfl) rfl
theorem q339 : (.classLink RX8 44 RX3 : Cond) ∈ WA := WA_of (tb_1 95 rfl) rfl
theorem q340 : (.instantiable RX3 8 : Cond) ∈ WA := WA_of (tb_1 96 rfl) rfl
theorem q341 : (.initialized RX3 : Cond) ∈ WA := WA_of (tb_1 7 rfl) rfl
theorem q343 : (.instanceMethod yX3_init : Cond) ∈ WA := WA_of (tb_1 98 rfl) rfl
theorem q344 : (.fieldLink RX8 47 "TallowIndex" "search" "LTallowIndex$Search;" : Cond) ∈ WA := WA_of (tb_1 135 rfl) rfl
theorem q323 : (.code yJx4a65c_init_da8c8 cJx4a65c_init_da8c8 1 none : Cond) ∈ WA := WA_of (tb_1 40 rfl) rfl
theorem q332 : (.code yX4_init cX4_init 1 none : Cond) ∈ WA := WA_of (tb_1 66 rfl) rfl
theorem q342 : (.code yX3_init cX3_init 1 none : Cond) ∈ WA := WA_of (tb_1 99 rfl) rfl
theorem q346 : (.initialized RX8 : Cond) ∈ WA := WA_of (tb_1 1 rfl) rfl
theorem q347 : (.static yX8_isWord : Cond) ∈ WA := WA_of (tb_1 173 rfl) rfl
theorem q345 : (.code yX8_isWord cX8_isWord 1 (some .boolean) : Cond) ∈ WA := WA_of (tb_1 174 rfl) rfl
theorem znM_3 {U : State} (h : ZS U) : va_Nw (.methodLinkNest "TallowIndex$Document" 9 yX6_init "TallowIndex") U := h.2.2.2.1 ("TallowIndex$Document", 9, yX6_init, "TallowIndex") (List.mem_of_getElem? (i := 4) rfl)
theorem znM_0 {U : State} (h : ZS U) : va_Nw (.methodLinkNest "TallowIndex" 27 yX4_init "TallowIndex") U := h.2.2.2.1 ("TallowIndex", 27, yX4_init, "TallowIndex") (List.mem_of_getElem? (i := 0) rfl)
theorem znM_1 {U : State} (h : ZS U) : va_Nw (.methodLinkNest "TallowIndex" 46 yX3_init "TallowIndex") U := h.2.2.2.1 ("TallowIndex", 46, yX3_init, "TallowIndex") (List.mem_of_getElem? (i := 1) rfl)
theorem znM_4 {U : State} (h : ZS U) : va_Nw (.methodLinkNest "TallowIndex$Query" 31 yX8_isWord "TallowIndex") U := h.2.2.2.1 ("TallowIndex$Query", 31, yX8_isWord, "TallowIndex") (List.mem_of_getElem? (i := 2) rfl)
theorem nle_lt {x y : Int32} (h : ¬ x ≤ y) : y < x := Int32.not_le.mp h
theorem rgF_nat {n k : Nat} {f : Nat → Int32} (hk : k < n) (hn : n < 2 ^ 31) : rgF n f (nI k) = f k := by
  unfold rgF
  rw [if_neg (nI_pos (by omega)), if_neg (nI_ge hk hn), nI_clamp (by omega)]
set_option maxHeartbeats 4000000 in
set_option maxRecDepth 100000 in
theorem i_ac (l : Launch) (D : va_G) (dA : Nat → ClassId) (E : Nat) (h : Nat) (sz : Nat)   : Met l yJxa1e45_init_da8c8 (wq (.code yJxa1e45_init_da8c8 cJxa1e45_init_da8c8 1 none)) { frames := 1, cells := 0, slots := 0, locals := 12 } (va_Pc [.ref h] (PcB D dA E [] sz)) (va_Qv (fun (u : Unit) => True) (fun u t => va_P D vwCl [] t.heap ∧ va_D (va_A [] sz) []) (va_A [] sz)) 0 0 (va_A [] sz) := by
  refine mb_of (Qc := fun A => va_Qv (fun (u : Unit) => True) (fun u t => va_P D vwCl [] t.heap ∧ va_D A []) A) RJxa1e45 rfl (by decide) (Nat.le_of_ble_eq_true rfl) ?_
  intro p e s m args below meth c hae hx hb hr hts hown hlocks hml hnm hP hK A hAe hD hZ hS hA ls hl
  replace hl : lv_has ls 1 [(0, .ref h)] := hl
  refine lv_aload_n hx hb dJxa1e45_init_da8c8_0 rfl (lv_at hl 0 rfl) ?_
  refine W.objInit hx hb hown (hts _ q262) (hts _ q263) (hts _ q264) rfl (by rw [hml]; exact hl.1) rfl dJxa1e45_init_da8c8_1 (Nat.le_of_ble_eq_true rfl) (Nat.le_of_ble_eq_true rfl) ?_
  refine W.eq (g2 := F0 m 4 ls []) rfl ?_
  refine W.widen (k := 0) (n := 0) (Nat.le_of_ble_eq_true rfl) (Nat.le_of_ble_eq_true rfl) ?_
  have hP9 := hP.sub (ws' := []) [] rfl
  have hD9 := hD.sub (ws' := []) [] (by decide) rfl
  exact W.vret hx hb hr (fun t ht hW => ⟨⟨(), rfl, trivial, ⟨by rw [ht]; exact hP9, hD9⟩⟩, hS.F ht⟩) hS.2.2 dJxa1e45_init_da8c8_4

set_option maxHeartbeats 4000000 in
set_option maxRecDepth 100000 in
theorem i_al (l : Launch) (D : va_G) (dA : Nat → ClassId) (E : Nat) (h : Nat) (sz : Nat)   : Met l yJxc12de_init_da8c8 (wq (.code yJxc12de_init_da8c8 cJxc12de_init_da8c8 1 none)) { frames := 2, cells := 0, slots := 0, locals := 32 } (va_Pc [.ref h] (PcB D dA E [(h, .inr (2, [.int 0, .null, .int 0]))] sz)) (va_Qv (fun (u : Unit) => True) (fun u t => va_P D vwCl [(h, .inr (2, [.int 0, .null, .int 0]))] t.heap ∧ va_D (va_A [(h, .inr (2, [.int 0, .null, .int 0]))] sz) [(h, .inr (2, [.int 0, .null, .int 0]))]) (va_A [(h, .inr (2, [.int 0, .null, .int 0]))] sz)) 0 0 (va_A [(h, .inr (2, [.int 0, .null, .int 0]))] sz) := by
  refine mb_of (Qc := fun A => va_Qv (fun (u : Unit) => True) (fun u t => va_P D vwCl [(h, .inr (2, [.int 0, .null, .int 0]))] t.heap ∧ va_D A [(h, .inr (2, [.int 0, .null, .int 0]))]) A) RJxc12de rfl (by decide) (Nat.le_of_ble_eq_true rfl) ?_
  intro p e s m args below meth c hae hx hb hr hts hown hlocks hml hnm hP hK A hAe hD hZ hS hA ls hl
  replace hl : lv_has ls 1 [(0, .ref h)] := hl
  refine lv_aload_n hx hb dJxc12de_init_da8c8_0 rfl (lv_at hl 0 rfl) ?_
  replace hPc := hP.sub (ws' := []) [] rfl
  replace hDc := hD.sub (ws' := []) [] (by decide) rfl
  replace hFc := va_free (wc := []) hD hS hA [] rfl
  refine va_callv (va_runI (As := []) (rest := []) ⟨hx, hb, hml, hown, hts⟩ (i_ac l D dA E h s.heap.size ) (cwI 0 hts (ga_I q265) rfl rfl rfl (hts _ q266) (hts _ q267) (hts _ q268) rfl (by decide +kernel) ⟨(Nat.le_of_ble_eq_true rfl), (Nat.le_of_ble_eq_true rfl)⟩) ⟨pb_blind, pb_pre hK hPc hDc hZ hS hFc _⟩ rfl rfl hl.1 rfl (lv_room (Nat.le_of_ble_eq_true rfl)) dJxc12de_init_da8c8_1 ⟨(Nat.le_of_ble_eq_true rfl), (Nat.le_of_ble_eq_true rfl)⟩) hS (fun q _ h => hFc q h) hFc (fun u t H1 locs ht hvm hw hB hz1 hk1 hS => ?_)
  refine W.widen (k := 0) (n := 0) (Nat.le_of_ble_eq_true rfl) (Nat.le_of_ble_eq_true rfl) ?_
  obtain ⟨u1, rfl⟩ : ∃ z, z = u := ⟨_, rfl⟩
  have hw2 := hw
  clear hw
  obtain ⟨hP1, hD1⟩ := hB
  rw [ht] at hP1
  obtain ⟨hP, hD⟩ := va_join (wr := [(h, .inr (2, [.int 0, .null, .int 0]))]) (w1 := []) hP hD [] [0] rfl rfl (by decide) (by decide) hk1 hFc hP1 hD1
  generalize H1 = H at hP hS ⊢
  replace hP : va_P D vwCl [(h, .inr (2, [.int 0, .null, .int 0]))] H := hP
  replace hD : va_D A [(h, .inr (2, [.int 0, .null, .int 0]))] := hD
  refine lv_aload_n hx hb dJxc12de_init_da8c8_4 rfl (lv_at hl 0 rfl) ?_
  refine lv_iconst (v := 0) hx hb dJxc12de_init_da8c8_5 (by decide) ?_
  refine va_put (D := D) (ci := 2) (v := .int 0) (ty := .int) (C := RJx4a65c) (T := TJx4a65c) (N := 3) hx hb hts inAJx4a65c tyJx4a65c tyJx4a65c_ok nmJx4a65c hown hK hP hD hS 0 rfl rfl 0 (by decide) (hts _ q269) (fun _ h9 => h9) rfl (tyJx4a65c_ok 0 (by decide)) rfl rfl (Nat.le_of_ble_eq_true rfl) dJxc12de_init_da8c8_6 (fun H locs hP hD hS => ?_)
  replace hP : va_P D vwCl [(h, .inr (2, [.int 0, .null, .int 0]))] H := hP
  replace hD : va_D A [(h, .inr (2, [.int 0, .null, .int 0]))] := hD
  refine W.widen (k := 0) (n := 0) (Nat.le_of_ble_eq_true rfl) (Nat.le_of_ble_eq_true rfl) ?_
  have hP9 := hP.sub (ws' := [(h, .inr (2, [.int 0, .null, .int 0]))]) [0] rfl
  have hD9 := hD.sub (ws' := [(h, .inr (2, [.int 0, .null, .int 0]))]) [0] (by decide) rfl
  exact W.vret hx hb hr (fun t ht hW => ⟨⟨(), rfl, trivial, ⟨by rw [ht]; exact hP9, hD9⟩⟩, hS.F ht⟩) hS.2.2 dJxc12de_init_da8c8_9

set_option maxHeartbeats 4000000 in
set_option maxRecDepth 100000 in
theorem i_list (l : Launch) (D : va_G) (dA : Nat → ClassId) (E : Nat) (h : Nat) (sz : Nat)   : Met l yJx4a65c_init_da8c8 (wq (.code yJx4a65c_init_da8c8 cJx4a65c_init_da8c8 1 none)) { frames := 3, cells := 0, slots := 0, locals := 52 } (va_Pc [.ref h] (PcB D dA E [(h, .inr (2, [.int 0, .null, .int 0]))] sz)) (va_Qv (fun (u : Unit) => True) (fun u t => va_P D vwCl [(h, .inr (2, [.int 0, .ref E, .int 0]))] t.heap ∧ va_D (va_A [(h, .inr (2, [.int 0, .null, .int 0]))] sz) [(h, .inr (2, [.int 0, .ref E, .int 0]))]) (va_A [(h, .inr (2, [.int 0, .null, .int 0]))] sz)) 0 0 (va_A [(h, .inr (2, [.int 0, .null, .int 0]))] sz) := by
  refine mb_of (Qc := fun A => va_Qv (fun (u : Unit) => True) (fun u t => va_P D vwCl [(h, .inr (2, [.int 0, .ref E, .int 0]))] t.heap ∧ va_D A [(h, .inr (2, [.int 0, .ref E, .int 0]))]) A) RJx4a65c rfl (by decide) (Nat.le_of_ble_eq_true rfl) ?_
  intro p e s m args below meth c hae hx hb hr hts hown hlocks hml hnm hP hK A hAe hD hZ hS hA ls hl
  replace hl : lv_has ls 1 [(0, .ref h)] := hl
  refine lv_aload_n hx hb dJx4a65c_init_da8c8_0 rfl (lv_at hl 0 rfl) ?_
  replace hPc := hP.sub (ws' := [(h, .inr (2, [.int 0, .null, .int 0]))]) [0] rfl
  replace hDc := hD.sub (ws' := [(h, .inr (2, [.int 0, .null, .int 0]))]) [0] (by decide) rfl
  replace hFc := va_free (wc := [(h, .inr (2, [.int 0, .null, .int 0]))]) hD hS hA [0] rfl
  refine va_callv (va_runI (As := []) (rest := []) ⟨hx, hb, hml, hown, hts⟩ (i_al l D dA E h s.heap.size ) (cwI 0 hts (ga_I q270) rfl rfl rfl (hts _ q271) (hts _ q272) (hts _ q273) rfl (by decide +kernel) ⟨(Nat.le_of_ble_eq_true rfl), (Nat.le_of_ble_eq_true rfl)⟩) ⟨pb_blind, pb_pre hK hPc hDc hZ hS hFc _⟩ rfl rfl hl.1 rfl (lv_room (Nat.le_of_ble_eq_true rfl)) dJx4a65c_init_da8c8_1 ⟨(Nat.le_of_ble_eq_true rfl), (Nat.le_of_ble_eq_true rfl)⟩) hS (fun q _ h => hFc q h) hFc (fun u t H1 locs ht hvm hw hB hz1 hk1 hS => ?_)
  refine W.widen (k := 0) (n := 0) (Nat.le_of_ble_eq_true rfl) (Nat.le_of_ble_eq_true rfl) ?_
  obtain ⟨u1, rfl⟩ : ∃ z, z = u := ⟨_, rfl⟩
  have hw2 := hw
  clear hw
  obtain ⟨hP1, hD1⟩ := hB
  rw [ht] at hP1
  obtain ⟨hP, hD⟩ := va_join (wr := []) (w1 := [(h, .inr (2, [.int 0, .null, .int 0]))]) hP hD [0] [] rfl rfl (by decide) (by decide) hk1 hFc hP1 hD1
  generalize H1 = H at hP hS ⊢
  replace hP : va_P D vwCl [(h, .inr (2, [.int 0, .null, .int 0]))] H := hP
  replace hD : va_D A [(h, .inr (2, [.int 0, .null, .int 0]))] := hD
  refine lv_aload_n hx hb dJx4a65c_init_da8c8_4 rfl (lv_at hl 0 rfl) ?_
  refine va_gets hx hb hZ.2.2.2.1 hS hown (hts _ q274) (fun _ h9 => h9) dJx4a65c_init_da8c8_5 ?_
  refine va_put (D := D) (ci := 2) (v := .ref E) (ty := .array (.object "java/lang/Object")) (C := RJx4a65c) (T := TJx4a65c) (N := 3) hx hb hts inAJx4a65c tyJx4a65c tyJx4a65c_ok nmJx4a65c hown hK hP hD hS 0 rfl rfl 1 (by decide) (hts _ q275) (fun _ h9 => h9) rfl (tyJx4a65c_ok 1 (by decide)) rfl rfl (Nat.le_of_ble_eq_true rfl) dJx4a65c_init_da8c8_8 (fun H locs hP hD hS => ?_)
  replace hP : va_P D vwCl [(h, .inr (2, [.int 0, .ref E, .int 0]))] H := hP
  replace hD : va_D A [(h, .inr (2, [.int 0, .ref E, .int 0]))] := hD
  refine W.widen (k := 0) (n := 0) (Nat.le_of_ble_eq_true rfl) (Nat.le_of_ble_eq_true rfl) ?_
  have hP9 := hP.sub (ws' := [(h, .inr (2, [.int 0, .ref E, .int 0]))]) [0] rfl
  have hD9 := hD.sub (ws' := [(h, .inr (2, [.int 0, .ref E, .int 0]))]) [0] (by decide) rfl
  exact W.vret hx hb hr (fun t ht hW => ⟨⟨(), rfl, trivial, ⟨by rw [ht]; exact hP9, hD9⟩⟩, hS.F ht⟩) hS.2.2 dJx4a65c_init_da8c8_11

set_option maxHeartbeats 4000000 in
set_option maxRecDepth 100000 in
theorem i_Row_12 (l : Launch) (D : va_G) (dA : Nat → ClassId) (E : Nat) (h : Nat) (sz : Nat)   : Met l yX2_init (wq (.code yX2_init cX2_init 2 none)) { frames := 1, cells := 1, slots := 12, locals := 12 } (va_Pc [.ref h, .int 12] (PcB D dA E [(h, .inr (5, [.null]))] sz)) (va_Qv (fun (u : Nat) => True) (fun u t => va_P D vwCl [(h, .inr (5, [.ref u])), (u, .inl (dA 0, 12, .inl (fun _ => 0)))] t.heap ∧ va_D (va_A [(h, .inr (5, [.null]))] sz) [(h, .inr (5, [.ref u])), (u, .inl (dA 0, 12, .inl (fun _ => 0)))]) (va_A [(h, .inr (5, [.null]))] sz)) 1 12 (va_A [(h, .inr (5, [.null]))] sz) := by
  refine mb_of (Qc := fun A => va_Qv (fun (u : Nat) => True) (fun u t => va_P D vwCl [(h, .inr (5, [.ref u])), (u, .inl (dA 0, 12, .inl (fun _ => 0)))] t.heap ∧ va_D A [(h, .inr (5, [.ref u])), (u, .inl (dA 0, 12, .inl (fun _ => 0)))]) A) RX2 rfl (by decide) (Nat.le_of_ble_eq_true rfl) ?_
  intro p e s m args below meth c hae hx hb hr hts hown hlocks hml hnm hP hK A hAe hD hZ hS hA ls hl
  replace hl : lv_has ls 2 [(0, .ref h), (1, .int 12)] := hl
  refine lv_aload_n hx hb dX2_init_0 rfl (lv_at hl 0 rfl) ?_
  refine W.objInit hx hb hown (hts _ q276) (hts _ q263) (hts _ q264) rfl (by rw [hml]; exact hl.1) rfl dX2_init_1 (Nat.le_of_ble_eq_true rfl) (Nat.le_of_ble_eq_true rfl) ?_
  refine W.eq (g2 := F0 m 4 ls []) rfl ?_
  refine lv_aload_n hx hb dX2_init_4 rfl (lv_at hl 0 rfl) ?_
  refine lv_iload_n hx hb dX2_init_5 rfl (lv_at hl 1 rfl) ?_
  refine lv_if_ge (tgt := 13) hx hb dX2_init_6 (by decide) (fun _ => ?_) (fun c1 => absurd (by decide) c1)
  refine lv_iload_n hx hb dX2_init_13 rfl (lv_at hl 1 rfl) ?_
  refine va_newa (atype := .int) (ty := .int) (N' := 12) (a0 := (12, .inl (fun _ => 0))) hx hb (hts _ q277) rfl hK hP hD hS hA (fun _ => rfl) (by decide) (by decide) (by decide) (Nat.le_of_ble_eq_true rfl) (Nat.le_of_ble_eq_true rfl) dX2_init_14 (fun q2 cAq2 H hKn hP hD hS => ?_)
  obtain rfl : cAq2 = dA 0 := ty_eq 0 hKn rfl
  replace hP : va_P D vwCl [(h, .inr (5, [.null])), (q2, .inl (dA 0, 12, .inl (fun _ => 0)))] H := hP
  replace hD : va_D A [(h, .inr (5, [.null])), (q2, .inl (dA 0, 12, .inl (fun _ => 0)))] := hD
  refine W.widen (k := 1) (n := 12) (Nat.le_of_ble_eq_true rfl) (Nat.le_of_ble_eq_true rfl) ?_
  refine va_putF (D := D) (ci := 5) (v := .ref q2) (ty := .array .int) (C := RX2) (T := TX2) (N := 1) hx hb hts inAX2 tyX2 tyX2_ok nmX2 hown hK hP hD hS 0 rfl rfl 0 (by decide) (hts _ q199) (fun _ h9 => h9) rfl hnm rfl (tyX2_ok 0 (by decide)) rfl rfl (Nat.le_of_ble_eq_true rfl) dX2_init_16 (fun H locs hP hD hS => ?_)
  replace hP : va_P D vwCl [(h, .inr (5, [.ref q2])), (q2, .inl (dA 0, 12, .inl (fun _ => 0)))] H := hP
  replace hD : va_D A [(h, .inr (5, [.ref q2])), (q2, .inl (dA 0, 12, .inl (fun _ => 0)))] := hD
  refine W.widen (k := 1) (n := 12) (Nat.le_of_ble_eq_true rfl) (Nat.le_of_ble_eq_true rfl) ?_
  have hP9 := hP.sub (ws' := [(h, .inr (5, [.ref q2])), (q2, .inl (dA 0, 12, .inl (fun _ => 0)))]) [0, 1] rfl
  have hD9 := hD.sub (ws' := [(h, .inr (5, [.ref q2])), (q2, .inl (dA 0, 12, .inl (fun _ => 0)))]) [0, 1] (by decide) rfl
  exact W.vret hx hb hr (fun t ht hW => ⟨⟨q2, rfl, trivial, ⟨by rw [ht]; exact hP9, hD9⟩⟩, hS.F ht⟩) hS.2.2 dX2_init_19

set_option maxHeartbeats 4000000 in
set_option maxRecDepth 100000 in
theorem i_Row_30 (l : Launch) (D : va_G) (dA : Nat → ClassId) (E : Nat) (h : Nat) (sz : Nat)   : Met l yX2_init (wq (.code yX2_init cX2_init 2 none)) { frames := 1, cells := 1, slots := 30, locals := 12 } (va_Pc [.ref h, .int 30] (PcB D dA E [(h, .inr (5, [.null]))] sz)) (va_Qv (fun (u : Nat) => True) (fun u t => va_P D vwCl [(h, .inr (5, [.ref u])), (u, .inl (dA 0, 30, .inl (fun _ => 0)))] t.heap ∧ va_D (va_A [(h, .inr (5, [.null]))] sz) [(h, .inr (5, [.ref u])), (u, .inl (dA 0, 30, .inl (fun _ => 0)))]) (va_A [(h, .inr (5, [.null]))] sz)) 1 30 (va_A [(h, .inr (5, [.null]))] sz) := by
  refine mb_of (Qc := fun A => va_Qv (fun (u : Nat) => True) (fun u t => va_P D vwCl [(h, .inr (5, [.ref u])), (u, .inl (dA 0, 30, .inl (fun _ => 0)))] t.heap ∧ va_D A [(h, .inr (5, [.ref u])), (u, .inl (dA 0, 30, .inl (fun _ => 0)))]) A) RX2 rfl (by decide) (Nat.le_of_ble_eq_true rfl) ?_
  intro p e s m args below meth c hae hx hb hr hts hown hlocks hml hnm hP hK A hAe hD hZ hS hA ls hl
  replace hl : lv_has ls 2 [(0, .ref h), (1, .int 30)] := hl
  refine lv_aload_n hx hb dX2_init_0 rfl (lv_at hl 0 rfl) ?_
  refine W.objInit hx hb hown (hts _ q276) (hts _ q263) (hts _ q264) rfl (by rw [hml]; exact hl.1) rfl dX2_init_1 (Nat.le_of_ble_eq_true rfl) (Nat.le_of_ble_eq_true rfl) ?_
  refine W.eq (g2 := F0 m 4 ls []) rfl ?_
  refine lv_aload_n hx hb dX2_init_4 rfl (lv_at hl 0 rfl) ?_
  refine lv_iload_n hx hb dX2_init_5 rfl (lv_at hl 1 rfl) ?_
  refine lv_if_ge (tgt := 13) hx hb dX2_init_6 (by decide) (fun _ => ?_) (fun c1 => absurd (by decide) c1)
  refine lv_iload_n hx hb dX2_init_13 rfl (lv_at hl 1 rfl) ?_
  refine va_newa (atype := .int) (ty := .int) (N' := 30) (a0 := (30, .inl (fun _ => 0))) hx hb (hts _ q277) rfl hK hP hD hS hA (fun _ => rfl) (by decide) (by decide) (by decide) (Nat.le_of_ble_eq_true rfl) (Nat.le_of_ble_eq_true rfl) dX2_init_14 (fun q2 cAq2 H hKn hP hD hS => ?_)
  obtain rfl : cAq2 = dA 0 := ty_eq 0 hKn rfl
  replace hP : va_P D vwCl [(h, .inr (5, [.null])), (q2, .inl (dA 0, 30, .inl (fun _ => 0)))] H := hP
  replace hD : va_D A [(h, .inr (5, [.null])), (q2, .inl (dA 0, 30, .inl (fun _ => 0)))] := hD
  refine W.widen (k := 1) (n := 30) (Nat.le_of_ble_eq_true rfl) (Nat.le_of_ble_eq_true rfl) ?_
  refine va_putF (D := D) (ci := 5) (v := .ref q2) (ty := .array .int) (C := RX2) (T := TX2) (N := 1) hx hb hts inAX2 tyX2 tyX2_ok nmX2 hown hK hP hD hS 0 rfl rfl 0 (by decide) (hts _ q199) (fun _ h9 => h9) rfl hnm rfl (tyX2_ok 0 (by decide)) rfl rfl (Nat.le_of_ble_eq_true rfl) dX2_init_16 (fun H locs hP hD hS => ?_)
  replace hP : va_P D vwCl [(h, .inr (5, [.ref q2])), (q2, .inl (dA 0, 30, .inl (fun _ => 0)))] H := hP
  replace hD : va_D A [(h, .inr (5, [.ref q2])), (q2, .inl (dA 0, 30, .inl (fun _ => 0)))] := hD
  refine W.widen (k := 1) (n := 30) (Nat.le_of_ble_eq_true rfl) (Nat.le_of_ble_eq_true rfl) ?_
  have hP9 := hP.sub (ws' := [(h, .inr (5, [.ref q2])), (q2, .inl (dA 0, 30, .inl (fun _ => 0)))]) [0, 1] rfl
  have hD9 := hD.sub (ws' := [(h, .inr (5, [.ref q2])), (q2, .inl (dA 0, 30, .inl (fun _ => 0)))]) [0, 1] (by decide) rfl
  exact W.vret hx hb hr (fun t ht hW => ⟨⟨q2, rfl, trivial, ⟨by rw [ht]; exact hP9, hD9⟩⟩, hS.F ht⟩) hS.2.2 dX2_init_19

set_option maxHeartbeats 4000000 in
set_option maxRecDepth 100000 in
theorem i_Row_40 (l : Launch) (D : va_G) (dA : Nat → ClassId) (E : Nat) (h : Nat) (sz : Nat)   : Met l yX2_init (wq (.code yX2_init cX2_init 2 none)) { frames := 1, cells := 1, slots := 40, locals := 12 } (va_Pc [.ref h, .int 40] (PcB D dA E [(h, .inr (5, [.null]))] sz)) (va_Qv (fun (u : Nat) => True) (fun u t => va_P D vwCl [(h, .inr (5, [.ref u])), (u, .inl (dA 0, 40, .inl (fun _ => 0)))] t.heap ∧ va_D (va_A [(h, .inr (5, [.null]))] sz) [(h, .inr (5, [.ref u])), (u, .inl (dA 0, 40, .inl (fun _ => 0)))]) (va_A [(h, .inr (5, [.null]))] sz)) 1 40 (va_A [(h, .inr (5, [.null]))] sz) := by
  refine mb_of (Qc := fun A => va_Qv (fun (u : Nat) => True) (fun u t => va_P D vwCl [(h, .inr (5, [.ref u])), (u, .inl (dA 0, 40, .inl (fun _ => 0)))] t.heap ∧ va_D A [(h, .inr (5, [.ref u])), (u, .inl (dA 0, 40, .inl (fun _ => 0)))]) A) RX2 rfl (by decide) (Nat.le_of_ble_eq_true rfl) ?_
  intro p e s m args below meth c hae hx hb hr hts hown hlocks hml hnm hP hK A hAe hD hZ hS hA ls hl
  replace hl : lv_has ls 2 [(0, .ref h), (1, .int 40)] := hl
  refine lv_aload_n hx hb dX2_init_0 rfl (lv_at hl 0 rfl) ?_
  refine W.objInit hx hb hown (hts _ q276) (hts _ q263) (hts _ q264) rfl (by rw [hml]; exact hl.1) rfl dX2_init_1 (Nat.le_of_ble_eq_true rfl) (Nat.le_of_ble_eq_true rfl) ?_
  refine W.eq (g2 := F0 m 4 ls []) rfl ?_
  refine lv_aload_n hx hb dX2_init_4 rfl (lv_at hl 0 rfl) ?_
  refine lv_iload_n hx hb dX2_init_5 rfl (lv_at hl 1 rfl) ?_
  refine lv_if_ge (tgt := 13) hx hb dX2_init_6 (by decide) (fun _ => ?_) (fun c1 => absurd (by decide) c1)
  refine lv_iload_n hx hb dX2_init_13 rfl (lv_at hl 1 rfl) ?_
  refine va_newa (atype := .int) (ty := .int) (N' := 40) (a0 := (40, .inl (fun _ => 0))) hx hb (hts _ q277) rfl hK hP hD hS hA (fun _ => rfl) (by decide) (by decide) (by decide) (Nat.le_of_ble_eq_true rfl) (Nat.le_of_ble_eq_true rfl) dX2_init_14 (fun q2 cAq2 H hKn hP hD hS => ?_)
  obtain rfl : cAq2 = dA 0 := ty_eq 0 hKn rfl
  replace hP : va_P D vwCl [(h, .inr (5, [.null])), (q2, .inl (dA 0, 40, .inl (fun _ => 0)))] H := hP
  replace hD : va_D A [(h, .inr (5, [.null])), (q2, .inl (dA 0, 40, .inl (fun _ => 0)))] := hD
  refine W.widen (k := 1) (n := 40) (Nat.le_of_ble_eq_true rfl) (Nat.le_of_ble_eq_true rfl) ?_
  refine va_putF (D := D) (ci := 5) (v := .ref q2) (ty := .array .int) (C := RX2) (T := TX2) (N := 1) hx hb hts inAX2 tyX2 tyX2_ok nmX2 hown hK hP hD hS 0 rfl rfl 0 (by decide) (hts _ q199) (fun _ h9 => h9) rfl hnm rfl (tyX2_ok 0 (by decide)) rfl rfl (Nat.le_of_ble_eq_true rfl) dX2_init_16 (fun H locs hP hD hS => ?_)
  replace hP : va_P D vwCl [(h, .inr (5, [.ref q2])), (q2, .inl (dA 0, 40, .inl (fun _ => 0)))] H := hP
  replace hD : va_D A [(h, .inr (5, [.ref q2])), (q2, .inl (dA 0, 40, .inl (fun _ => 0)))] := hD
  refine W.widen (k := 1) (n := 40) (Nat.le_of_ble_eq_true rfl) (Nat.le_of_ble_eq_true rfl) ?_
  have hP9 := hP.sub (ws' := [(h, .inr (5, [.ref q2])), (q2, .inl (dA 0, 40, .inl (fun _ => 0)))]) [0, 1] rfl
  have hD9 := hD.sub (ws' := [(h, .inr (5, [.ref q2])), (q2, .inl (dA 0, 40, .inl (fun _ => 0)))]) [0, 1] (by decide) rfl
  exact W.vret hx hb hr (fun t ht hW => ⟨⟨q2, rfl, trivial, ⟨by rw [ht]; exact hP9, hD9⟩⟩, hS.F ht⟩) hS.2.2 dX2_init_19

set_option maxHeartbeats 4000000 in
set_option maxRecDepth 100000 in
theorem i_Row_84 (l : Launch) (D : va_G) (dA : Nat → ClassId) (E : Nat) (h : Nat) (sz : Nat)   : Met l yX2_init (wq (.code yX2_init cX2_init 2 none)) { frames := 1, cells := 1, slots := 84, locals := 12 } (va_Pc [.ref h, .int 84] (PcB D dA E [(h, .inr (5, [.null]))] sz)) (va_Qv (fun (u : Nat) => True) (fun u t => va_P D vwCl [(h, .inr (5, [.ref u])), (u, .inl (dA 0, 84, .inl (fun _ => 0)))] t.heap ∧ va_D (va_A [(h, .inr (5, [.null]))] sz) [(h, .inr (5, [.ref u])), (u, .inl (dA 0, 84, .inl (fun _ => 0)))]) (va_A [(h, .inr (5, [.null]))] sz)) 1 84 (va_A [(h, .inr (5, [.null]))] sz) := by
  refine mb_of (Qc := fun A => va_Qv (fun (u : Nat) => True) (fun u t => va_P D vwCl [(h, .inr (5, [.ref u])), (u, .inl (dA 0, 84, .inl (fun _ => 0)))] t.heap ∧ va_D A [(h, .inr (5, [.ref u])), (u, .inl (dA 0, 84, .inl (fun _ => 0)))]) A) RX2 rfl (by decide) (Nat.le_of_ble_eq_true rfl) ?_
  intro p e s m args below meth c hae hx hb hr hts hown hlocks hml hnm hP hK A hAe hD hZ hS hA ls hl
  replace hl : lv_has ls 2 [(0, .ref h), (1, .int 84)] := hl
  refine lv_aload_n hx hb dX2_init_0 rfl (lv_at hl 0 rfl) ?_
  refine W.objInit hx hb hown (hts _ q276) (hts _ q263) (hts _ q264) rfl (by rw [hml]; exact hl.1) rfl dX2_init_1 (Nat.le_of_ble_eq_true rfl) (Nat.le_of_ble_eq_true rfl) ?_
  refine W.eq (g2 := F0 m 4 ls []) rfl ?_
  refine lv_aload_n hx hb dX2_init_4 rfl (lv_at hl 0 rfl) ?_
  refine lv_iload_n hx hb dX2_init_5 rfl (lv_at hl 1 rfl) ?_
  refine lv_if_ge (tgt := 13) hx hb dX2_init_6 (by decide) (fun _ => ?_) (fun c1 => absurd (by decide) c1)
  refine lv_iload_n hx hb dX2_init_13 rfl (lv_at hl 1 rfl) ?_
  refine va_newa (atype := .int) (ty := .int) (N' := 84) (a0 := (84, .inl (fun _ => 0))) hx hb (hts _ q277) rfl hK hP hD hS hA (fun _ => rfl) (by decide) (by decide) (by decide) (Nat.le_of_ble_eq_true rfl) (Nat.le_of_ble_eq_true rfl) dX2_init_14 (fun q2 cAq2 H hKn hP hD hS => ?_)
  obtain rfl : cAq2 = dA 0 := ty_eq 0 hKn rfl
  replace hP : va_P D vwCl [(h, .inr (5, [.null])), (q2, .inl (dA 0, 84, .inl (fun _ => 0)))] H := hP
  replace hD : va_D A [(h, .inr (5, [.null])), (q2, .inl (dA 0, 84, .inl (fun _ => 0)))] := hD
  refine W.widen (k := 1) (n := 84) (Nat.le_of_ble_eq_true rfl) (Nat.le_of_ble_eq_true rfl) ?_
  refine va_putF (D := D) (ci := 5) (v := .ref q2) (ty := .array .int) (C := RX2) (T := TX2) (N := 1) hx hb hts inAX2 tyX2 tyX2_ok nmX2 hown hK hP hD hS 0 rfl rfl 0 (by decide) (hts _ q199) (fun _ h9 => h9) rfl hnm rfl (tyX2_ok 0 (by decide)) rfl rfl (Nat.le_of_ble_eq_true rfl) dX2_init_16 (fun H locs hP hD hS => ?_)
  replace hP : va_P D vwCl [(h, .inr (5, [.ref q2])), (q2, .inl (dA 0, 84, .inl (fun _ => 0)))] H := hP
  replace hD : va_D A [(h, .inr (5, [.ref q2])), (q2, .inl (dA 0, 84, .inl (fun _ => 0)))] := hD
  refine W.widen (k := 1) (n := 84) (Nat.le_of_ble_eq_true rfl) (Nat.le_of_ble_eq_true rfl) ?_
  have hP9 := hP.sub (ws' := [(h, .inr (5, [.ref q2])), (q2, .inl (dA 0, 84, .inl (fun _ => 0)))]) [0, 1] rfl
  have hD9 := hD.sub (ws' := [(h, .inr (5, [.ref q2])), (q2, .inl (dA 0, 84, .inl (fun _ => 0)))]) [0, 1] (by decide) rfl
  exact W.vret hx hb hr (fun t ht hW => ⟨⟨q2, rfl, trivial, ⟨by rw [ht]; exact hP9, hD9⟩⟩, hS.F ht⟩) hS.2.2 dX2_init_19

set_option maxHeartbeats 4000000 in
set_option maxRecDepth 100000 in
theorem i_Row_1200 (l : Launch) (D : va_G) (dA : Nat → ClassId) (E : Nat) (h : Nat) (sz : Nat)   : Met l yX2_init (wq (.code yX2_init cX2_init 2 none)) { frames := 1, cells := 1, slots := 1200, locals := 12 } (va_Pc [.ref h, .int 1200] (PcB D dA E [(h, .inr (5, [.null]))] sz)) (va_Qv (fun (u : Nat) => True) (fun u t => va_P D vwCl [(h, .inr (5, [.ref u])), (u, .inl (dA 0, 1200, .inl (fun _ => 0)))] t.heap ∧ va_D (va_A [(h, .inr (5, [.null]))] sz) [(h, .inr (5, [.ref u])), (u, .inl (dA 0, 1200, .inl (fun _ => 0)))]) (va_A [(h, .inr (5, [.null]))] sz)) 1 1200 (va_A [(h, .inr (5, [.null]))] sz) := by
  refine mb_of (Qc := fun A => va_Qv (fun (u : Nat) => True) (fun u t => va_P D vwCl [(h, .inr (5, [.ref u])), (u, .inl (dA 0, 1200, .inl (fun _ => 0)))] t.heap ∧ va_D A [(h, .inr (5, [.ref u])), (u, .inl (dA 0, 1200, .inl (fun _ => 0)))]) A) RX2 rfl (by decide) (Nat.le_of_ble_eq_true rfl) ?_
  intro p e s m args below meth c hae hx hb hr hts hown hlocks hml hnm hP hK A hAe hD hZ hS hA ls hl
  replace hl : lv_has ls 2 [(0, .ref h), (1, .int 1200)] := hl
  refine lv_aload_n hx hb dX2_init_0 rfl (lv_at hl 0 rfl) ?_
  refine W.objInit hx hb hown (hts _ q276) (hts _ q263) (hts _ q264) rfl (by rw [hml]; exact hl.1) rfl dX2_init_1 (Nat.le_of_ble_eq_true rfl) (Nat.le_of_ble_eq_true rfl) ?_
  refine W.eq (g2 := F0 m 4 ls []) rfl ?_
  refine lv_aload_n hx hb dX2_init_4 rfl (lv_at hl 0 rfl) ?_
  refine lv_iload_n hx hb dX2_init_5 rfl (lv_at hl 1 rfl) ?_
  refine lv_if_ge (tgt := 13) hx hb dX2_init_6 (by decide) (fun _ => ?_) (fun c1 => absurd (by decide) c1)
  refine lv_iload_n hx hb dX2_init_13 rfl (lv_at hl 1 rfl) ?_
  refine va_newa (atype := .int) (ty := .int) (N' := 1200) (a0 := (1200, .inl (fun _ => 0))) hx hb (hts _ q277) rfl hK hP hD hS hA (fun _ => rfl) (by decide) (by decide) (by decide) (Nat.le_of_ble_eq_true rfl) (Nat.le_of_ble_eq_true rfl) dX2_init_14 (fun q2 cAq2 H hKn hP hD hS => ?_)
  obtain rfl : cAq2 = dA 0 := ty_eq 0 hKn rfl
  replace hP : va_P D vwCl [(h, .inr (5, [.null])), (q2, .inl (dA 0, 1200, .inl (fun _ => 0)))] H := hP
  replace hD : va_D A [(h, .inr (5, [.null])), (q2, .inl (dA 0, 1200, .inl (fun _ => 0)))] := hD
  refine W.widen (k := 1) (n := 1200) (Nat.le_of_ble_eq_true rfl) (Nat.le_of_ble_eq_true rfl) ?_
  refine va_putF (D := D) (ci := 5) (v := .ref q2) (ty := .array .int) (C := RX2) (T := TX2) (N := 1) hx hb hts inAX2 tyX2 tyX2_ok nmX2 hown hK hP hD hS 0 rfl rfl 0 (by decide) (hts _ q199) (fun _ h9 => h9) rfl hnm rfl (tyX2_ok 0 (by decide)) rfl rfl (Nat.le_of_ble_eq_true rfl) dX2_init_16 (fun H locs hP hD hS => ?_)
  replace hP : va_P D vwCl [(h, .inr (5, [.ref q2])), (q2, .inl (dA 0, 1200, .inl (fun _ => 0)))] H := hP
  replace hD : va_D A [(h, .inr (5, [.ref q2])), (q2, .inl (dA 0, 1200, .inl (fun _ => 0)))] := hD
  refine W.widen (k := 1) (n := 1200) (Nat.le_of_ble_eq_true rfl) (Nat.le_of_ble_eq_true rfl) ?_
  have hP9 := hP.sub (ws' := [(h, .inr (5, [.ref q2])), (q2, .inl (dA 0, 1200, .inl (fun _ => 0)))]) [0, 1] rfl
  have hD9 := hD.sub (ws' := [(h, .inr (5, [.ref q2])), (q2, .inl (dA 0, 1200, .inl (fun _ => 0)))]) [0, 1] (by decide) rfl
  exact W.vret hx hb hr (fun t ht hW => ⟨⟨q2, rfl, trivial, ⟨by rw [ht]; exact hP9, hD9⟩⟩, hS.F ht⟩) hS.2.2 dX2_init_19

set_option maxHeartbeats 4000000 in
set_option maxRecDepth 100000 in
theorem i_Text (l : Launch) (D : va_G) (dA : Nat → ClassId) (E : Nat) (h : Nat) (sz : Nat)   : Met l yX6_init (wq (.code yX6_init cX6_init 1 none)) { frames := 2, cells := 6, slots := 255, locals := 33 } (va_Pc [.ref h] (PcB D dA E [(h, .inr (9, [.null, .null, .null, .int 0]))] sz)) (va_Qv (fun (u : Nat → Nat) => u 0 = h) (fun u t => va_P D vwCl [(u 0, .inr (9, [.ref (u 1), .ref (u 3), .ref (u 5), .int 0])), (u 1, .inr (5, [.ref (u 2)])), (u 2, .inl (dA 0, 84, .inl (fun _ => 0))), (u 3, .inr (5, [.ref (u 4)])), (u 4, .inl (dA 0, 84, .inl (fun _ => 0))), (u 5, .inr (5, [.ref (u 6)])), (u 6, .inl (dA 0, 84, .inl (fun _ => 0)))] t.heap ∧ va_D (va_A [(h, .inr (9, [.null, .null, .null, .int 0]))] sz) [(u 0, .inr (9, [.ref (u 1), .ref (u 3), .ref (u 5), .int 0])), (u 1, .inr (5, [.ref (u 2)])), (u 2, .inl (dA 0, 84, .inl (fun _ => 0))), (u 3, .inr (5, [.ref (u 4)])), (u 4, .inl (dA 0, 84, .inl (fun _ => 0))), (u 5, .inr (5, [.ref (u 6)])), (u 6, .inl (dA 0, 84, .inl (fun _ => 0)))]) (va_A [(h, .inr (9, [.null, .null, .null, .int 0]))] sz)) 6 255 (va_A [(h, .inr (9, [.null, .null, .null, .int 0]))] sz) := by
  refine mb_of (Qc := fun A => va_Qv (fun (u : Nat → Nat) => u 0 = h) (fun u t => va_P D vwCl [(u 0, .inr (9, [.ref (u 1), .ref (u 3), .ref (u 5), .int 0])), (u 1, .inr (5, [.ref (u 2)])), (u 2, .inl (dA 0, 84, .inl (fun _ => 0))), (u 3, .inr (5, [.ref (u 4)])), (u 4, .inl (dA 0, 84, .inl (fun _ => 0))), (u 5, .inr (5, [.ref (u 6)])), (u 6, .inl (dA 0, 84, .inl (fun _ => 0)))] t.heap ∧ va_D A [(u 0, .inr (9, [.ref (u 1), .ref (u 3), .ref (u 5), .int 0])), (u 1, .inr (5, [.ref (u 2)])), (u 2, .inl (dA 0, 84, .inl (fun _ => 0))), (u 3, .inr (5, [.ref (u 4)])), (u 4, .inl (dA 0, 84, .inl (fun _ => 0))), (u 5, .inr (5, [.ref (u 6)])), (u 6, .inl (dA 0, 84, .inl (fun _ => 0)))]) A) RX6 rfl (by decide) (Nat.le_of_ble_eq_true rfl) ?_
  intro p e s m args below meth c hae hx hb hr hts hown hlocks hml hnm hP hK A hAe hD hZ hS hA ls hl
  replace hl : lv_has ls 1 [(0, .ref h)] := hl
  refine lv_aload_n hx hb dX6_init_0 rfl (lv_at hl 0 rfl) ?_
  refine W.objInit hx hb hown (hts _ q278) (hts _ q263) (hts _ q264) rfl (by rw [hml]; exact hl.1) rfl dX6_init_1 (Nat.le_of_ble_eq_true rfl) (Nat.le_of_ble_eq_true rfl) ?_
  refine W.eq (g2 := F0 m 4 ls []) rfl ?_
  refine lv_aload_n hx hb dX6_init_4 rfl (lv_at hl 0 rfl) ?_
  refine va_new (ci := 5) (fs := [.null]) (C := RX2) (T := TX2) (N := 1) hx hb hts inAX2 tyX2 tyX2_ok hown (hts _ q279) (hts _ q280) (hts _ q204) hK hP hD hS hA rfl fsNX2 (Nat.le_of_ble_eq_true rfl) (Nat.le_of_ble_eq_true rfl) dX6_init_5 (fun q1 H hP hD hS => ?_)
  replace hP : va_P D vwCl [(h, .inr (9, [.null, .null, .null, .int 0])), (q1, .inr (5, [.null]))] H := hP
  replace hD : va_D A [(h, .inr (9, [.null, .null, .null, .int 0])), (q1, .inr (5, [.null]))] := hD
  refine W.widen (k := 1) (n := 1) (Nat.le_of_ble_eq_true rfl) (Nat.le_of_ble_eq_true rfl) ?_
  refine lv_dup hx hb dX6_init_8 rfl ?_
  refine lv_bipush (v := 84) hx hb dX6_init_9 (by decide) ?_
  replace hPc := hP.sub (ws' := [(q1, .inr (5, [.null]))]) [1] rfl
  replace hDc := hD.sub (ws' := [(q1, .inr (5, [.null]))]) [1] (by decide) rfl
  replace hFc := va_free (wc := [(q1, .inr (5, [.null]))]) hD hS hA [1] rfl
  refine va_callv (va_runI (As := [.int 84]) (rest := [.ref q1, .ref h]) ⟨hx, hb, hml, hown, hts⟩ (i_Row_84 l D dA E q1 H.size ) (cwI 1 hts (ga_I q281) rfl rfl rfl (hts _ q204) (hts _ q282) (hts _ q283) rfl (by decide +kernel) ⟨(Nat.le_of_ble_eq_true rfl), (Nat.le_of_ble_eq_true rfl)⟩) ⟨pb_blind, pb_pre hK hPc hDc hZ hS hFc _⟩ rfl rfl hl.1 rfl (lv_room (Nat.le_of_ble_eq_true rfl)) dX6_init_11 ⟨(Nat.le_of_ble_eq_true rfl), (Nat.le_of_ble_eq_true rfl)⟩) hS (fun q _ h => hFc q h) hFc (fun u t H1 locs ht hvm hw hB hz1 hk1 hS => ?_)
  refine W.widen (k := 2) (n := 85) (Nat.le_of_ble_eq_true rfl) (Nat.le_of_ble_eq_true rfl) ?_
  obtain ⟨u2, rfl⟩ : ∃ z, z = u := ⟨_, rfl⟩
  have hw3 := hw
  clear hw
  obtain ⟨hP1, hD1⟩ := hB
  rw [ht] at hP1
  obtain ⟨hP, hD⟩ := va_join (wr := [(h, .inr (9, [.null, .null, .null, .int 0]))]) (w1 := [(q1, .inr (5, [.ref u2])), (u2, .inl (dA 0, 84, .inl (fun _ => 0)))]) hP hD [1] [0] rfl rfl (by decide) (by decide) hk1 hFc hP1 hD1
  generalize H1 = H at hP hS ⊢
  replace hP : va_P D vwCl [(h, .inr (9, [.null, .null, .null, .int 0])), (q1, .inr (5, [.ref u2])), (u2, .inl (dA 0, 84, .inl (fun _ => 0)))] H := hP
  replace hD : va_D A [(h, .inr (9, [.null, .null, .null, .int 0])), (q1, .inr (5, [.ref u2])), (u2, .inl (dA 0, 84, .inl (fun _ => 0)))] := hD
  refine va_putF (D := D) (ci := 9) (v := .ref q1) (ty := .object "TallowIndex$Row") (C := RX6) (T := TX6) (N := 4) hx hb hts inAX6 tyX6 tyX6_ok nmX6 hown hK hP hD hS 0 rfl rfl 0 (by decide) (hts _ q206) (fun _ h9 => h9) rfl hnm rfl (tyX6_ok 0 (by decide)) rfl rfl (Nat.le_of_ble_eq_true rfl) dX6_init_14 (fun H locs hP hD hS => ?_)
  replace hP : va_P D vwCl [(h, .inr (9, [.ref q1, .null, .null, .int 0])), (q1, .inr (5, [.ref u2])), (u2, .inl (dA 0, 84, .inl (fun _ => 0)))] H := hP
  replace hD : va_D A [(h, .inr (9, [.ref q1, .null, .null, .int 0])), (q1, .inr (5, [.ref u2])), (u2, .inl (dA 0, 84, .inl (fun _ => 0)))] := hD
  refine lv_aload_n hx hb dX6_init_17 rfl (lv_at hl 0 rfl) ?_
  refine va_new (ci := 5) (fs := [.null]) (C := RX2) (T := TX2) (N := 1) hx hb hts inAX2 tyX2 tyX2_ok hown (hts _ q279) (hts _ q280) (hts _ q204) hK hP hD hS hA rfl fsNX2 (Nat.le_of_ble_eq_true rfl) (Nat.le_of_ble_eq_true rfl) dX6_init_18 (fun q4 H hP hD hS => ?_)
  replace hP : va_P D vwCl [(h, .inr (9, [.ref q1, .null, .null, .int 0])), (q1, .inr (5, [.ref u2])), (u2, .inl (dA 0, 84, .inl (fun _ => 0))), (q4, .inr (5, [.null]))] H := hP
  replace hD : va_D A [(h, .inr (9, [.ref q1, .null, .null, .int 0])), (q1, .inr (5, [.ref u2])), (u2, .inl (dA 0, 84, .inl (fun _ => 0))), (q4, .inr (5, [.null]))] := hD
  refine W.widen (k := 3) (n := 86) (Nat.le_of_ble_eq_true rfl) (Nat.le_of_ble_eq_true rfl) ?_
  refine lv_dup hx hb dX6_init_21 rfl ?_
  refine lv_bipush (v := 84) hx hb dX6_init_22 (by decide) ?_
  replace hPc := hP.sub (ws' := [(q4, .inr (5, [.null]))]) [3] rfl
  replace hDc := hD.sub (ws' := [(q4, .inr (5, [.null]))]) [3] (by decide) rfl
  replace hFc := va_free (wc := [(q4, .inr (5, [.null]))]) hD hS hA [3] rfl
  refine va_callv (va_runI (As := [.int 84]) (rest := [.ref q4, .ref h]) ⟨hx, hb, hml, hown, hts⟩ (i_Row_84 l D dA E q4 H.size ) (cwI 1 hts (ga_I q281) rfl rfl rfl (hts _ q204) (hts _ q282) (hts _ q283) rfl (by decide +kernel) ⟨(Nat.le_of_ble_eq_true rfl), (Nat.le_of_ble_eq_true rfl)⟩) ⟨pb_blind, pb_pre hK hPc hDc hZ hS hFc _⟩ rfl rfl hl.1 rfl (lv_room (Nat.le_of_ble_eq_true rfl)) dX6_init_24 ⟨(Nat.le_of_ble_eq_true rfl), (Nat.le_of_ble_eq_true rfl)⟩) hS (fun q _ h => hFc q h) hFc (fun u t H1 locs ht hvm hw hB hz1 hk1 hS => ?_)
  refine W.widen (k := 4) (n := 170) (Nat.le_of_ble_eq_true rfl) (Nat.le_of_ble_eq_true rfl) ?_
  obtain ⟨u5, rfl⟩ : ∃ z, z = u := ⟨_, rfl⟩
  have hw6 := hw
  clear hw
  obtain ⟨hP1, hD1⟩ := hB
  rw [ht] at hP1
  obtain ⟨hP, hD⟩ := va_join (wr := [(h, .inr (9, [.ref q1, .null, .null, .int 0])), (q1, .inr (5, [.ref u2])), (u2, .inl (dA 0, 84, .inl (fun _ => 0)))]) (w1 := [(q4, .inr (5, [.ref u5])), (u5, .inl (dA 0, 84, .inl (fun _ => 0)))]) hP hD [3] [0, 1, 2] rfl rfl (by decide) (by decide) hk1 hFc hP1 hD1
  generalize H1 = H at hP hS ⊢
  replace hP : va_P D vwCl [(h, .inr (9, [.ref q1, .null, .null, .int 0])), (q1, .inr (5, [.ref u2])), (u2, .inl (dA 0, 84, .inl (fun _ => 0))), (q4, .inr (5, [.ref u5])), (u5, .inl (dA 0, 84, .inl (fun _ => 0)))] H := hP
  replace hD : va_D A [(h, .inr (9, [.ref q1, .null, .null, .int 0])), (q1, .inr (5, [.ref u2])), (u2, .inl (dA 0, 84, .inl (fun _ => 0))), (q4, .inr (5, [.ref u5])), (u5, .inl (dA 0, 84, .inl (fun _ => 0)))] := hD
  refine va_putF (D := D) (ci := 9) (v := .ref q4) (ty := .object "TallowIndex$Row") (C := RX6) (T := TX6) (N := 4) hx hb hts inAX6 tyX6 tyX6_ok nmX6 hown hK hP hD hS 0 rfl rfl 1 (by decide) (hts _ q211) (fun _ h9 => h9) rfl hnm rfl (tyX6_ok 1 (by decide)) rfl rfl (Nat.le_of_ble_eq_true rfl) dX6_init_27 (fun H locs hP hD hS => ?_)
  replace hP : va_P D vwCl [(h, .inr (9, [.ref q1, .ref q4, .null, .int 0])), (q1, .inr (5, [.ref u2])), (u2, .inl (dA 0, 84, .inl (fun _ => 0))), (q4, .inr (5, [.ref u5])), (u5, .inl (dA 0, 84, .inl (fun _ => 0)))] H := hP
  replace hD : va_D A [(h, .inr (9, [.ref q1, .ref q4, .null, .int 0])), (q1, .inr (5, [.ref u2])), (u2, .inl (dA 0, 84, .inl (fun _ => 0))), (q4, .inr (5, [.ref u5])), (u5, .inl (dA 0, 84, .inl (fun _ => 0)))] := hD
  refine lv_aload_n hx hb dX6_init_30 rfl (lv_at hl 0 rfl) ?_
  refine va_new (ci := 5) (fs := [.null]) (C := RX2) (T := TX2) (N := 1) hx hb hts inAX2 tyX2 tyX2_ok hown (hts _ q279) (hts _ q280) (hts _ q204) hK hP hD hS hA rfl fsNX2 (Nat.le_of_ble_eq_true rfl) (Nat.le_of_ble_eq_true rfl) dX6_init_31 (fun q7 H hP hD hS => ?_)
  replace hP : va_P D vwCl [(h, .inr (9, [.ref q1, .ref q4, .null, .int 0])), (q1, .inr (5, [.ref u2])), (u2, .inl (dA 0, 84, .inl (fun _ => 0))), (q4, .inr (5, [.ref u5])), (u5, .inl (dA 0, 84, .inl (fun _ => 0))), (q7, .inr (5, [.null]))] H := hP
  replace hD : va_D A [(h, .inr (9, [.ref q1, .ref q4, .null, .int 0])), (q1, .inr (5, [.ref u2])), (u2, .inl (dA 0, 84, .inl (fun _ => 0))), (q4, .inr (5, [.ref u5])), (u5, .inl (dA 0, 84, .inl (fun _ => 0))), (q7, .inr (5, [.null]))] := hD
  refine W.widen (k := 5) (n := 171) (Nat.le_of_ble_eq_true rfl) (Nat.le_of_ble_eq_true rfl) ?_
  refine lv_dup hx hb dX6_init_34 rfl ?_
  refine lv_bipush (v := 84) hx hb dX6_init_35 (by decide) ?_
  replace hPc := hP.sub (ws' := [(q7, .inr (5, [.null]))]) [5] rfl
  replace hDc := hD.sub (ws' := [(q7, .inr (5, [.null]))]) [5] (by decide) rfl
  replace hFc := va_free (wc := [(q7, .inr (5, [.null]))]) hD hS hA [5] rfl
  refine va_callv (va_runI (As := [.int 84]) (rest := [.ref q7, .ref h]) ⟨hx, hb, hml, hown, hts⟩ (i_Row_84 l D dA E q7 H.size ) (cwI 1 hts (ga_I q281) rfl rfl rfl (hts _ q204) (hts _ q282) (hts _ q283) rfl (by decide +kernel) ⟨(Nat.le_of_ble_eq_true rfl), (Nat.le_of_ble_eq_true rfl)⟩) ⟨pb_blind, pb_pre hK hPc hDc hZ hS hFc _⟩ rfl rfl hl.1 rfl (lv_room (Nat.le_of_ble_eq_true rfl)) dX6_init_37 ⟨(Nat.le_of_ble_eq_true rfl), (Nat.le_of_ble_eq_true rfl)⟩) hS (fun q _ h => hFc q h) hFc (fun u t H1 locs ht hvm hw hB hz1 hk1 hS => ?_)
  refine W.widen (k := 6) (n := 255) (Nat.le_of_ble_eq_true rfl) (Nat.le_of_ble_eq_true rfl) ?_
  obtain ⟨u8, rfl⟩ : ∃ z, z = u := ⟨_, rfl⟩
  have hw9 := hw
  clear hw
  obtain ⟨hP1, hD1⟩ := hB
  rw [ht] at hP1
  obtain ⟨hP, hD⟩ := va_join (wr := [(h, .inr (9, [.ref q1, .ref q4, .null, .int 0])), (q1, .inr (5, [.ref u2])), (u2, .inl (dA 0, 84, .inl (fun _ => 0))), (q4, .inr (5, [.ref u5])), (u5, .inl (dA 0, 84, .inl (fun _ => 0)))]) (w1 := [(q7, .inr (5, [.ref u8])), (u8, .inl (dA 0, 84, .inl (fun _ => 0)))]) hP hD [5] [0, 1, 2, 3, 4] rfl rfl (by decide) (by decide) hk1 hFc hP1 hD1
  generalize H1 = H at hP hS ⊢
  replace hP : va_P D vwCl [(h, .inr (9, [.ref q1, .ref q4, .null, .int 0])), (q1, .inr (5, [.ref u2])), (u2, .inl (dA 0, 84, .inl (fun _ => 0))), (q4, .inr (5, [.ref u5])), (u5, .inl (dA 0, 84, .inl (fun _ => 0))), (q7, .inr (5, [.ref u8])), (u8, .inl (dA 0, 84, .inl (fun _ => 0)))] H := hP
  replace hD : va_D A [(h, .inr (9, [.ref q1, .ref q4, .null, .int 0])), (q1, .inr (5, [.ref u2])), (u2, .inl (dA 0, 84, .inl (fun _ => 0))), (q4, .inr (5, [.ref u5])), (u5, .inl (dA 0, 84, .inl (fun _ => 0))), (q7, .inr (5, [.ref u8])), (u8, .inl (dA 0, 84, .inl (fun _ => 0)))] := hD
  refine va_putF (D := D) (ci := 9) (v := .ref q7) (ty := .object "TallowIndex$Row") (C := RX6) (T := TX6) (N := 4) hx hb hts inAX6 tyX6 tyX6_ok nmX6 hown hK hP hD hS 0 rfl rfl 2 (by decide) (hts _ q212) (fun _ h9 => h9) rfl hnm rfl (tyX6_ok 2 (by decide)) rfl rfl (Nat.le_of_ble_eq_true rfl) dX6_init_40 (fun H locs hP hD hS => ?_)
  replace hP : va_P D vwCl [(h, .inr (9, [.ref q1, .ref q4, .ref q7, .int 0])), (q1, .inr (5, [.ref u2])), (u2, .inl (dA 0, 84, .inl (fun _ => 0))), (q4, .inr (5, [.ref u5])), (u5, .inl (dA 0, 84, .inl (fun _ => 0))), (q7, .inr (5, [.ref u8])), (u8, .inl (dA 0, 84, .inl (fun _ => 0)))] H := hP
  replace hD : va_D A [(h, .inr (9, [.ref q1, .ref q4, .ref q7, .int 0])), (q1, .inr (5, [.ref u2])), (u2, .inl (dA 0, 84, .inl (fun _ => 0))), (q4, .inr (5, [.ref u5])), (u5, .inl (dA 0, 84, .inl (fun _ => 0))), (q7, .inr (5, [.ref u8])), (u8, .inl (dA 0, 84, .inl (fun _ => 0)))] := hD
  refine W.widen (k := 6) (n := 255) (Nat.le_of_ble_eq_true rfl) (Nat.le_of_ble_eq_true rfl) ?_
  have hP9 := hP.sub (ws' := [(h, .inr (9, [.ref q1, .ref q4, .ref q7, .int 0])), (q1, .inr (5, [.ref u2])), (u2, .inl (dA 0, 84, .inl (fun _ => 0))), (q4, .inr (5, [.ref u5])), (u5, .inl (dA 0, 84, .inl (fun _ => 0))), (q7, .inr (5, [.ref u8])), (u8, .inl (dA 0, 84, .inl (fun _ => 0)))]) [0, 1, 2, 3, 4, 5, 6] rfl
  have hD9 := hD.sub (ws' := [(h, .inr (9, [.ref q1, .ref q4, .ref q7, .int 0])), (q1, .inr (5, [.ref u2])), (u2, .inl (dA 0, 84, .inl (fun _ => 0))), (q4, .inr (5, [.ref u5])), (u5, .inl (dA 0, 84, .inl (fun _ => 0))), (q7, .inr (5, [.ref u8])), (u8, .inl (dA 0, 84, .inl (fun _ => 0)))]) [0, 1, 2, 3, 4, 5, 6] (by decide) rfl
  exact W.vret hx hb hr (fun t ht hW => ⟨⟨(fun k => ([h, q1, u2, q4, u5, q7, u8] : List Nat).getD k 0), rfl, rfl, ⟨by rw [ht]; exact hP9, hD9⟩⟩, hS.F ht⟩) hS.2.2 dX6_init_43

set_option maxHeartbeats 4000000 in
set_option maxRecDepth 100000 in
theorem i_Document (l : Launch) (D : va_G) (dA : Nat → ClassId) (E : Nat) (h : Nat) (p0 p1 : Int32) (sz : Nat)   : Met l yX0_init (wq (.code yX0_init cX0_init 3 none)) { frames := 3, cells := 7, slots := 259, locals := 53 } (va_Pc [.ref h, .int p0, .int p1] (PcB D dA E [(h, .inr (3, [.int 0, .int 0, .null, .int 0]))] sz)) (va_Qv (fun (u : Nat → Nat) => True) (fun u t => va_P D vwCl [(h, .inr (3, [.int p0, .int p1, .ref (u 0), .int 0])), (u 0, .inr (9, [.ref (u 1), .ref (u 3), .ref (u 5), .int 0])), (u 1, .inr (5, [.ref (u 2)])), (u 2, .inl (dA 0, 84, .inl (fun _ => 0))), (u 3, .inr (5, [.ref (u 4)])), (u 4, .inl (dA 0, 84, .inl (fun _ => 0))), (u 5, .inr (5, [.ref (u 6)])), (u 6, .inl (dA 0, 84, .inl (fun _ => 0)))] t.heap ∧ va_D (va_A [(h, .inr (3, [.int 0, .int 0, .null, .int 0]))] sz) [(h, .inr (3, [.int p0, .int p1, .ref (u 0), .int 0])), (u 0, .inr (9, [.ref (u 1), .ref (u 3), .ref (u 5), .int 0])), (u 1, .inr (5, [.ref (u 2)])), (u 2, .inl (dA 0, 84, .inl (fun _ => 0))), (u 3, .inr (5, [.ref (u 4)])), (u 4, .inl (dA 0, 84, .inl (fun _ => 0))), (u 5, .inr (5, [.ref (u 6)])), (u 6, .inl (dA 0, 84, .inl (fun _ => 0)))]) (va_A [(h, .inr (3, [.int 0, .int 0, .null, .int 0]))] sz)) 7 259 (va_A [(h, .inr (3, [.int 0, .int 0, .null, .int 0]))] sz) := by
  refine mb_of (Qc := fun A => va_Qv (fun (u : Nat → Nat) => True) (fun u t => va_P D vwCl [(h, .inr (3, [.int p0, .int p1, .ref (u 0), .int 0])), (u 0, .inr (9, [.ref (u 1), .ref (u 3), .ref (u 5), .int 0])), (u 1, .inr (5, [.ref (u 2)])), (u 2, .inl (dA 0, 84, .inl (fun _ => 0))), (u 3, .inr (5, [.ref (u 4)])), (u 4, .inl (dA 0, 84, .inl (fun _ => 0))), (u 5, .inr (5, [.ref (u 6)])), (u 6, .inl (dA 0, 84, .inl (fun _ => 0)))] t.heap ∧ va_D A [(h, .inr (3, [.int p0, .int p1, .ref (u 0), .int 0])), (u 0, .inr (9, [.ref (u 1), .ref (u 3), .ref (u 5), .int 0])), (u 1, .inr (5, [.ref (u 2)])), (u 2, .inl (dA 0, 84, .inl (fun _ => 0))), (u 3, .inr (5, [.ref (u 4)])), (u 4, .inl (dA 0, 84, .inl (fun _ => 0))), (u 5, .inr (5, [.ref (u 6)])), (u 6, .inl (dA 0, 84, .inl (fun _ => 0)))]) A) RX0 rfl (by decide) (Nat.le_of_ble_eq_true rfl) ?_
  intro p e s m args below meth c hae hx hb hr hts hown hlocks hml hnm hP hK A hAe hD hZ hS hA ls hl
  replace hl : lv_has ls 3 [(0, .ref h), (1, .int p0), (2, .int p1)] := hl
  refine lv_aload_n hx hb dX0_init_0 rfl (lv_at hl 0 rfl) ?_
  refine W.objInit hx hb hown (hts _ q284) (hts _ q263) (hts _ q264) rfl (by rw [hml]; exact hl.1) rfl dX0_init_1 (Nat.le_of_ble_eq_true rfl) (Nat.le_of_ble_eq_true rfl) ?_
  refine W.eq (g2 := F0 m 4 ls []) rfl ?_
  refine lv_aload_n hx hb dX0_init_4 rfl (lv_at hl 0 rfl) ?_
  refine va_new (ci := 9) (fs := [.null, .null, .null, .int 0]) (C := RX6) (T := TX6) (N := 4) hx hb hts inAX6 tyX6 tyX6_ok hown (hts _ q285) (hts _ q286) (hts _ q218) hK hP hD hS hA rfl fsNX6 (Nat.le_of_ble_eq_true rfl) (Nat.le_of_ble_eq_true rfl) dX0_init_5 (fun q1 H hP hD hS => ?_)
  replace hP : va_P D vwCl [(h, .inr (3, [.int 0, .int 0, .null, .int 0])), (q1, .inr (9, [.null, .null, .null, .int 0]))] H := hP
  replace hD : va_D A [(h, .inr (3, [.int 0, .int 0, .null, .int 0])), (q1, .inr (9, [.null, .null, .null, .int 0]))] := hD
  refine W.widen (k := 1) (n := 4) (Nat.le_of_ble_eq_true rfl) (Nat.le_of_ble_eq_true rfl) ?_
  refine lv_dup hx hb dX0_init_8 rfl ?_
  replace hPc := hP.sub (ws' := [(q1, .inr (9, [.null, .null, .null, .int 0]))]) [1] rfl
  replace hDc := hD.sub (ws' := [(q1, .inr (9, [.null, .null, .null, .int 0]))]) [1] (by decide) rfl
  replace hFc := va_free (wc := [(q1, .inr (9, [.null, .null, .null, .int 0]))]) hD hS hA [1] rfl
  refine va_callv (va_runIN (As := []) (rest := [.ref q1, .ref h]) ⟨hx, hb, hml, hown, hts⟩ (i_Text l D dA E q1 H.size ) ⟨(va_cnB (host := "TallowIndex") 0 hts (ga_I q287) rfl rfl rfl (znM_3 hZ.1) (hts _ q218) (by decide +kernel) ⟨(Nat.le_of_ble_eq_true rfl), (Nat.le_of_ble_eq_true rfl)⟩), rfl, hts _ q288⟩ ⟨pb_blind, pb_pre hK hPc hDc hZ hS hFc _⟩ rfl rfl hl.1 rfl (lv_room (Nat.le_of_ble_eq_true rfl)) dX0_init_9 ⟨(Nat.le_of_ble_eq_true rfl), (Nat.le_of_ble_eq_true rfl)⟩) hS (fun q _ h => hFc q h) hFc (fun u t H1 locs ht hvm hw hB hz1 hk1 hS => ?_)
  refine W.widen (k := 7) (n := 259) (Nat.le_of_ble_eq_true rfl) (Nat.le_of_ble_eq_true rfl) ?_
  obtain ⟨u2, rfl⟩ : ∃ z, z = u := ⟨_, rfl⟩
  have hw3 := hw
  clear hw
  obtain ⟨hP1, hD1⟩ := hB
  rw [ht] at hP1
  obtain ⟨hP, hD⟩ := va_join (wr := [(h, .inr (3, [.int 0, .int 0, .null, .int 0]))]) (w1 := [(u2 0, .inr (9, [.ref (u2 1), .ref (u2 3), .ref (u2 5), .int 0])), (u2 1, .inr (5, [.ref (u2 2)])), (u2 2, .inl (dA 0, 84, .inl (fun _ => 0))), (u2 3, .inr (5, [.ref (u2 4)])), (u2 4, .inl (dA 0, 84, .inl (fun _ => 0))), (u2 5, .inr (5, [.ref (u2 6)])), (u2 6, .inl (dA 0, 84, .inl (fun _ => 0)))]) hP hD [1] [0] rfl rfl (by decide) (by decide) hk1 hFc hP1 hD1
  generalize H1 = H at hP hS ⊢
  replace hP : va_P D vwCl [(h, .inr (3, [.int 0, .int 0, .null, .int 0])), (u2 0, .inr (9, [.ref (u2 1), .ref (u2 3), .ref (u2 5), .int 0])), (u2 1, .inr (5, [.ref (u2 2)])), (u2 2, .inl (dA 0, 84, .inl (fun _ => 0))), (u2 3, .inr (5, [.ref (u2 4)])), (u2 4, .inl (dA 0, 84, .inl (fun _ => 0))), (u2 5, .inr (5, [.ref (u2 6)])), (u2 6, .inl (dA 0, 84, .inl (fun _ => 0)))] H := hP
  replace hD : va_D A [(h, .inr (3, [.int 0, .int 0, .null, .int 0])), (u2 0, .inr (9, [.ref (u2 1), .ref (u2 3), .ref (u2 5), .int 0])), (u2 1, .inr (5, [.ref (u2 2)])), (u2 2, .inl (dA 0, 84, .inl (fun _ => 0))), (u2 3, .inr (5, [.ref (u2 4)])), (u2 4, .inl (dA 0, 84, .inl (fun _ => 0))), (u2 5, .inr (5, [.ref (u2 6)])), (u2 6, .inl (dA 0, 84, .inl (fun _ => 0)))] := hD
  rw [hw3] at hP hD
  replace hP : va_P D vwCl [(h, .inr (3, [.int 0, .int 0, .null, .int 0])), (q1, .inr (9, [.ref (u2 1), .ref (u2 3), .ref (u2 5), .int 0])), (u2 1, .inr (5, [.ref (u2 2)])), (u2 2, .inl (dA 0, 84, .inl (fun _ => 0))), (u2 3, .inr (5, [.ref (u2 4)])), (u2 4, .inl (dA 0, 84, .inl (fun _ => 0))), (u2 5, .inr (5, [.ref (u2 6)])), (u2 6, .inl (dA 0, 84, .inl (fun _ => 0)))] H := hP
  replace hD : va_D A [(h, .inr (3, [.int 0, .int 0, .null, .int 0])), (q1, .inr (9, [.ref (u2 1), .ref (u2 3), .ref (u2 5), .int 0])), (u2 1, .inr (5, [.ref (u2 2)])), (u2 2, .inl (dA 0, 84, .inl (fun _ => 0))), (u2 3, .inr (5, [.ref (u2 4)])), (u2 4, .inl (dA 0, 84, .inl (fun _ => 0))), (u2 5, .inr (5, [.ref (u2 6)])), (u2 6, .inl (dA 0, 84, .inl (fun _ => 0)))] := hD
  clear hw3
  refine va_putF (D := D) (ci := 3) (v := .ref q1) (ty := .object "TallowIndex$Text") (C := RX0) (T := TX0) (N := 4) hx hb hts inAX0 tyX0 tyX0_ok nmX0 hown hK hP hD hS 0 rfl rfl 2 (by decide) (hts _ q289) (fun _ h9 => h9) rfl hnm rfl (tyX0_ok 2 (by decide)) rfl rfl (Nat.le_of_ble_eq_true rfl) dX0_init_12 (fun H locs hP hD hS => ?_)
  replace hP : va_P D vwCl [(h, .inr (3, [.int 0, .int 0, .ref q1, .int 0])), (q1, .inr (9, [.ref (u2 1), .ref (u2 3), .ref (u2 5), .int 0])), (u2 1, .inr (5, [.ref (u2 2)])), (u2 2, .inl (dA 0, 84, .inl (fun _ => 0))), (u2 3, .inr (5, [.ref (u2 4)])), (u2 4, .inl (dA 0, 84, .inl (fun _ => 0))), (u2 5, .inr (5, [.ref (u2 6)])), (u2 6, .inl (dA 0, 84, .inl (fun _ => 0)))] H := hP
  replace hD : va_D A [(h, .inr (3, [.int 0, .int 0, .ref q1, .int 0])), (q1, .inr (9, [.ref (u2 1), .ref (u2 3), .ref (u2 5), .int 0])), (u2 1, .inr (5, [.ref (u2 2)])), (u2 2, .inl (dA 0, 84, .inl (fun _ => 0))), (u2 3, .inr (5, [.ref (u2 4)])), (u2 4, .inl (dA 0, 84, .inl (fun _ => 0))), (u2 5, .inr (5, [.ref (u2 6)])), (u2 6, .inl (dA 0, 84, .inl (fun _ => 0)))] := hD
  refine lv_aload_n hx hb dX0_init_15 rfl (lv_at hl 0 rfl) ?_
  refine lv_iload_n hx hb dX0_init_16 rfl (lv_at hl 1 rfl) ?_
  refine va_putF (D := D) (ci := 3) (v := .int p0) (ty := .int) (C := RX0) (T := TX0) (N := 4) hx hb hts inAX0 tyX0 tyX0_ok nmX0 hown hK hP hD hS 0 rfl rfl 0 (by decide) (hts _ q290) (fun _ h9 => h9) rfl hnm rfl (tyX0_ok 0 (by decide)) rfl rfl (Nat.le_of_ble_eq_true rfl) dX0_init_17 (fun H locs hP hD hS => ?_)
  replace hP : va_P D vwCl [(h, .inr (3, [.int p0, .int 0, .ref q1, .int 0])), (q1, .inr (9, [.ref (u2 1), .ref (u2 3), .ref (u2 5), .int 0])), (u2 1, .inr (5, [.ref (u2 2)])), (u2 2, .inl (dA 0, 84, .inl (fun _ => 0))), (u2 3, .inr (5, [.ref (u2 4)])), (u2 4, .inl (dA 0, 84, .inl (fun _ => 0))), (u2 5, .inr (5, [.ref (u2 6)])), (u2 6, .inl (dA 0, 84, .inl (fun _ => 0)))] H := hP
  replace hD : va_D A [(h, .inr (3, [.int p0, .int 0, .ref q1, .int 0])), (q1, .inr (9, [.ref (u2 1), .ref (u2 3), .ref (u2 5), .int 0])), (u2 1, .inr (5, [.ref (u2 2)])), (u2 2, .inl (dA 0, 84, .inl (fun _ => 0))), (u2 3, .inr (5, [.ref (u2 4)])), (u2 4, .inl (dA 0, 84, .inl (fun _ => 0))), (u2 5, .inr (5, [.ref (u2 6)])), (u2 6, .inl (dA 0, 84, .inl (fun _ => 0)))] := hD
  refine lv_aload_n hx hb dX0_init_20 rfl (lv_at hl 0 rfl) ?_
  refine lv_iload_n hx hb dX0_init_21 rfl (lv_at hl 2 rfl) ?_
  refine va_putF (D := D) (ci := 3) (v := .int p1) (ty := .int) (C := RX0) (T := TX0) (N := 4) hx hb hts inAX0 tyX0 tyX0_ok nmX0 hown hK hP hD hS 0 rfl rfl 1 (by decide) (hts _ q291) (fun _ h9 => h9) rfl hnm rfl (tyX0_ok 1 (by decide)) rfl rfl (Nat.le_of_ble_eq_true rfl) dX0_init_22 (fun H locs hP hD hS => ?_)
  replace hP : va_P D vwCl [(h, .inr (3, [.int p0, .int p1, .ref q1, .int 0])), (q1, .inr (9, [.ref (u2 1), .ref (u2 3), .ref (u2 5), .int 0])), (u2 1, .inr (5, [.ref (u2 2)])), (u2 2, .inl (dA 0, 84, .inl (fun _ => 0))), (u2 3, .inr (5, [.ref (u2 4)])), (u2 4, .inl (dA 0, 84, .inl (fun _ => 0))), (u2 5, .inr (5, [.ref (u2 6)])), (u2 6, .inl (dA 0, 84, .inl (fun _ => 0)))] H := hP
  replace hD : va_D A [(h, .inr (3, [.int p0, .int p1, .ref q1, .int 0])), (q1, .inr (9, [.ref (u2 1), .ref (u2 3), .ref (u2 5), .int 0])), (u2 1, .inr (5, [.ref (u2 2)])), (u2 2, .inl (dA 0, 84, .inl (fun _ => 0))), (u2 3, .inr (5, [.ref (u2 4)])), (u2 4, .inl (dA 0, 84, .inl (fun _ => 0))), (u2 5, .inr (5, [.ref (u2 6)])), (u2 6, .inl (dA 0, 84, .inl (fun _ => 0)))] := hD
  refine W.widen (k := 7) (n := 259) (Nat.le_of_ble_eq_true rfl) (Nat.le_of_ble_eq_true rfl) ?_
  have hP9 := hP.sub (ws' := [(h, .inr (3, [.int p0, .int p1, .ref q1, .int 0])), (q1, .inr (9, [.ref (u2 1), .ref (u2 3), .ref (u2 5), .int 0])), (u2 1, .inr (5, [.ref (u2 2)])), (u2 2, .inl (dA 0, 84, .inl (fun _ => 0))), (u2 3, .inr (5, [.ref (u2 4)])), (u2 4, .inl (dA 0, 84, .inl (fun _ => 0))), (u2 5, .inr (5, [.ref (u2 6)])), (u2 6, .inl (dA 0, 84, .inl (fun _ => 0)))]) [0, 1, 2, 3, 4, 5, 6, 7] rfl
  have hD9 := hD.sub (ws' := [(h, .inr (3, [.int p0, .int p1, .ref q1, .int 0])), (q1, .inr (9, [.ref (u2 1), .ref (u2 3), .ref (u2 5), .int 0])), (u2 1, .inr (5, [.ref (u2 2)])), (u2 2, .inl (dA 0, 84, .inl (fun _ => 0))), (u2 3, .inr (5, [.ref (u2 4)])), (u2 4, .inl (dA 0, 84, .inl (fun _ => 0))), (u2 5, .inr (5, [.ref (u2 6)])), (u2 6, .inl (dA 0, 84, .inl (fun _ => 0)))]) [0, 1, 2, 3, 4, 5, 6, 7] (by decide) rfl
  exact W.vret hx hb hr (fun t ht hW => ⟨⟨(fun k => ([q1, u2 1, u2 2, u2 3, u2 4, u2 5, u2 6] : List Nat).getD k 0), rfl, trivial, ⟨by rw [ht]; exact hP9, hD9⟩⟩, hS.F ht⟩) hS.2.2 dX0_init_25

set_option maxHeartbeats 4000000 in
set_option maxRecDepth 100000 in
theorem i_View (l : Launch) (D : va_G) (dA : Nat → ClassId) (E : Nat) (h r0 : Nat) (p0 p1 : Int32) (sz : Nat)   : Met l yX7_init (wq (.code yX7_init cX7_init 4 none)) { frames := 1, cells := 0, slots := 0, locals := 12 } (va_Pc [.ref h, .int p0, .ref r0, .int p1] (PcB D dA E [(h, .inr (10, [.int 0, .null, .int 0]))] sz)) (va_Qv (fun (u : Unit) => True) (fun u t => va_P D vwCl [(h, .inr (10, [.int p0, .ref r0, .int p1]))] t.heap ∧ va_D (va_A [(h, .inr (10, [.int 0, .null, .int 0]))] sz) [(h, .inr (10, [.int p0, .ref r0, .int p1]))]) (va_A [(h, .inr (10, [.int 0, .null, .int 0]))] sz)) 0 0 (va_A [(h, .inr (10, [.int 0, .null, .int 0]))] sz) := by
  refine mb_of (Qc := fun A => va_Qv (fun (u : Unit) => True) (fun u t => va_P D vwCl [(h, .inr (10, [.int p0, .ref r0, .int p1]))] t.heap ∧ va_D A [(h, .inr (10, [.int p0, .ref r0, .int p1]))]) A) RX7 rfl (by decide) (Nat.le_of_ble_eq_true rfl) ?_
  intro p e s m args below meth c hae hx hb hr hts hown hlocks hml hnm hP hK A hAe hD hZ hS hA ls hl
  replace hl : lv_has ls 4 [(0, .ref h), (1, .int p0), (2, .ref r0), (3, .int p1)] := hl
  refine lv_aload_n hx hb dX7_init_0 rfl (lv_at hl 0 rfl) ?_
  refine W.objInit hx hb hown (hts _ q292) (hts _ q263) (hts _ q264) rfl (by rw [hml]; exact hl.1) rfl dX7_init_1 (Nat.le_of_ble_eq_true rfl) (Nat.le_of_ble_eq_true rfl) ?_
  refine W.eq (g2 := F0 m 4 ls []) rfl ?_
  refine lv_aload_n hx hb dX7_init_4 rfl (lv_at hl 0 rfl) ?_
  refine lv_iload_n hx hb dX7_init_5 rfl (lv_at hl 1 rfl) ?_
  refine va_putF (D := D) (ci := 10) (v := .int p0) (ty := .int) (C := RX7) (T := TX7) (N := 3) hx hb hts inAX7 tyX7 tyX7_ok nmX7 hown hK hP hD hS 0 rfl rfl 0 (by decide) (hts _ q293) (fun _ h9 => h9) rfl hnm rfl (tyX7_ok 0 (by decide)) rfl rfl (Nat.le_of_ble_eq_true rfl) dX7_init_6 (fun H locs hP hD hS => ?_)
  replace hP : va_P D vwCl [(h, .inr (10, [.int p0, .null, .int 0]))] H := hP
  replace hD : va_D A [(h, .inr (10, [.int p0, .null, .int 0]))] := hD
  refine lv_aload_n hx hb dX7_init_9 rfl (lv_at hl 0 rfl) ?_
  refine lv_aload_n hx hb dX7_init_10 rfl (lv_at hl 2 rfl) ?_
  refine va_putF (D := D) (ci := 10) (v := .ref r0) (ty := .object "TallowIndex$Row") (C := RX7) (T := TX7) (N := 3) hx hb hts inAX7 tyX7 tyX7_ok nmX7 hown hK hP hD hS 0 rfl rfl 1 (by decide) (hts _ q294) (fun _ h9 => h9) rfl hnm rfl (tyX7_ok 1 (by decide)) rfl rfl (Nat.le_of_ble_eq_true rfl) dX7_init_11 (fun H locs hP hD hS => ?_)
  replace hP : va_P D vwCl [(h, .inr (10, [.int p0, .ref r0, .int 0]))] H := hP
  replace hD : va_D A [(h, .inr (10, [.int p0, .ref r0, .int 0]))] := hD
  refine lv_aload_n hx hb dX7_init_14 rfl (lv_at hl 0 rfl) ?_
  refine lv_iload_n hx hb dX7_init_15 rfl (lv_at hl 3 rfl) ?_
  refine va_putF (D := D) (ci := 10) (v := .int p1) (ty := .int) (C := RX7) (T := TX7) (N := 3) hx hb hts inAX7 tyX7 tyX7_ok nmX7 hown hK hP hD hS 0 rfl rfl 2 (by decide) (hts _ q295) (fun _ h9 => h9) rfl hnm rfl (tyX7_ok 2 (by decide)) rfl rfl (Nat.le_of_ble_eq_true rfl) dX7_init_16 (fun H locs hP hD hS => ?_)
  replace hP : va_P D vwCl [(h, .inr (10, [.int p0, .ref r0, .int p1]))] H := hP
  replace hD : va_D A [(h, .inr (10, [.int p0, .ref r0, .int p1]))] := hD
  refine W.widen (k := 0) (n := 0) (Nat.le_of_ble_eq_true rfl) (Nat.le_of_ble_eq_true rfl) ?_
  have hP9 := hP.sub (ws' := [(h, .inr (10, [.int p0, .ref r0, .int p1]))]) [0] rfl
  have hD9 := hD.sub (ws' := [(h, .inr (10, [.int p0, .ref r0, .int p1]))]) [0] (by decide) rfl
  exact W.vret hx hb hr (fun t ht hW => ⟨⟨(), rfl, trivial, ⟨by rw [ht]; exact hP9, hD9⟩⟩, hS.F ht⟩) hS.2.2 dX7_init_19

set_option maxHeartbeats 4000000 in
set_option maxRecDepth 100000 in
theorem i_Query (l : Launch) (D : va_G) (dA : Nat → ClassId) (E : Nat) (h : Nat) (p0 p1 p2 p3 p4 p5 : Int32) (sz : Nat) (hch : narrow .char (.int p0) = .int p0 ∧ fits .char (.int p0) = true)  : Met l yX1_init (wq (.code yX1_init cX1_init 7 none)) { frames := 1, cells := 0, slots := 0, locals := 12 } (va_Pc [.ref h, .int p0, .int p1, .int p2, .int p3, .int p4, .int p5] (PcB D dA E [(h, .inr (4, [.int 0, .int 0, .int 0, .int 0, .int 0, .int 0]))] sz)) (va_Qv (fun (u : Unit) => True) (fun u t => va_P D vwCl [(h, .inr (4, [.int p0, .int p1, .int p2, .int p3, .int p4, .int p5]))] t.heap ∧ va_D (va_A [(h, .inr (4, [.int 0, .int 0, .int 0, .int 0, .int 0, .int 0]))] sz) [(h, .inr (4, [.int p0, .int p1, .int p2, .int p3, .int p4, .int p5]))]) (va_A [(h, .inr (4, [.int 0, .int 0, .int 0, .int 0, .int 0, .int 0]))] sz)) 0 0 (va_A [(h, .inr (4, [.int 0, .int 0, .int 0, .int 0, .int 0, .int 0]))] sz) := by
  refine mb_of (Qc := fun A => va_Qv (fun (u : Unit) => True) (fun u t => va_P D vwCl [(h, .inr (4, [.int p0, .int p1, .int p2, .int p3, .int p4, .int p5]))] t.heap ∧ va_D A [(h, .inr (4, [.int p0, .int p1, .int p2, .int p3, .int p4, .int p5]))]) A) RX1 rfl (by decide) (Nat.le_of_ble_eq_true rfl) ?_
  intro p e s m args below meth c hae hx hb hr hts hown hlocks hml hnm hP hK A hAe hD hZ hS hA ls hl
  replace hl : lv_has ls 7 [(0, .ref h), (1, .int p0), (2, .int p1), (3, .int p2), (4, .int p3), (5, .int p4), (6, .int p5)] := hl
  refine lv_aload_n hx hb dX1_init_0 rfl (lv_at hl 0 rfl) ?_
  refine W.objInit hx hb hown (hts _ q300) (hts _ q263) (hts _ q264) rfl (by rw [hml]; exact hl.1) rfl dX1_init_1 (Nat.le_of_ble_eq_true rfl) (Nat.le_of_ble_eq_true rfl) ?_
  refine W.eq (g2 := F0 m 4 ls []) rfl ?_
  refine lv_aload_n hx hb dX1_init_4 rfl (lv_at hl 0 rfl) ?_
  refine lv_iload_n hx hb dX1_init_5 rfl (lv_at hl 1 rfl) ?_
  refine va_putF (D := D) (ci := 4) (v := .int p0) (ty := .char) (C := RX1) (T := TX1) (N := 6) hx hb hts inAX1 tyX1 tyX1_ok nmX1 hown hK hP hD hS 0 rfl rfl 0 (by decide) (hts _ q301) (fun _ h9 => h9) rfl hnm rfl (tyX1_ok 0 (by decide)) hch.1 hch.2 (Nat.le_of_ble_eq_true rfl) dX1_init_6 (fun H locs hP hD hS => ?_)
  replace hP : va_P D vwCl [(h, .inr (4, [.int p0, .int 0, .int 0, .int 0, .int 0, .int 0]))] H := hP
  replace hD : va_D A [(h, .inr (4, [.int p0, .int 0, .int 0, .int 0, .int 0, .int 0]))] := hD
  refine lv_aload_n hx hb dX1_init_9 rfl (lv_at hl 0 rfl) ?_
  refine lv_iload_n hx hb dX1_init_10 rfl (lv_at hl 2 rfl) ?_
  refine va_putF (D := D) (ci := 4) (v := .int p1) (ty := .int) (C := RX1) (T := TX1) (N := 6) hx hb hts inAX1 tyX1 tyX1_ok nmX1 hown hK hP hD hS 0 rfl rfl 1 (by decide) (hts _ q302) (fun _ h9 => h9) rfl hnm rfl (tyX1_ok 1 (by decide)) rfl rfl (Nat.le_of_ble_eq_true rfl) dX1_init_11 (fun H locs hP hD hS => ?_)
  replace hP : va_P D vwCl [(h, .inr (4, [.int p0, .int p1, .int 0, .int 0, .int 0, .int 0]))] H := hP
  replace hD : va_D A [(h, .inr (4, [.int p0, .int p1, .int 0, .int 0, .int 0, .int 0]))] := hD
  refine lv_aload_n hx hb dX1_init_14 rfl (lv_at hl 0 rfl) ?_
  refine lv_iload_n hx hb dX1_init_15 rfl (lv_at hl 3 rfl) ?_
  refine va_putF (D := D) (ci := 4) (v := .int p2) (ty := .int) (C := RX1) (T := TX1) (N := 6) hx hb hts inAX1 tyX1 tyX1_ok nmX1 hown hK hP hD hS 0 rfl rfl 2 (by decide) (hts _ q303) (fun _ h9 => h9) rfl hnm rfl (tyX1_ok 2 (by decide)) rfl rfl (Nat.le_of_ble_eq_true rfl) dX1_init_16 (fun H locs hP hD hS => ?_)
  replace hP : va_P D vwCl [(h, .inr (4, [.int p0, .int p1, .int p2, .int 0, .int 0, .int 0]))] H := hP
  replace hD : va_D A [(h, .inr (4, [.int p0, .int p1, .int p2, .int 0, .int 0, .int 0]))] := hD
  refine lv_aload_n hx hb dX1_init_19 rfl (lv_at hl 0 rfl) ?_
  refine lv_iload hx hb dX1_init_20 (lv_at hl 4 rfl) ?_
  refine va_putF (D := D) (ci := 4) (v := .int p3) (ty := .int) (C := RX1) (T := TX1) (N := 6) hx hb hts inAX1 tyX1 tyX1_ok nmX1 hown hK hP hD hS 0 rfl rfl 3 (by decide) (hts _ q304) (fun _ h9 => h9) rfl hnm rfl (tyX1_ok 3 (by decide)) rfl rfl (Nat.le_of_ble_eq_true rfl) dX1_init_22 (fun H locs hP hD hS => ?_)
  replace hP : va_P D vwCl [(h, .inr (4, [.int p0, .int p1, .int p2, .int p3, .int 0, .int 0]))] H := hP
  replace hD : va_D A [(h, .inr (4, [.int p0, .int p1, .int p2, .int p3, .int 0, .int 0]))] := hD
  refine lv_aload_n hx hb dX1_init_25 rfl (lv_at hl 0 rfl) ?_
  refine lv_iload hx hb dX1_init_26 (lv_at hl 5 rfl) ?_
  refine va_putF (D := D) (ci := 4) (v := .int p4) (ty := .int) (C := RX1) (T := TX1) (N := 6) hx hb hts inAX1 tyX1 tyX1_ok nmX1 hown hK hP hD hS 0 rfl rfl 4 (by decide) (hts _ q305) (fun _ h9 => h9) rfl hnm rfl (tyX1_ok 4 (by decide)) rfl rfl (Nat.le_of_ble_eq_true rfl) dX1_init_28 (fun H locs hP hD hS => ?_)
  replace hP : va_P D vwCl [(h, .inr (4, [.int p0, .int p1, .int p2, .int p3, .int p4, .int 0]))] H := hP
  replace hD : va_D A [(h, .inr (4, [.int p0, .int p1, .int p2, .int p3, .int p4, .int 0]))] := hD
  refine lv_aload_n hx hb dX1_init_31 rfl (lv_at hl 0 rfl) ?_
  refine lv_iload hx hb dX1_init_32 (lv_at hl 6 rfl) ?_
  refine va_putF (D := D) (ci := 4) (v := .int p5) (ty := .int) (C := RX1) (T := TX1) (N := 6) hx hb hts inAX1 tyX1 tyX1_ok nmX1 hown hK hP hD hS 0 rfl rfl 5 (by decide) (hts _ q306) (fun _ h9 => h9) rfl hnm rfl (tyX1_ok 5 (by decide)) rfl rfl (Nat.le_of_ble_eq_true rfl) dX1_init_34 (fun H locs hP hD hS => ?_)
  replace hP : va_P D vwCl [(h, .inr (4, [.int p0, .int p1, .int p2, .int p3, .int p4, .int p5]))] H := hP
  replace hD : va_D A [(h, .inr (4, [.int p0, .int p1, .int p2, .int p3, .int p4, .int p5]))] := hD
  refine W.widen (k := 0) (n := 0) (Nat.le_of_ble_eq_true rfl) (Nat.le_of_ble_eq_true rfl) ?_
  have hP9 := hP.sub (ws' := [(h, .inr (4, [.int p0, .int p1, .int p2, .int p3, .int p4, .int p5]))]) [0] rfl
  have hD9 := hD.sub (ws' := [(h, .inr (4, [.int p0, .int p1, .int p2, .int p3, .int p4, .int p5]))]) [0] (by decide) rfl
  exact W.vret hx hb hr (fun t ht hW => ⟨⟨(), rfl, trivial, ⟨by rw [ht]; exact hP9, hD9⟩⟩, hS.F ht⟩) hS.2.2 dX1_init_37
