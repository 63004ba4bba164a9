/-! CONTRACTS, general -/
theorem q262 : (.methodLink RJxa1e45 1 objectInit : Cond) ∈ WA := WA_of (tb_1 49 rfl) rfl
theorem q263 : (.instanceMethod objectInit : Cond) ∈ WA := WA_of (tb_1 36 rfl) rfl
theorem q264 : (.code objectInit ⟨#[0xb1]⟩ 1 none : Cond) ∈ WA := WA_of (tb_1 37 rfl) rfl
theorem q265 : (.code yJxa1e45_init_da8c8 cJxa1e45_init_da8c8 1 none : Cond) ∈ WA := WA_of (tb_1 48 rfl) rfl
theorem q266 : (.initialized RJxa1e45 : Cond) ∈ WA := WA_of (tb_1 2 rfl) rfl
theorem q267 : (.methodLink RJxc12de 1 yJxa1e45_init_da8c8 : Cond) ∈ WA := WA_of (tb_1 46 rfl) rfl
theorem q268 : (.instanceMethod yJxa1e45_init_da8c8 : Cond) ∈ WA := WA_of (tb_1 47 rfl) rfl
theorem q269 : (.fieldLink RJxc12de 7 "java/util/AbstractList" "modCount" "I" : Cond) ∈ WA := WA_of (tb_1 54 rfl) rfl
theorem q270 : (.code yJxc12de_init_da8c8 cJxc12de_init_da8c8 1 none : Cond) ∈ WA := WA_of (tb_1 45 rfl) rfl
theorem q271 : (.initialized RJxc12de : Cond) ∈ WA := WA_of (tb_1 3 rfl) rfl
theorem q272 : (.methodLink RJx4a65c 1 yJxc12de_init_da8c8 : Cond) ∈ WA := WA_of (tb_1 43 rfl) rfl
theorem q273 : (.instanceMethod yJxc12de_init_da8c8 : Cond) ∈ WA := WA_of (tb_1 44 rfl) rfl
theorem q274 : (.fieldLink RJx4a65c 39 "java/util/ArrayList" "DEFAULTCAPACITY_EMPTY_ELEMENTDATA" "[Ljava/lang/Object;" : Cond) ∈ WA := WA_of (tb_1 50 rfl) rfl
theorem q275 : (.fieldLink RJx4a65c 9 "java/util/ArrayList" "elementData" "[Ljava/lang/Object;" : Cond) ∈ WA := WA_of (tb_1 52 rfl) rfl
theorem q276 : (.methodLink RX2 1 objectInit : Cond) ∈ WA := WA_of (tb_1 75 rfl) rfl
theorem q277 : (.arrayClass .int : Cond) ∈ WA := WA_of (tb_1 80 rfl) rfl
theorem q278 : (.methodLink RX6 3 objectInit : Cond) ∈ WA := WA_of (tb_2 236 rfl) rfl
theorem q279 : (.classLink RX6 9 RX2 : Cond) ∈ WA := WA_of (tb_2 237 rfl) rfl
theorem q280 : (.instantiable RX2 1 : Cond) ∈ WA := WA_of (tb_1 71 rfl) rfl
theorem q281 : (.code yX2_init cX2_init 2 none : Cond) ∈ WA := WA_of (tb_1 74 rfl) rfl
theorem q282 : (.methodLink RX6 11 yX2_init : Cond) ∈ WA := WA_of (tb_2 238 rfl) rfl
theorem q283 : (.instanceMethod yX2_init : Cond) ∈ WA := WA_of (tb_1 73 rfl) rfl
theorem q284 : (.methodLink RX0 1 objectInit : Cond) ∈ WA := WA_of (tb_2 230 rfl) rfl
theorem q285 : (.classLink RX0 7 RX6 : Cond) ∈ WA := WA_of (tb_2 231 rfl) rfl
theorem q286 : (.instantiable RX6 4 : Cond) ∈ WA := WA_of (tb_2 232 rfl) rfl
theorem q287 : (.code yX6_init cX6_init 1 none : Cond) ∈ WA := WA_of (tb_2 235 rfl) rfl
theorem q288 : (.instanceMethod yX6_init : Cond) ∈ WA := WA_of (tb_2 234 rfl) rfl
theorem q289 : (.fieldLink RX0 10 "TallowIndex$Document" "text" "LTallowIndex$Text;" : Cond) ∈ WA := WA_of (tb_3 22 rfl) rfl
theorem q290 : (.fieldLink RX0 16 "TallowIndex$Document" "tag" "I" : Cond) ∈ WA := WA_of (tb_3 18 rfl) rfl
theorem q291 : (.fieldLink RX0 20 "TallowIndex$Document" "whole" "I" : Cond) ∈ WA := WA_of (tb_3 20 rfl) rfl
theorem q292 : (.methodLink RX7 1 objectInit : Cond) ∈ WA := WA_of (tb_3 225 rfl) rfl
theorem q293 : (.fieldLink RX7 7 "TallowIndex$View" "number" "I" : Cond) ∈ WA := WA_of (tb_3 226 rfl) rfl
theorem q294 : (.fieldLink RX7 13 "TallowIndex$View" "present" "LTallowIndex$Row;" : Cond) ∈ WA := WA_of (tb_3 228 rfl) rfl
theorem q295 : (.fieldLink RX7 17 "TallowIndex$View" "count" "I" : Cond) ∈ WA := WA_of (tb_3 229 rfl) rfl
theorem q296 : (.methodLink RX5 1 objectInit : Cond) ∈ WA := WA_of (tb_2 96 rfl) rfl
theorem q297 : (.fieldLink RX5 7 "TallowIndex$Step" "kind" "C" : Cond) ∈ WA := WA_of (tb_2 97 rfl) rfl
theorem q298 : (.fieldLink RX5 13 "TallowIndex$Step" "first" "I" : Cond) ∈ WA := WA_of (tb_2 98 rfl) rfl
theorem q299 : (.fieldLink RX5 17 "TallowIndex$Step" "second" "I" : Cond) ∈ WA := WA_of (tb_2 99 rfl) rfl
theorem q300 : (.methodLink RX1 3 objectInit : Cond) ∈ WA := WA_of (tb_4 50 rfl) rfl
theorem q301 : (.fieldLink RX1 9 "TallowIndex$Query" "kind" "C" : Cond) ∈ WA := WA_of (tb_4 51 rfl) rfl
theorem q302 : (.fieldLink RX1 15 "TallowIndex$Query" "first" "I" : Cond) ∈ WA := WA_of (tb_4 52 rfl) rfl
theorem q303 : (.fieldLink RX1 19 "TallowIndex$Query" "second" "I" : Cond) ∈ WA := WA_of (tb_4 54 rfl) rfl
theorem q304 : (.fieldLink RX1 22 "TallowIndex$Query" "distance" "I" : Cond) ∈ WA := WA_of (tb_4 56 rfl) rfl
theorem q305 : (.fieldLink RX1 25 "TallowIndex$Query" "weight" "I" : Cond) ∈ WA := WA_of (tb_4 57 rfl) rfl
theorem q306 : (.fieldLink RX1 28 "TallowIndex$Query" "wordQueries" "I" : Cond) ∈ WA := WA_of (tb_4 58 rfl) rfl
theorem q307 : (.methodLink RX4 3 objectInit : Cond) ∈ WA := WA_of (tb_1 69 rfl) rfl
theorem q308 : (.classLink RX4 9 RX2 : Cond) ∈ WA := WA_of (tb_1 70 rfl) rfl
theorem q309 : (.methodLink RX4 11 yX2_init : Cond) ∈ WA := WA_of (tb_1 72 rfl) rfl
theorem q310 : (.methodLink RX3 3 objectInit : Cond) ∈ WA := WA_of (tb_1 102 rfl) rfl
theorem q311 : (.classLink RX3 9 RX2 : Cond) ∈ WA := WA_of (tb_1 103 rfl) rfl
theorem q312 : (.methodLink RX3 11 yX2_init : Cond) ∈ WA := WA_of (tb_1 104 rfl) rfl
theorem q313 : (.fieldLink RX3 14 "TallowIndex$Search" "parts" "LTallowIndex$Row;" : Cond) ∈ WA := WA_of (tb_1 105 rfl) rfl
theorem q314 : (.fieldLink RX3 20 "TallowIndex$Search" "times" "LTallowIndex$Row;" : Cond) ∈ WA := WA_of (tb_1 106 rfl) rfl
theorem q315 : (.fieldLink RX3 23 "TallowIndex$Search" "scores" "LTallowIndex$Row;" : Cond) ∈ WA := WA_of (tb_1 107 rfl) rfl
theorem q316 : (.fieldLink RX3 26 "TallowIndex$Search" "ranks" "LTallowIndex$Row;" : Cond) ∈ WA := WA_of (tb_1 108 rfl) rfl
theorem q317 : (.fieldLink RX3 29 "TallowIndex$Search" "order" "LTallowIndex$Row;" : Cond) ∈ WA := WA_of (tb_1 109 rfl) rfl
theorem q318 : (.fieldLink RX3 32 "TallowIndex$Search" "marks" "LTallowIndex$Row;" : Cond) ∈ WA := WA_of (tb_1 110 rfl) rfl
theorem q319 : (.methodLink RX8 3 objectInit : Cond) ∈ WA := WA_of (tb_1 35 rfl) rfl
theorem q320 : (.classLink RX8 9 RJx4a65c : Cond) ∈ WA := WA_of (tb_1 38 rfl) rfl
theorem q321 : (.instantiable RJx4a65c 3 : Cond) ∈ WA := WA_of (tb_1 39 rfl) rfl
theorem q322 : (.initialized RJx4a65c : Cond) ∈ WA := WA_of (tb_1 4 rfl) rfl
theorem q323 : (.code yJx4a65c_init_da8c8 cJx4a65c_init_da8c8 1 none : Cond) ∈ WA := WA_of (tb_1 42 rfl) rfl
theorem q324 : (.methodLink RX8 11 yJx4a65c_init_da8c8 : Cond) ∈ WA := WA_of (tb_1 40 rfl) rfl
theorem q325 : (.instanceMethod yJx4a65c_init_da8c8 : Cond) ∈ WA := WA_of (tb_1 41 rfl) rfl
theorem q326 : (.fieldLink RX8 12 "TallowIndex" "steps" "Ljava/util/ArrayList;" : Cond) ∈ WA := WA_of (tb_1 131 rfl) rfl
theorem q327 : (.fieldLink RX8 16 "TallowIndex" "documents" "Ljava/util/ArrayList;" : Cond) ∈ WA := WA_of (tb_1 132 rfl) rfl
theorem q328 : (.fieldLink RX8 19 "TallowIndex" "views" "Ljava/util/ArrayList;" : Cond) ∈ WA := WA_of (tb_1 133 rfl) rfl
theorem q329 : (.fieldLink RX8 22 "TallowIndex" "queries" "Ljava/util/ArrayList;" : Cond) ∈ WA := WA_of (tb_1 134 rfl) rfl
theorem q330 : (.classLink RX8 25 RX4 : Cond) ∈ WA := WA_of (tb_1 64 rfl) rfl
theorem q331 : (.instantiable RX4 4 : Cond) ∈ WA := WA_of (tb_1 65 rfl) rfl
theorem q332 : (.code yX4_init cX4_init 1 none : Cond) ∈ WA := WA_of (tb_1 68 rfl) rfl
theorem q333 : (.instanceMethod yX4_init : Cond) ∈ WA := WA_of (tb_1 67 rfl) rfl
theorem q334 : (.fieldLink RX8 28 "TallowIndex" "shelf" "LTallowIndex$Shelf;" : Cond) ∈ WA := WA_of (tb_1 135 rfl) rfl
theorem q335 : (.fieldLink RX8 32 "TallowIndex" "committed" "LTallowIndex$Shelf;" : Cond) ∈ WA := WA_of (tb_1 136 rfl) rfl
theorem q336 : (.classLink RX8 35 RX2 : Cond) ∈ WA := WA_of (tb_1 95 rfl) rfl
theorem q337 : (.methodLink RX8 37 yX2_init : Cond) ∈ WA := WA_of (tb_1 96 rfl) rfl
theorem q338 : (.fieldLink RX8 40 "TallowIndex" "replica" "LTallowIndex$Row;" : Cond) ∈ WA := WA_of (tb_1 137 rfl) rfl
theorem q339 : (.classLink RX8 44 RX3 : Cond) ∈ WA := WA_of (tb_1 97 rfl) rfl
theorem q340 : (.instantiable RX3 8 : Cond) ∈ WA := WA_of (tb_1 98 rfl) rfl
theorem q341 : (.initialized RX3 : Cond) ∈ WA := WA_of (tb_1 7 rfl) rfl
theorem q342 : (.code yX3_init cX3_init 1 none : Cond) ∈ WA := WA_of (tb_1 101 rfl) rfl
theorem q343 : (.instanceMethod yX3_init : Cond) ∈ WA := WA_of (tb_1 100 rfl) rfl
theorem q344 : (.fieldLink RX8 47 "TallowIndex" "search" "LTallowIndex$Search;" : Cond) ∈ WA := WA_of (tb_1 138 rfl) rfl
theorem q345 : (.code yX8_isWord cX8_isWord 1 (some .boolean) : Cond) ∈ WA := WA_of (tb_2 3 rfl) rfl
theorem q346 : (.initialized RX8 : Cond) ∈ WA := WA_of (tb_1 1 rfl) rfl
theorem q347 : (.static yX8_isWord : Cond) ∈ WA := WA_of (tb_2 2 rfl) rfl
theorem nle_lt {x y : Int32} (h : ¬ x ≤ y) : y < x := Int32.not_le.mp h
theorem rgF_nat {n k : Nat} {f : Nat → Int32} (hk : k < n) (hn : n < 2 ^ 31) : rgF n f (nI k) = f k := by
  unfold rgF
  rw [if_neg (nI_pos (by omega)), if_neg (nI_ge hk hn), nI_clamp (by omega)]
set_option maxHeartbeats 4000000 in
set_option maxRecDepth 100000 in
theorem i_ac (l : Launch) (D : va_G) (dA : Nat → ClassId) (E : Nat) (h : Nat) (sz : Nat)   : Met l yJxa1e45_init_da8c8 (wq (.code yJxa1e45_init_da8c8 cJxa1e45_init_da8c8 1 none)) { frames := 1, cells := 0, slots := 0, locals := 12 } (va_Pc [.ref h] (PcB D dA E [] sz)) (va_Qv (fun (u : Unit) => True) (fun u t => va_P D vwCl [] t.heap ∧ va_D (va_A [] sz) []) (va_A [] sz)) 0 0 (va_A [] sz) := by
  refine mb_of (Qc := fun A => va_Qv (fun (u : Unit) => True) (fun u t => va_P D vwCl [] t.heap ∧ va_D A []) A) RJxa1e45 rfl (by decide) (Nat.le_of_ble_eq_true rfl) ?_
  intro p e s m args below meth c hae hx hb hr hts hown hlocks hml hnm hP hK A hAe hD hZ hS hA ls hl
  have hl : lv_has ls 1 [(0, .ref h)] := hl
  refine lv_aload_n hx hb dJxa1e45_init_da8c8_0 rfl (lv_at hl 0 rfl) ?_
  refine W.objInit hx hb hown (hts _ q262) (hts _ q263) (hts _ q264) rfl (by rw [hml]; exact hl.1) rfl dJxa1e45_init_da8c8_1 (Nat.le_of_ble_eq_true rfl) (Nat.le_of_ble_eq_true rfl) ?_
  refine W.eq (g2 := F0 m 4 ls []) rfl ?_
  refine W.widen (k := 0) (n := 0) (Nat.le_of_ble_eq_true rfl) (Nat.le_of_ble_eq_true rfl) ?_
  have hP9 := hP.sub (ws' := []) [] rfl
  have hD9 := hD.sub (ws' := []) [] (by decide) rfl
  exact W.vret hx hb hr (fun t ht hW => ⟨⟨(), rfl, trivial, ⟨by rw [ht]; exact hP9, hD9⟩⟩, hS.F ht⟩) hS.2.2 dJxa1e45_init_da8c8_4

set_option maxHeartbeats 4000000 in
set_option maxRecDepth 100000 in
theorem i_al (l : Launch) (D : va_G) (dA : Nat → ClassId) (E : Nat) (h : Nat) (sz : Nat)   : Met l yJxc12de_init_da8c8 (wq (.code yJxc12de_init_da8c8 cJxc12de_init_da8c8 1 none)) { frames := 2, cells := 0, slots := 0, locals := 32 } (va_Pc [.ref h] (PcB D dA E [(h, .inr (2, [.int 0, .null, .int 0]))] sz)) (va_Qv (fun (u : Unit) => True) (fun u t => va_P D vwCl [(h, .inr (2, [.int 0, .null, .int 0]))] t.heap ∧ va_D (va_A [(h, .inr (2, [.int 0, .null, .int 0]))] sz) [(h, .inr (2, [.int 0, .null, .int 0]))]) (va_A [(h, .inr (2, [.int 0, .null, .int 0]))] sz)) 0 0 (va_A [(h, .inr (2, [.int 0, .null, .int 0]))] sz) := by
  refine mb_of (Qc := fun A => va_Qv (fun (u : Unit) => True) (fun u t => va_P D vwCl [(h, .inr (2, [.int 0, .null, .int 0]))] t.heap ∧ va_D A [(h, .inr (2, [.int 0, .null, .int 0]))]) A) RJxc12de rfl (by decide) (Nat.le_of_ble_eq_true rfl) ?_
  intro p e s m args below meth c hae hx hb hr hts hown hlocks hml hnm hP hK A hAe hD hZ hS hA ls hl
  have hl : lv_has ls 1 [(0, .ref h)] := hl
  refine lv_aload_n hx hb dJxc12de_init_da8c8_0 rfl (lv_at hl 0 rfl) ?_
  have hPc := hP.sub (ws' := []) [] rfl
  have hDc := hD.sub (ws' := []) [] (by decide) rfl
  have hFc := va_free (wc := []) hD hS hA [] rfl
  refine va_callv (va_runI (As := []) (rest := []) ⟨hx, hb, hml, hown, hts⟩ (i_ac l D dA E h s.heap.size ) (cwI 0 hts (ga_I q265) rfl rfl rfl (hts _ q266) (hts _ q267) (hts _ q268) rfl (by decide +kernel) ⟨(Nat.le_of_ble_eq_true rfl), (Nat.le_of_ble_eq_true rfl)⟩) ⟨pb_blind, pb_pre hK hPc hDc hZ hS hFc _⟩ rfl rfl hl.1 rfl (lv_room (Nat.le_of_ble_eq_true rfl)) dJxc12de_init_da8c8_1 ⟨(Nat.le_of_ble_eq_true rfl), (Nat.le_of_ble_eq_true rfl)⟩) hS (fun q _ h => hFc q h) hFc (fun u t H1 locs ht hvm hw hB hz1 hk1 hS => ?_)
  refine W.widen (k := 0) (n := 0) (Nat.le_of_ble_eq_true rfl) (Nat.le_of_ble_eq_true rfl) ?_
  obtain ⟨u1, rfl⟩ : ∃ z, z = u := ⟨_, rfl⟩
  have hw2 := hw
  clear hw
  obtain ⟨hP1, hD1⟩ := hB
  rw [ht] at hP1
  obtain ⟨hP, hD⟩ := va_join (wr := [(h, .inr (2, [.int 0, .null, .int 0]))]) (w1 := []) hP hD [] [0] rfl rfl (by decide) (by decide) hk1 hFc hP1 hD1
  generalize H1 = H at hP hS ⊢
  have hP : va_P D vwCl [(h, .inr (2, [.int 0, .null, .int 0]))] H := hP
  have hD : va_D A [(h, .inr (2, [.int 0, .null, .int 0]))] := hD
  refine lv_aload_n hx hb dJxc12de_init_da8c8_4 rfl (lv_at hl 0 rfl) ?_
  refine lv_iconst (v := 0) hx hb dJxc12de_init_da8c8_5 (by decide) ?_
  refine va_put (D := D) (ci := 2) (v := .int 0) (ty := .int) (C := RJx4a65c) (T := TJx4a65c) (N := 3) hx hb hts inAJx4a65c tyJx4a65c tyJx4a65c_ok nmJx4a65c hown hK hP hD hS 0 rfl rfl 0 (by decide) (hts _ q269) (fun _ h9 => h9) rfl (tyJx4a65c_ok 0 (by decide)) rfl rfl (Nat.le_of_ble_eq_true rfl) dJxc12de_init_da8c8_6 (fun H locs hP hD hS => ?_)
  have hP : va_P D vwCl [(h, .inr (2, [.int 0, .null, .int 0]))] H := hP
  have hD : va_D A [(h, .inr (2, [.int 0, .null, .int 0]))] := hD
  refine W.widen (k := 0) (n := 0) (Nat.le_of_ble_eq_true rfl) (Nat.le_of_ble_eq_true rfl) ?_
  have hP9 := hP.sub (ws' := [(h, .inr (2, [.int 0, .null, .int 0]))]) [0] rfl
  have hD9 := hD.sub (ws' := [(h, .inr (2, [.int 0, .null, .int 0]))]) [0] (by decide) rfl
  exact W.vret hx hb hr (fun t ht hW => ⟨⟨(), rfl, trivial, ⟨by rw [ht]; exact hP9, hD9⟩⟩, hS.F ht⟩) hS.2.2 dJxc12de_init_da8c8_9

set_option maxHeartbeats 4000000 in
set_option maxRecDepth 100000 in
theorem i_list (l : Launch) (D : va_G) (dA : Nat → ClassId) (E : Nat) (h : Nat) (sz : Nat)   : Met l yJx4a65c_init_da8c8 (wq (.code yJx4a65c_init_da8c8 cJx4a65c_init_da8c8 1 none)) { frames := 3, cells := 0, slots := 0, locals := 52 } (va_Pc [.ref h] (PcB D dA E [(h, .inr (2, [.int 0, .null, .int 0]))] sz)) (va_Qv (fun (u : Unit) => True) (fun u t => va_P D vwCl [(h, .inr (2, [.int 0, .ref E, .int 0]))] t.heap ∧ va_D (va_A [(h, .inr (2, [.int 0, .null, .int 0]))] sz) [(h, .inr (2, [.int 0, .ref E, .int 0]))]) (va_A [(h, .inr (2, [.int 0, .null, .int 0]))] sz)) 0 0 (va_A [(h, .inr (2, [.int 0, .null, .int 0]))] sz) := by
  refine mb_of (Qc := fun A => va_Qv (fun (u : Unit) => True) (fun u t => va_P D vwCl [(h, .inr (2, [.int 0, .ref E, .int 0]))] t.heap ∧ va_D A [(h, .inr (2, [.int 0, .ref E, .int 0]))]) A) RJx4a65c rfl (by decide) (Nat.le_of_ble_eq_true rfl) ?_
  intro p e s m args below meth c hae hx hb hr hts hown hlocks hml hnm hP hK A hAe hD hZ hS hA ls hl
  have hl : lv_has ls 1 [(0, .ref h)] := hl
  refine lv_aload_n hx hb dJx4a65c_init_da8c8_0 rfl (lv_at hl 0 rfl) ?_
  have hPc := hP.sub (ws' := [(h, .inr (2, [.int 0, .null, .int 0]))]) [0] rfl
  have hDc := hD.sub (ws' := [(h, .inr (2, [.int 0, .null, .int 0]))]) [0] (by decide) rfl
  have hFc := va_free (wc := [(h, .inr (2, [.int 0, .null, .int 0]))]) hD hS hA [0] rfl
  refine va_callv (va_runI (As := []) (rest := []) ⟨hx, hb, hml, hown, hts⟩ (i_al l D dA E h s.heap.size ) (cwI 0 hts (ga_I q270) rfl rfl rfl (hts _ q271) (hts _ q272) (hts _ q273) rfl (by decide +kernel) ⟨(Nat.le_of_ble_eq_true rfl), (Nat.le_of_ble_eq_true rfl)⟩) ⟨pb_blind, pb_pre hK hPc hDc hZ hS hFc _⟩ rfl rfl hl.1 rfl (lv_room (Nat.le_of_ble_eq_true rfl)) dJx4a65c_init_da8c8_1 ⟨(Nat.le_of_ble_eq_true rfl), (Nat.le_of_ble_eq_true rfl)⟩) hS (fun q _ h => hFc q h) hFc (fun u t H1 locs ht hvm hw hB hz1 hk1 hS => ?_)
  refine W.widen (k := 0) (n := 0) (Nat.le_of_ble_eq_true rfl) (Nat.le_of_ble_eq_true rfl) ?_
  obtain ⟨u1, rfl⟩ : ∃ z, z = u := ⟨_, rfl⟩
  have hw2 := hw
  clear hw
  obtain ⟨hP1, hD1⟩ := hB
  rw [ht] at hP1
  obtain ⟨hP, hD⟩ := va_join (wr := []) (w1 := [(h, .inr (2, [.int 0, .null, .int 0]))]) hP hD [0] [] rfl rfl (by decide) (by decide) hk1 hFc hP1 hD1
  generalize H1 = H at hP hS ⊢
  have hP : va_P D vwCl [(h, .inr (2, [.int 0, .null, .int 0]))] H := hP
  have hD : va_D A [(h, .inr (2, [.int 0, .null, .int 0]))] := hD
  refine lv_aload_n hx hb dJx4a65c_init_da8c8_4 rfl (lv_at hl 0 rfl) ?_
  refine va_gets hx hb hZ.2.2.2.1 hS hown (hts _ q274) (fun _ h9 => h9) dJx4a65c_init_da8c8_5 ?_
  refine va_put (D := D) (ci := 2) (v := .ref E) (ty := .array (.object "java/lang/Object")) (C := RJx4a65c) (T := TJx4a65c) (N := 3) hx hb hts inAJx4a65c tyJx4a65c tyJx4a65c_ok nmJx4a65c hown hK hP hD hS 0 rfl rfl 1 (by decide) (hts _ q275) (fun _ h9 => h9) rfl (tyJx4a65c_ok 1 (by decide)) rfl rfl (Nat.le_of_ble_eq_true rfl) dJx4a65c_init_da8c8_8 (fun H locs hP hD hS => ?_)
  have hP : va_P D vwCl [(h, .inr (2, [.int 0, .ref E, .int 0]))] H := hP
  have hD : va_D A [(h, .inr (2, [.int 0, .ref E, .int 0]))] := hD
  refine W.widen (k := 0) (n := 0) (Nat.le_of_ble_eq_true rfl) (Nat.le_of_ble_eq_true rfl) ?_
  have hP9 := hP.sub (ws' := [(h, .inr (2, [.int 0, .ref E, .int 0]))]) [0] rfl
  have hD9 := hD.sub (ws' := [(h, .inr (2, [.int 0, .ref E, .int 0]))]) [0] (by decide) rfl
  exact W.vret hx hb hr (fun t ht hW => ⟨⟨(), rfl, trivial, ⟨by rw [ht]; exact hP9, hD9⟩⟩, hS.F ht⟩) hS.2.2 dJx4a65c_init_da8c8_11

set_option maxHeartbeats 4000000 in
set_option maxRecDepth 100000 in
theorem i_Row_12 (l : Launch) (D : va_G) (dA : Nat → ClassId) (E : Nat) (h : Nat) (sz : Nat)   : Met l yX2_init (wq (.code yX2_init cX2_init 2 none)) { frames := 1, cells := 1, slots := 12, locals := 12 } (va_Pc [.ref h, .int 12] (PcB D dA E [(h, .inr (5, [.null]))] sz)) (va_Qv (fun (u : Nat) => True) (fun u t => va_P D vwCl [(h, .inr (5, [.ref u])), (u, .inl (dA 0, 12, .inl (fun _ => 0)))] t.heap ∧ va_D (va_A [(h, .inr (5, [.null]))] sz) [(h, .inr (5, [.ref u])), (u, .inl (dA 0, 12, .inl (fun _ => 0)))]) (va_A [(h, .inr (5, [.null]))] sz)) 1 12 (va_A [(h, .inr (5, [.null]))] sz) := by
  refine mb_of (Qc := fun A => va_Qv (fun (u : Nat) => True) (fun u t => va_P D vwCl [(h, .inr (5, [.ref u])), (u, .inl (dA 0, 12, .inl (fun _ => 0)))] t.heap ∧ va_D A [(h, .inr (5, [.ref u])), (u, .inl (dA 0, 12, .inl (fun _ => 0)))]) A) RX2 rfl (by decide) (Nat.le_of_ble_eq_true rfl) ?_
  intro p e s m args below meth c hae hx hb hr hts hown hlocks hml hnm hP hK A hAe hD hZ hS hA ls hl
  have hl : lv_has ls 2 [(0, .ref h), (1, .int 12)] := hl
  refine lv_aload_n hx hb dX2_init_0 rfl (lv_at hl 0 rfl) ?_
  refine W.objInit hx hb hown (hts _ q276) (hts _ q263) (hts _ q264) rfl (by rw [hml]; exact hl.1) rfl dX2_init_1 (Nat.le_of_ble_eq_true rfl) (Nat.le_of_ble_eq_true rfl) ?_
  refine W.eq (g2 := F0 m 4 ls []) rfl ?_
  refine lv_aload_n hx hb dX2_init_4 rfl (lv_at hl 0 rfl) ?_
  refine lv_iload_n hx hb dX2_init_5 rfl (lv_at hl 1 rfl) ?_
  refine lv_if_ge (tgt := 13) hx hb dX2_init_6 (by decide) (fun _ => ?_) (fun c1 => absurd (by decide) c1)
  refine lv_iload_n hx hb dX2_init_13 rfl (lv_at hl 1 rfl) ?_
  refine va_newa (atype := .int) (ty := .int) (N' := 12) (a0 := (12, .inl (fun _ => 0))) hx hb (hts _ q277) rfl hK hP hD hS hA (fun _ => rfl) (by decide) (by decide) (by decide) (Nat.le_of_ble_eq_true rfl) (Nat.le_of_ble_eq_true rfl) dX2_init_14 (fun q2 cAq2 H hKn hP hD hS => ?_)
  obtain rfl : cAq2 = dA 0 := ty_eq 0 hKn rfl
  have hP : va_P D vwCl [(h, .inr (5, [.null])), (q2, .inl (dA 0, 12, .inl (fun _ => 0)))] H := hP
  have hD : va_D A [(h, .inr (5, [.null])), (q2, .inl (dA 0, 12, .inl (fun _ => 0)))] := hD
  refine W.widen (k := 1) (n := 12) (Nat.le_of_ble_eq_true rfl) (Nat.le_of_ble_eq_true rfl) ?_
  refine va_putF (D := D) (ci := 5) (v := .ref q2) (ty := .array .int) (C := RX2) (T := TX2) (N := 1) hx hb hts inAX2 tyX2 tyX2_ok nmX2 hown hK hP hD hS 0 rfl rfl 0 (by decide) (hts _ q199) (fun _ h9 => h9) rfl hnm rfl (tyX2_ok 0 (by decide)) rfl rfl (Nat.le_of_ble_eq_true rfl) dX2_init_16 (fun H locs hP hD hS => ?_)
  have hP : va_P D vwCl [(h, .inr (5, [.ref q2])), (q2, .inl (dA 0, 12, .inl (fun _ => 0)))] H := hP
  have hD : va_D A [(h, .inr (5, [.ref q2])), (q2, .inl (dA 0, 12, .inl (fun _ => 0)))] := hD
  refine W.widen (k := 1) (n := 12) (Nat.le_of_ble_eq_true rfl) (Nat.le_of_ble_eq_true rfl) ?_
  have hP9 := hP.sub (ws' := [(h, .inr (5, [.ref q2])), (q2, .inl (dA 0, 12, .inl (fun _ => 0)))]) [0, 1] rfl
  have hD9 := hD.sub (ws' := [(h, .inr (5, [.ref q2])), (q2, .inl (dA 0, 12, .inl (fun _ => 0)))]) [0, 1] (by decide) rfl
  exact W.vret hx hb hr (fun t ht hW => ⟨⟨q2, rfl, trivial, ⟨by rw [ht]; exact hP9, hD9⟩⟩, hS.F ht⟩) hS.2.2 dX2_init_19

set_option maxHeartbeats 4000000 in
set_option maxRecDepth 100000 in
theorem i_Row_30 (l : Launch) (D : va_G) (dA : Nat → ClassId) (E : Nat) (h : Nat) (sz : Nat)   : Met l yX2_init (wq (.code yX2_init cX2_init 2 none)) { frames := 1, cells := 1, slots := 30, locals := 12 } (va_Pc [.ref h, .int 30] (PcB D dA E [(h, .inr (5, [.null]))] sz)) (va_Qv (fun (u : Nat) => True) (fun u t => va_P D vwCl [(h, .inr (5, [.ref u])), (u, .inl (dA 0, 30, .inl (fun _ => 0)))] t.heap ∧ va_D (va_A [(h, .inr (5, [.null]))] sz) [(h, .inr (5, [.ref u])), (u, .inl (dA 0, 30, .inl (fun _ => 0)))]) (va_A [(h, .inr (5, [.null]))] sz)) 1 30 (va_A [(h, .inr (5, [.null]))] sz) := by
  refine mb_of (Qc := fun A => va_Qv (fun (u : Nat) => True) (fun u t => va_P D vwCl [(h, .inr (5, [.ref u])), (u, .inl (dA 0, 30, .inl (fun _ => 0)))] t.heap ∧ va_D A [(h, .inr (5, [.ref u])), (u, .inl (dA 0, 30, .inl (fun _ => 0)))]) A) RX2 rfl (by decide) (Nat.le_of_ble_eq_true rfl) ?_
  intro p e s m args below meth c hae hx hb hr hts hown hlocks hml hnm hP hK A hAe hD hZ hS hA ls hl
  have hl : lv_has ls 2 [(0, .ref h), (1, .int 30)] := hl
  refine lv_aload_n hx hb dX2_init_0 rfl (lv_at hl 0 rfl) ?_
  refine W.objInit hx hb hown (hts _ q276) (hts _ q263) (hts _ q264) rfl (by rw [hml]; exact hl.1) rfl dX2_init_1 (Nat.le_of_ble_eq_true rfl) (Nat.le_of_ble_eq_true rfl) ?_
  refine W.eq (g2 := F0 m 4 ls []) rfl ?_
  refine lv_aload_n hx hb dX2_init_4 rfl (lv_at hl 0 rfl) ?_
  refine lv_iload_n hx hb dX2_init_5 rfl (lv_at hl 1 rfl) ?_
  refine lv_if_ge (tgt := 13) hx hb dX2_init_6 (by decide) (fun _ => ?_) (fun c1 => absurd (by decide) c1)
  refine lv_iload_n hx hb dX2_init_13 rfl (lv_at hl 1 rfl) ?_
  refine va_newa (atype := .int) (ty := .int) (N' := 30) (a0 := (30, .inl (fun _ => 0))) hx hb (hts _ q277) rfl hK hP hD hS hA (fun _ => rfl) (by decide) (by decide) (by decide) (Nat.le_of_ble_eq_true rfl) (Nat.le_of_ble_eq_true rfl) dX2_init_14 (fun q2 cAq2 H hKn hP hD hS => ?_)
  obtain rfl : cAq2 = dA 0 := ty_eq 0 hKn rfl
  have hP : va_P D vwCl [(h, .inr (5, [.null])), (q2, .inl (dA 0, 30, .inl (fun _ => 0)))] H := hP
  have hD : va_D A [(h, .inr (5, [.null])), (q2, .inl (dA 0, 30, .inl (fun _ => 0)))] := hD
  refine W.widen (k := 1) (n := 30) (Nat.le_of_ble_eq_true rfl) (Nat.le_of_ble_eq_true rfl) ?_
  refine va_putF (D := D) (ci := 5) (v := .ref q2) (ty := .array .int) (C := RX2) (T := TX2) (N := 1) hx hb hts inAX2 tyX2 tyX2_ok nmX2 hown hK hP hD hS 0 rfl rfl 0 (by decide) (hts _ q199) (fun _ h9 => h9) rfl hnm rfl (tyX2_ok 0 (by decide)) rfl rfl (Nat.le_of_ble_eq_true rfl) dX2_init_16 (fun H locs hP hD hS => ?_)
  have hP : va_P D vwCl [(h, .inr (5, [.ref q2])), (q2, .inl (dA 0, 30, .inl (fun _ => 0)))] H := hP
  have hD : va_D A [(h, .inr (5, [.ref q2])), (q2, .inl (dA 0, 30, .inl (fun _ => 0)))] := hD
  refine W.widen (k := 1) (n := 30) (Nat.le_of_ble_eq_true rfl) (Nat.le_of_ble_eq_true rfl) ?_
  have hP9 := hP.sub (ws' := [(h, .inr (5, [.ref q2])), (q2, .inl (dA 0, 30, .inl (fun _ => 0)))]) [0, 1] rfl
  have hD9 := hD.sub (ws' := [(h, .inr (5, [.ref q2])), (q2, .inl (dA 0, 30, .inl (fun _ => 0)))]) [0, 1] (by decide) rfl
  exact W.vret hx hb hr (fun t ht hW => ⟨⟨q2, rfl, trivial, ⟨by rw [ht]; exact hP9, hD9⟩⟩, hS.F ht⟩) hS.2.2 dX2_init_19

set_option maxHeartbeats 4000000 in
set_option maxRecDepth 100000 in
theorem i_Row_40 (l : Launch) (D : va_G) (dA : Nat → ClassId) (E : Nat) (h : Nat) (sz : Nat)   : Met l yX2_init (wq (.code yX2_init cX2_init 2 none)) { frames := 1, cells := 1, slots := 40, locals := 12 } (va_Pc [.ref h, .int 40] (PcB D dA E [(h, .inr (5, [.null]))] sz)) (va_Qv (fun (u : Nat) => True) (fun u t => va_P D vwCl [(h, .inr (5, [.ref u])), (u, .inl (dA 0, 40, .inl (fun _ => 0)))] t.heap ∧ va_D (va_A [(h, .inr (5, [.null]))] sz) [(h, .inr (5, [.ref u])), (u, .inl (dA 0, 40, .inl (fun _ => 0)))]) (va_A [(h, .inr (5, [.null]))] sz)) 1 40 (va_A [(h, .inr (5, [.null]))] sz) := by
  refine mb_of (Qc := fun A => va_Qv (fun (u : Nat) => True) (fun u t => va_P D vwCl [(h, .inr (5, [.ref u])), (u, .inl (dA 0, 40, .inl (fun _ => 0)))] t.heap ∧ va_D A [(h, .inr (5, [.ref u])), (u, .inl (dA 0, 40, .inl (fun _ => 0)))]) A) RX2 rfl (by decide) (Nat.le_of_ble_eq_true rfl) ?_
  intro p e s m args below meth c hae hx hb hr hts hown hlocks hml hnm hP hK A hAe hD hZ hS hA ls hl
  have hl : lv_has ls 2 [(0, .ref h), (1, .int 40)] := hl
  refine lv_aload_n hx hb dX2_init_0 rfl (lv_at hl 0 rfl) ?_
  refine W.objInit hx hb hown (hts _ q276) (hts _ q263) (hts _ q264) rfl (by rw [hml]; exact hl.1) rfl dX2_init_1 (Nat.le_of_ble_eq_true rfl) (Nat.le_of_ble_eq_true rfl) ?_
  refine W.eq (g2 := F0 m 4 ls []) rfl ?_
  refine lv_aload_n hx hb dX2_init_4 rfl (lv_at hl 0 rfl) ?_
  refine lv_iload_n hx hb dX2_init_5 rfl (lv_at hl 1 rfl) ?_
  refine lv_if_ge (tgt := 13) hx hb dX2_init_6 (by decide) (fun _ => ?_) (fun c1 => absurd (by decide) c1)
  refine lv_iload_n hx hb dX2_init_13 rfl (lv_at hl 1 rfl) ?_
  refine va_newa (atype := .int) (ty := .int) (N' := 40) (a0 := (40, .inl (fun _ => 0))) hx hb (hts _ q277) rfl hK hP hD hS hA (fun _ => rfl) (by decide) (by decide) (by decide) (Nat.le_of_ble_eq_true rfl) (Nat.le_of_ble_eq_true rfl) dX2_init_14 (fun q2 cAq2 H hKn hP hD hS => ?_)
  obtain rfl : cAq2 = dA 0 := ty_eq 0 hKn rfl
  have hP : va_P D vwCl [(h, .inr (5, [.null])), (q2, .inl (dA 0, 40, .inl (fun _ => 0)))] H := hP
  have hD : va_D A [(h, .inr (5, [.null])), (q2, .inl (dA 0, 40, .inl (fun _ => 0)))] := hD
  refine W.widen (k := 1) (n := 40) (Nat.le_of_ble_eq_true rfl) (Nat.le_of_ble_eq_true rfl) ?_
  refine va_putF (D := D) (ci := 5) (v := .ref q2) (ty := .array .int) (C := RX2) (T := TX2) (N := 1) hx hb hts inAX2 tyX2 tyX2_ok nmX2 hown hK hP hD hS 0 rfl rfl 0 (by decide) (hts _ q199) (fun _ h9 => h9) rfl hnm rfl (tyX2_ok 0 (by decide)) rfl rfl (Nat.le_of_ble_eq_true rfl) dX2_init_16 (fun H locs hP hD hS => ?_)
  have hP : va_P D vwCl [(h, .inr (5, [.ref q2])), (q2, .inl (dA 0, 40, .inl (fun _ => 0)))] H := hP
  have hD : va_D A [(h, .inr (5, [.ref q2])), (q2, .inl (dA 0, 40, .inl (fun _ => 0)))] := hD
  refine W.widen (k := 1) (n := 40) (Nat.le_of_ble_eq_true rfl) (Nat.le_of_ble_eq_true rfl) ?_
  have hP9 := hP.sub (ws' := [(h, .inr (5, [.ref q2])), (q2, .inl (dA 0, 40, .inl (fun _ => 0)))]) [0, 1] rfl
  have hD9 := hD.sub (ws' := [(h, .inr (5, [.ref q2])), (q2, .inl (dA 0, 40, .inl (fun _ => 0)))]) [0, 1] (by decide) rfl
  exact W.vret hx hb hr (fun t ht hW => ⟨⟨q2, rfl, trivial, ⟨by rw [ht]; exact hP9, hD9⟩⟩, hS.F ht⟩) hS.2.2 dX2_init_19

set_option maxHeartbeats 4000000 in
set_option maxRecDepth 100000 in
theorem i_Row_84 (l : Launch) (D : va_G) (dA : Nat → ClassId) (E : Nat) (h : Nat) (sz : Nat)   : Met l yX2_init (wq (.code yX2_init cX2_init 2 none)) { frames := 1, cells := 1, slots := 84, locals := 12 } (va_Pc [.ref h, .int 84] (PcB D dA E [(h, .inr (5, [.null]))] sz)) (va_Qv (fun (u : Nat) => True) (fun u t => va_P D vwCl [(h, .inr (5, [.ref u])), (u, .inl (dA 0, 84, .inl (fun _ => 0)))] t.heap ∧ va_D (va_A [(h, .inr (5, [.null]))] sz) [(h, .inr (5, [.ref u])), (u, .inl (dA 0, 84, .inl (fun _ => 0)))]) (va_A [(h, .inr (5, [.null]))] sz)) 1 84 (va_A [(h, .inr (5, [.null]))] sz) := by
  refine mb_of (Qc := fun A => va_Qv (fun (u : Nat) => True) (fun u t => va_P D vwCl [(h, .inr (5, [.ref u])), (u, .inl (dA 0, 84, .inl (fun _ => 0)))] t.heap ∧ va_D A [(h, .inr (5, [.ref u])), (u, .inl (dA 0, 84, .inl (fun _ => 0)))]) A) RX2 rfl (by decide) (Nat.le_of_ble_eq_true rfl) ?_
  intro p e s m args below meth c hae hx hb hr hts hown hlocks hml hnm hP hK A hAe hD hZ hS hA ls hl
  have hl : lv_has ls 2 [(0, .ref h), (1, .int 84)] := hl
  refine lv_aload_n hx hb dX2_init_0 rfl (lv_at hl 0 rfl) ?_
  refine W.objInit hx hb hown (hts _ q276) (hts _ q263) (hts _ q264) rfl (by rw [hml]; exact hl.1) rfl dX2_init_1 (Nat.le_of_ble_eq_true rfl) (Nat.le_of_ble_eq_true rfl) ?_
  refine W.eq (g2 := F0 m 4 ls []) rfl ?_
  refine lv_aload_n hx hb dX2_init_4 rfl (lv_at hl 0 rfl) ?_
  refine lv_iload_n hx hb dX2_init_5 rfl (lv_at hl 1 rfl) ?_
  refine lv_if_ge (tgt := 13) hx hb dX2_init_6 (by decide) (fun _ => ?_) (fun c1 => absurd (by decide) c1)
  refine lv_iload_n hx hb dX2_init_13 rfl (lv_at hl 1 rfl) ?_
  refine va_newa (atype := .int) (ty := .int) (N' := 84) (a0 := (84, .inl (fun _ => 0))) hx hb (hts _ q277) rfl hK hP hD hS hA (fun _ => rfl) (by decide) (by decide) (by decide) (Nat.le_of_ble_eq_true rfl) (Nat.le_of_ble_eq_true rfl) dX2_init_14 (fun q2 cAq2 H hKn hP hD hS => ?_)
  obtain rfl : cAq2 = dA 0 := ty_eq 0 hKn rfl
  have hP : va_P D vwCl [(h, .inr (5, [.null])), (q2, .inl (dA 0, 84, .inl (fun _ => 0)))] H := hP
  have hD : va_D A [(h, .inr (5, [.null])), (q2, .inl (dA 0, 84, .inl (fun _ => 0)))] := hD
  refine W.widen (k := 1) (n := 84) (Nat.le_of_ble_eq_true rfl) (Nat.le_of_ble_eq_true rfl) ?_
  refine va_putF (D := D) (ci := 5) (v := .ref q2) (ty := .array .int) (C := RX2) (T := TX2) (N := 1) hx hb hts inAX2 tyX2 tyX2_ok nmX2 hown hK hP hD hS 0 rfl rfl 0 (by decide) (hts _ q199) (fun _ h9 => h9) rfl hnm rfl (tyX2_ok 0 (by decide)) rfl rfl (Nat.le_of_ble_eq_true rfl) dX2_init_16 (fun H locs hP hD hS => ?_)
  have hP : va_P D vwCl [(h, .inr (5, [.ref q2])), (q2, .inl (dA 0, 84, .inl (fun _ => 0)))] H := hP
  have hD : va_D A [(h, .inr (5, [.ref q2])), (q2, .inl (dA 0, 84, .inl (fun _ => 0)))] := hD
  refine W.widen (k := 1) (n := 84) (Nat.le_of_ble_eq_true rfl) (Nat.le_of_ble_eq_true rfl) ?_
  have hP9 := hP.sub (ws' := [(h, .inr (5, [.ref q2])), (q2, .inl (dA 0, 84, .inl (fun _ => 0)))]) [0, 1] rfl
  have hD9 := hD.sub (ws' := [(h, .inr (5, [.ref q2])), (q2, .inl (dA 0, 84, .inl (fun _ => 0)))]) [0, 1] (by decide) rfl
  exact W.vret hx hb hr (fun t ht hW => ⟨⟨q2, rfl, trivial, ⟨by rw [ht]; exact hP9, hD9⟩⟩, hS.F ht⟩) hS.2.2 dX2_init_19

set_option maxHeartbeats 4000000 in
set_option maxRecDepth 100000 in
theorem i_Row_1200 (l : Launch) (D : va_G) (dA : Nat → ClassId) (E : Nat) (h : Nat) (sz : Nat)   : Met l yX2_init (wq (.code yX2_init cX2_init 2 none)) { frames := 1, cells := 1, slots := 1200, locals := 12 } (va_Pc [.ref h, .int 1200] (PcB D dA E [(h, .inr (5, [.null]))] sz)) (va_Qv (fun (u : Nat) => True) (fun u t => va_P D vwCl [(h, .inr (5, [.ref u])), (u, .inl (dA 0, 1200, .inl (fun _ => 0)))] t.heap ∧ va_D (va_A [(h, .inr (5, [.null]))] sz) [(h, .inr (5, [.ref u])), (u, .inl (dA 0, 1200, .inl (fun _ => 0)))]) (va_A [(h, .inr (5, [.null]))] sz)) 1 1200 (va_A [(h, .inr (5, [.null]))] sz) := by
  refine mb_of (Qc := fun A => va_Qv (fun (u : Nat) => True) (fun u t => va_P D vwCl [(h, .inr (5, [.ref u])), (u, .inl (dA 0, 1200, .inl (fun _ => 0)))] t.heap ∧ va_D A [(h, .inr (5, [.ref u])), (u, .inl (dA 0, 1200, .inl (fun _ => 0)))]) A) RX2 rfl (by decide) (Nat.le_of_ble_eq_true rfl) ?_
  intro p e s m args below meth c hae hx hb hr hts hown hlocks hml hnm hP hK A hAe hD hZ hS hA ls hl
  have hl : lv_has ls 2 [(0, .ref h), (1, .int 1200)] := hl
  refine lv_aload_n hx hb dX2_init_0 rfl (lv_at hl 0 rfl) ?_
  refine W.objInit hx hb hown (hts _ q276) (hts _ q263) (hts _ q264) rfl (by rw [hml]; exact hl.1) rfl dX2_init_1 (Nat.le_of_ble_eq_true rfl) (Nat.le_of_ble_eq_true rfl) ?_
  refine W.eq (g2 := F0 m 4 ls []) rfl ?_
  refine lv_aload_n hx hb dX2_init_4 rfl (lv_at hl 0 rfl) ?_
  refine lv_iload_n hx hb dX2_init_5 rfl (lv_at hl 1 rfl) ?_
  refine lv_if_ge (tgt := 13) hx hb dX2_init_6 (by decide) (fun _ => ?_) (fun c1 => absurd (by decide) c1)
  refine lv_iload_n hx hb dX2_init_13 rfl (lv_at hl 1 rfl) ?_
  refine va_newa (atype := .int) (ty := .int) (N' := 1200) (a0 := (1200, .inl (fun _ => 0))) hx hb (hts _ q277) rfl hK hP hD hS hA (fun _ => rfl) (by decide) (by decide) (by decide) (Nat.le_of_ble_eq_true rfl) (Nat.le_of_ble_eq_true rfl) dX2_init_14 (fun q2 cAq2 H hKn hP hD hS => ?_)
  obtain rfl : cAq2 = dA 0 := ty_eq 0 hKn rfl
  have hP : va_P D vwCl [(h, .inr (5, [.null])), (q2, .inl (dA 0, 1200, .inl (fun _ => 0)))] H := hP
  have hD : va_D A [(h, .inr (5, [.null])), (q2, .inl (dA 0, 1200, .inl (fun _ => 0)))] := hD
  refine W.widen (k := 1) (n := 1200) (Nat.le_of_ble_eq_true rfl) (Nat.le_of_ble_eq_true rfl) ?_
  refine va_putF (D := D) (ci := 5) (v := .ref q2) (ty := .array .int) (C := RX2) (T := TX2) (N := 1) hx hb hts inAX2 tyX2 tyX2_ok nmX2 hown hK hP hD hS 0 rfl rfl 0 (by decide) (hts _ q199) (fun _ h9 => h9) rfl hnm rfl (tyX2_ok 0 (by decide)) rfl rfl (Nat.le_of_ble_eq_true rfl) dX2_init_16 (fun H locs hP hD hS => ?_)
  have hP : va_P D vwCl [(h, .inr (5, [.ref q2])), (q2, .inl (dA 0, 1200, .inl (fun _ => 0)))] H := hP
  have hD : va_D A [(h, .inr (5, [.ref q2])), (q2, .inl (dA 0, 1200, .inl (fun _ => 0)))] := hD
  refine W.widen (k := 1) (n := 1200) (Nat.le_of_ble_eq_true rfl) (Nat.le_of_ble_eq_true rfl) ?_
  have hP9 := hP.sub (ws' := [(h, .inr (5, [.ref q2])), (q2, .inl (dA 0, 1200, .inl (fun _ => 0)))]) [0, 1] rfl
  have hD9 := hD.sub (ws' := [(h, .inr (5, [.ref q2])), (q2, .inl (dA 0, 1200, .inl (fun _ => 0)))]) [0, 1] (by decide) rfl
  exact W.vret hx hb hr (fun t ht hW => ⟨⟨q2, rfl, trivial, ⟨by rw [ht]; exact hP9, hD9⟩⟩, hS.F ht⟩) hS.2.2 dX2_init_19

set_option maxHeartbeats 4000000 in
set_option maxRecDepth 100000 in
theorem i_Text (l : Launch) (D : va_G) (dA : Nat → ClassId) (E : Nat) (h : Nat) (sz : Nat)   : Met l yX6_init (wq (.code yX6_init cX6_init 1 none)) { frames := 2, cells := 6, slots := 255, locals := 33 } (va_Pc [.ref h] (PcB D dA E [(h, .inr (9, [.null, .null, .null, .int 0]))] sz)) (va_Qv (fun (u : Nat → Nat) => u 0 = h) (fun u t => va_P D vwCl [(u 0, .inr (9, [.ref (u 1), .ref (u 3), .ref (u 5), .int 0])), (u 1, .inr (5, [.ref (u 2)])), (u 2, .inl (dA 0, 84, .inl (fun _ => 0))), (u 3, .inr (5, [.ref (u 4)])), (u 4, .inl (dA 0, 84, .inl (fun _ => 0))), (u 5, .inr (5, [.ref (u 6)])), (u 6, .inl (dA 0, 84, .inl (fun _ => 0)))] t.heap ∧ va_D (va_A [(h, .inr (9, [.null, .null, .null, .int 0]))] sz) [(u 0, .inr (9, [.ref (u 1), .ref (u 3), .ref (u 5), .int 0])), (u 1, .inr (5, [.ref (u 2)])), (u 2, .inl (dA 0, 84, .inl (fun _ => 0))), (u 3, .inr (5, [.ref (u 4)])), (u 4, .inl (dA 0, 84, .inl (fun _ => 0))), (u 5, .inr (5, [.ref (u 6)])), (u 6, .inl (dA 0, 84, .inl (fun _ => 0)))]) (va_A [(h, .inr (9, [.null, .null, .null, .int 0]))] sz)) 6 255 (va_A [(h, .inr (9, [.null, .null, .null, .int 0]))] sz) := by
  refine mb_of (Qc := fun A => va_Qv (fun (u : Nat → Nat) => u 0 = h) (fun u t => va_P D vwCl [(u 0, .inr (9, [.ref (u 1), .ref (u 3), .ref (u 5), .int 0])), (u 1, .inr (5, [.ref (u 2)])), (u 2, .inl (dA 0, 84, .inl (fun _ => 0))), (u 3, .inr (5, [.ref (u 4)])), (u 4, .inl (dA 0, 84, .inl (fun _ => 0))), (u 5, .inr (5, [.ref (u 6)])), (u 6, .inl (dA 0, 84, .inl (fun _ => 0)))] t.heap ∧ va_D A [(u 0, .inr (9, [.ref (u 1), .ref (u 3), .ref (u 5), .int 0])), (u 1, .inr (5, [.ref (u 2)])), (u 2, .inl (dA 0, 84, .inl (fun _ => 0))), (u 3, .inr (5, [.ref (u 4)])), (u 4, .inl (dA 0, 84, .inl (fun _ => 0))), (u 5, .inr (5, [.ref (u 6)])), (u 6, .inl (dA 0, 84, .inl (fun _ => 0)))]) A) RX6 rfl (by decide) (Nat.le_of_ble_eq_true rfl) ?_
  intro p e s m args below meth c hae hx hb hr hts hown hlocks hml hnm hP hK A hAe hD hZ hS hA ls hl
  have hl : lv_has ls 1 [(0, .ref h)] := hl
  refine lv_aload_n hx hb dX6_init_0 rfl (lv_at hl 0 rfl) ?_
  refine W.objInit hx hb hown (hts _ q278) (hts _ q263) (hts _ q264) rfl (by rw [hml]; exact hl.1) rfl dX6_init_1 (Nat.le_of_ble_eq_true rfl) (Nat.le_of_ble_eq_true rfl) ?_
  refine W.eq (g2 := F0 m 4 ls []) rfl ?_
  refine lv_aload_n hx hb dX6_init_4 rfl (lv_at hl 0 rfl) ?_
  refine va_new (ci := 5) (fs := [.null]) (C := RX2) (T := TX2) (N := 1) hx hb hts inAX2 tyX2 tyX2_ok hown (hts _ q279) (hts _ q280) (hts _ q204) hK hP hD hS hA rfl fsNX2 (Nat.le_of_ble_eq_true rfl) (Nat.le_of_ble_eq_true rfl) dX6_init_5 (fun q1 H hP hD hS => ?_)
  have hP : va_P D vwCl [(h, .inr (9, [.null, .null, .null, .int 0])), (q1, .inr (5, [.null]))] H := hP
  have hD : va_D A [(h, .inr (9, [.null, .null, .null, .int 0])), (q1, .inr (5, [.null]))] := hD
  refine W.widen (k := 1) (n := 1) (Nat.le_of_ble_eq_true rfl) (Nat.le_of_ble_eq_true rfl) ?_
  refine lv_dup hx hb dX6_init_8 rfl ?_
  refine lv_bipush (v := 84) hx hb dX6_init_9 (by decide) ?_
  have hPc := hP.sub (ws' := [(q1, .inr (5, [.null]))]) [1] rfl
  have hDc := hD.sub (ws' := [(q1, .inr (5, [.null]))]) [1] (by decide) rfl
  have hFc := va_free (wc := [(q1, .inr (5, [.null]))]) hD hS hA [1] rfl
  refine va_callv (va_runI (As := [.int 84]) (rest := [.ref q1, .ref h]) ⟨hx, hb, hml, hown, hts⟩ (i_Row_84 l D dA E q1 H.size ) (cwI 1 hts (ga_I q281) rfl rfl rfl (hts _ q204) (hts _ q282) (hts _ q283) rfl (by decide +kernel) ⟨(Nat.le_of_ble_eq_true rfl), (Nat.le_of_ble_eq_true rfl)⟩) ⟨pb_blind, pb_pre hK hPc hDc hZ hS hFc _⟩ rfl rfl hl.1 rfl (lv_room (Nat.le_of_ble_eq_true rfl)) dX6_init_11 ⟨(Nat.le_of_ble_eq_true rfl), (Nat.le_of_ble_eq_true rfl)⟩) hS (fun q _ h => hFc q h) hFc (fun u t H1 locs ht hvm hw hB hz1 hk1 hS => ?_)
  refine W.widen (k := 2) (n := 85) (Nat.le_of_ble_eq_true rfl) (Nat.le_of_ble_eq_true rfl) ?_
  obtain ⟨u2, rfl⟩ : ∃ z, z = u := ⟨_, rfl⟩
  have hw3 := hw
  clear hw
  obtain ⟨hP1, hD1⟩ := hB
  rw [ht] at hP1
  obtain ⟨hP, hD⟩ := va_join (wr := [(h, .inr (9, [.null, .null, .null, .int 0]))]) (w1 := [(q1, .inr (5, [.ref u2])), (u2, .inl (dA 0, 84, .inl (fun _ => 0)))]) hP hD [1] [0] rfl rfl (by decide) (by decide) hk1 hFc hP1 hD1
  generalize H1 = H at hP hS ⊢
  have hP : va_P D vwCl [(h, .inr (9, [.null, .null, .null, .int 0])), (q1, .inr (5, [.ref u2])), (u2, .inl (dA 0, 84, .inl (fun _ => 0)))] H := hP
  have hD : va_D A [(h, .inr (9, [.null, .null, .null, .int 0])), (q1, .inr (5, [.ref u2])), (u2, .inl (dA 0, 84, .inl (fun _ => 0)))] := hD
  refine va_putF (D := D) (ci := 9) (v := .ref q1) (ty := .object "TallowIndex$Row") (C := RX6) (T := TX6) (N := 4) hx hb hts inAX6 tyX6 tyX6_ok nmX6 hown hK hP hD hS 0 rfl rfl 0 (by decide) (hts _ q206) (fun _ h9 => h9) rfl hnm rfl (tyX6_ok 0 (by decide)) rfl rfl (Nat.le_of_ble_eq_true rfl) dX6_init_14 (fun H locs hP hD hS => ?_)
  have hP : va_P D vwCl [(h, .inr (9, [.ref q1, .null, .null, .int 0])), (q1, .inr (5, [.ref u2])), (u2, .inl (dA 0, 84, .inl (fun _ => 0)))] H := hP
  have hD : va_D A [(h, .inr (9, [.ref q1, .null, .null, .int 0])), (q1, .inr (5, [.ref u2])), (u2, .inl (dA 0, 84, .inl (fun _ => 0)))] := hD
  refine lv_aload_n hx hb dX6_init_17 rfl (lv_at hl 0 rfl) ?_
  refine va_new (ci := 5) (fs := [.null]) (C := RX2) (T := TX2) (N := 1) hx hb hts inAX2 tyX2 tyX2_ok hown (hts _ q279) (hts _ q280) (hts _ q204) hK hP hD hS hA rfl fsNX2 (Nat.le_of_ble_eq_true rfl) (Nat.le_of_ble_eq_true rfl) dX6_init_18 (fun q4 H hP hD hS => ?_)
  have hP : va_P D vwCl [(h, .inr (9, [.ref q1, .null, .null, .int 0])), (q1, .inr (5, [.ref u2])), (u2, .inl (dA 0, 84, .inl (fun _ => 0))), (q4, .inr (5, [.null]))] H := hP
  have hD : va_D A [(h, .inr (9, [.ref q1, .null, .null, .int 0])), (q1, .inr (5, [.ref u2])), (u2, .inl (dA 0, 84, .inl (fun _ => 0))), (q4, .inr (5, [.null]))] := hD
  refine W.widen (k := 3) (n := 86) (Nat.le_of_ble_eq_true rfl) (Nat.le_of_ble_eq_true rfl) ?_
  refine lv_dup hx hb dX6_init_21 rfl ?_
  refine lv_bipush (v := 84) hx hb dX6_init_22 (by decide) ?_
  have hPc := hP.sub (ws' := [(q4, .inr (5, [.null]))]) [3] rfl
  have hDc := hD.sub (ws' := [(q4, .inr (5, [.null]))]) [3] (by decide) rfl
  have hFc := va_free (wc := [(q4, .inr (5, [.null]))]) hD hS hA [3] rfl
  refine va_callv (va_runI (As := [.int 84]) (rest := [.ref q4, .ref h]) ⟨hx, hb, hml, hown, hts⟩ (i_Row_84 l D dA E q4 H.size ) (cwI 1 hts (ga_I q281) rfl rfl rfl (hts _ q204) (hts _ q282) (hts _ q283) rfl (by decide +kernel) ⟨(Nat.le_of_ble_eq_true rfl), (Nat.le_of_ble_eq_true rfl)⟩) ⟨pb_blind, pb_pre hK hPc hDc hZ hS hFc _⟩ rfl rfl hl.1 rfl (lv_room (Nat.le_of_ble_eq_true rfl)) dX6_init_24 ⟨(Nat.le_of_ble_eq_true rfl), (Nat.le_of_ble_eq_true rfl)⟩) hS (fun q _ h => hFc q h) hFc (fun u t H1 locs ht hvm hw hB hz1 hk1 hS => ?_)
  refine W.widen (k := 4) (n := 170) (Nat.le_of_ble_eq_true rfl) (Nat.le_of_ble_eq_true rfl) ?_
  obtain ⟨u5, rfl⟩ : ∃ z, z = u := ⟨_, rfl⟩
  have hw6 := hw
  clear hw
  obtain ⟨hP1, hD1⟩ := hB
  rw [ht] at hP1
  obtain ⟨hP, hD⟩ := va_join (wr := [(h, .inr (9, [.ref q1, .null, .null, .int 0])), (q1, .inr (5, [.ref u2])), (u2, .inl (dA 0, 84, .inl (fun _ => 0)))]) (w1 := [(q4, .inr (5, [.ref u5])), (u5, .inl (dA 0, 84, .inl (fun _ => 0)))]) hP hD [3] [0, 1, 2] rfl rfl (by decide) (by decide) hk1 hFc hP1 hD1
  generalize H1 = H at hP hS ⊢
  have hP : va_P D vwCl [(h, .inr (9, [.ref q1, .null, .null, .int 0])), (q1, .inr (5, [.ref u2])), (u2, .inl (dA 0, 84, .inl (fun _ => 0))), (q4, .inr (5, [.ref u5])), (u5, .inl (dA 0, 84, .inl (fun _ => 0)))] H := hP
  have hD : va_D A [(h, .inr (9, [.ref q1, .null, .null, .int 0])), (q1, .inr (5, [.ref u2])), (u2, .inl (dA 0, 84, .inl (fun _ => 0))), (q4, .inr (5, [.ref u5])), (u5, .inl (dA 0, 84, .inl (fun _ => 0)))] := hD
  refine va_putF (D := D) (ci := 9) (v := .ref q4) (ty := .object "TallowIndex$Row") (C := RX6) (T := TX6) (N := 4) hx hb hts inAX6 tyX6 tyX6_ok nmX6 hown hK hP hD hS 0 rfl rfl 1 (by decide) (hts _ q211) (fun _ h9 => h9) rfl hnm rfl (tyX6_ok 1 (by decide)) rfl rfl (Nat.le_of_ble_eq_true rfl) dX6_init_27 (fun H locs hP hD hS => ?_)
  have hP : va_P D vwCl [(h, .inr (9, [.ref q1, .ref q4, .null, .int 0])), (q1, .inr (5, [.ref u2])), (u2, .inl (dA 0, 84, .inl (fun _ => 0))), (q4, .inr (5, [.ref u5])), (u5, .inl (dA 0, 84, .inl (fun _ => 0)))] H := hP
  have hD : va_D A [(h, .inr (9, [.ref q1, .ref q4, .null, .int 0])), (q1, .inr (5, [.ref u2])), (u2, .inl (dA 0, 84, .inl (fun _ => 0))), (q4, .inr (5, [.ref u5])), (u5, .inl (dA 0, 84, .inl (fun _ => 0)))] := hD
  refine lv_aload_n hx hb dX6_init_30 rfl (lv_at hl 0 rfl) ?_
  refine va_new (ci := 5) (fs := [.null]) (C := RX2) (T := TX2) (N := 1) hx hb hts inAX2 tyX2 tyX2_ok hown (hts _ q279) (hts _ q280) (hts _ q204) hK hP hD hS hA rfl fsNX2 (Nat.le_of_ble_eq_true rfl) (Nat.le_of_ble_eq_true rfl) dX6_init_31 (fun q7 H hP hD hS => ?_)
  have hP : va_P D vwCl [(h, .inr (9, [.ref q1, .ref q4, .null, .int 0])), (q1, .inr (5, [.ref u2])), (u2, .inl (dA 0, 84, .inl (fun _ => 0))), (q4, .inr (5, [.ref u5])), (u5, .inl (dA 0, 84, .inl (fun _ => 0))), (q7, .inr (5, [.null]))] H := hP
  have hD : va_D A [(h, .inr (9, [.ref q1, .ref q4, .null, .int 0])), (q1, .inr (5, [.ref u2])), (u2, .inl (dA 0, 84, .inl (fun _ => 0))), (q4, .inr (5, [.ref u5])), (u5, .inl (dA 0, 84, .inl (fun _ => 0))), (q7, .inr (5, [.null]))] := hD
  refine W.widen (k := 5) (n := 171) (Nat.le_of_ble_eq_true rfl) (Nat.le_of_ble_eq_true rfl) ?_
  refine lv_dup hx hb dX6_init_34 rfl ?_
  refine lv_bipush (v := 84) hx hb dX6_init_35 (by decide) ?_
  have hPc := hP.sub (ws' := [(q7, .inr (5, [.null]))]) [5] rfl
  have hDc := hD.sub (ws' := [(q7, .inr (5, [.null]))]) [5] (by decide) rfl
  have hFc := va_free (wc := [(q7, .inr (5, [.null]))]) hD hS hA [5] rfl
  refine va_callv (va_runI (As := [.int 84]) (rest := [.ref q7, .ref h]) ⟨hx, hb, hml, hown, hts⟩ (i_Row_84 l D dA E q7 H.size ) (cwI 1 hts (ga_I q281) rfl rfl rfl (hts _ q204) (hts _ q282) (hts _ q283) rfl (by decide +kernel) ⟨(Nat.le_of_ble_eq_true rfl), (Nat.le_of_ble_eq_true rfl)⟩) ⟨pb_blind, pb_pre hK hPc hDc hZ hS hFc _⟩ rfl rfl hl.1 rfl (lv_room (Nat.le_of_ble_eq_true rfl)) dX6_init_37 ⟨(Nat.le_of_ble_eq_true rfl), (Nat.le_of_ble_eq_true rfl)⟩) hS (fun q _ h => hFc q h) hFc (fun u t H1 locs ht hvm hw hB hz1 hk1 hS => ?_)
  refine W.widen (k := 6) (n := 255) (Nat.le_of_ble_eq_true rfl) (Nat.le_of_ble_eq_true rfl) ?_
  obtain ⟨u8, rfl⟩ : ∃ z, z = u := ⟨_, rfl⟩
  have hw9 := hw
  clear hw
  obtain ⟨hP1, hD1⟩ := hB
  rw [ht] at hP1
  obtain ⟨hP, hD⟩ := va_join (wr := [(h, .inr (9, [.ref q1, .ref q4, .null, .int 0])), (q1, .inr (5, [.ref u2])), (u2, .inl (dA 0, 84, .inl (fun _ => 0))), (q4, .inr (5, [.ref u5])), (u5, .inl (dA 0, 84, .inl (fun _ => 0)))]) (w1 := [(q7, .inr (5, [.ref u8])), (u8, .inl (dA 0, 84, .inl (fun _ => 0)))]) hP hD [5] [0, 1, 2, 3, 4] rfl rfl (by decide) (by decide) hk1 hFc hP1 hD1
  generalize H1 = H at hP hS ⊢
  have hP : va_P D vwCl [(h, .inr (9, [.ref q1, .ref q4, .null, .int 0])), (q1, .inr (5, [.ref u2])), (u2, .inl (dA 0, 84, .inl (fun _ => 0))), (q4, .inr (5, [.ref u5])), (u5, .inl (dA 0, 84, .inl (fun _ => 0))), (q7, .inr (5, [.ref u8])), (u8, .inl (dA 0, 84, .inl (fun _ => 0)))] H := hP
  have hD : va_D A [(h, .inr (9, [.ref q1, .ref q4, .null, .int 0])), (q1, .inr (5, [.ref u2])), (u2, .inl (dA 0, 84, .inl (fun _ => 0))), (q4, .inr (5, [.ref u5])), (u5, .inl (dA 0, 84, .inl (fun _ => 0))), (q7, .inr (5, [.ref u8])), (u8, .inl (dA 0, 84, .inl (fun _ => 0)))] := hD
  refine va_putF (D := D) (ci := 9) (v := .ref q7) (ty := .object "TallowIndex$Row") (C := RX6) (T := TX6) (N := 4) hx hb hts inAX6 tyX6 tyX6_ok nmX6 hown hK hP hD hS 0 rfl rfl 2 (by decide) (hts _ q212) (fun _ h9 => h9) rfl hnm rfl (tyX6_ok 2 (by decide)) rfl rfl (Nat.le_of_ble_eq_true rfl) dX6_init_40 (fun H locs hP hD hS => ?_)
  have hP : va_P D vwCl [(h, .inr (9, [.ref q1, .ref q4, .ref q7, .int 0])), (q1, .inr (5, [.ref u2])), (u2, .inl (dA 0, 84, .inl (fun _ => 0))), (q4, .inr (5, [.ref u5])), (u5, .inl (dA 0, 84, .inl (fun _ => 0))), (q7, .inr (5, [.ref u8])), (u8, .inl (dA 0, 84, .inl (fun _ => 0)))] H := hP
  have hD : va_D A [(h, .inr (9, [.ref q1, .ref q4, .ref q7, .int 0])), (q1, .inr (5, [.ref u2])), (u2, .inl (dA 0, 84, .inl (fun _ => 0))), (q4, .inr (5, [.ref u5])), (u5, .inl (dA 0, 84, .inl (fun _ => 0))), (q7, .inr (5, [.ref u8])), (u8, .inl (dA 0, 84, .inl (fun _ => 0)))] := hD
  refine W.widen (k := 6) (n := 255) (Nat.le_of_ble_eq_true rfl) (Nat.le_of_ble_eq_true rfl) ?_
  have hP9 := hP.sub (ws' := [(h, .inr (9, [.ref q1, .ref q4, .ref q7, .int 0])), (q1, .inr (5, [.ref u2])), (u2, .inl (dA 0, 84, .inl (fun _ => 0))), (q4, .inr (5, [.ref u5])), (u5, .inl (dA 0, 84, .inl (fun _ => 0))), (q7, .inr (5, [.ref u8])), (u8, .inl (dA 0, 84, .inl (fun _ => 0)))]) [0, 1, 2, 3, 4, 5, 6] rfl
  have hD9 := hD.sub (ws' := [(h, .inr (9, [.ref q1, .ref q4, .ref q7, .int 0])), (q1, .inr (5, [.ref u2])), (u2, .inl (dA 0, 84, .inl (fun _ => 0))), (q4, .inr (5, [.ref u5])), (u5, .inl (dA 0, 84, .inl (fun _ => 0))), (q7, .inr (5, [.ref u8])), (u8, .inl (dA 0, 84, .inl (fun _ => 0)))]) [0, 1, 2, 3, 4, 5, 6] (by decide) rfl
  exact W.vret hx hb hr (fun t ht hW => ⟨⟨(fun k => ([h, q1, u2, q4, u5, q7, u8] : List Nat).getD k 0), rfl, rfl, ⟨by rw [ht]; exact hP9, hD9⟩⟩, hS.F ht⟩) hS.2.2 dX6_init_43

set_option maxHeartbeats 4000000 in
set_option maxRecDepth 100000 in
theorem i_Document (l : Launch) (D : va_G) (dA : Nat → ClassId) (E : Nat) (h : Nat) (p0 p1 : Int32) (sz : Nat)   : Met l yX0_init (wq (.code yX0_init cX0_init 3 none)) { frames := 3, cells := 7, slots := 259, locals := 53 } (va_Pc [.ref h, .int p0, .int p1] (PcB D dA E [(h, .inr (3, [.int 0, .int 0, .null, .int 0]))] sz)) (va_Qv (fun (u : Nat → Nat) => True) (fun u t => va_P D vwCl [(h, .inr (3, [.int p0, .int p1, .ref (u 0), .int 0])), (u 0, .inr (9, [.ref (u 1), .ref (u 3), .ref (u 5), .int 0])), (u 1, .inr (5, [.ref (u 2)])), (u 2, .inl (dA 0, 84, .inl (fun _ => 0))), (u 3, .inr (5, [.ref (u 4)])), (u 4, .inl (dA 0, 84, .inl (fun _ => 0))), (u 5, .inr (5, [.ref (u 6)])), (u 6, .inl (dA 0, 84, .inl (fun _ => 0)))] t.heap ∧ va_D (va_A [(h, .inr (3, [.int 0, .int 0, .null, .int 0]))] sz) [(h, .inr (3, [.int p0, .int p1, .ref (u 0), .int 0])), (u 0, .inr (9, [.ref (u 1), .ref (u 3), .ref (u 5), .int 0])), (u 1, .inr (5, [.ref (u 2)])), (u 2, .inl (dA 0, 84, .inl (fun _ => 0))), (u 3, .inr (5, [.ref (u 4)])), (u 4, .inl (dA 0, 84, .inl (fun _ => 0))), (u 5, .inr (5, [.ref (u 6)])), (u 6, .inl (dA 0, 84, .inl (fun _ => 0)))]) (va_A [(h, .inr (3, [.int 0, .int 0, .null, .int 0]))] sz)) 7 259 (va_A [(h, .inr (3, [.int 0, .int 0, .null, .int 0]))] sz) := by
  refine mb_of (Qc := fun A => va_Qv (fun (u : Nat → Nat) => True) (fun u t => va_P D vwCl [(h, .inr (3, [.int p0, .int p1, .ref (u 0), .int 0])), (u 0, .inr (9, [.ref (u 1), .ref (u 3), .ref (u 5), .int 0])), (u 1, .inr (5, [.ref (u 2)])), (u 2, .inl (dA 0, 84, .inl (fun _ => 0))), (u 3, .inr (5, [.ref (u 4)])), (u 4, .inl (dA 0, 84, .inl (fun _ => 0))), (u 5, .inr (5, [.ref (u 6)])), (u 6, .inl (dA 0, 84, .inl (fun _ => 0)))] t.heap ∧ va_D A [(h, .inr (3, [.int p0, .int p1, .ref (u 0), .int 0])), (u 0, .inr (9, [.ref (u 1), .ref (u 3), .ref (u 5), .int 0])), (u 1, .inr (5, [.ref (u 2)])), (u 2, .inl (dA 0, 84, .inl (fun _ => 0))), (u 3, .inr (5, [.ref (u 4)])), (u 4, .inl (dA 0, 84, .inl (fun _ => 0))), (u 5, .inr (5, [.ref (u 6)])), (u 6, .inl (dA 0, 84, .inl (fun _ => 0)))]) A) RX0 rfl (by decide) (Nat.le_of_ble_eq_true rfl) ?_
  intro p e s m args below meth c hae hx hb hr hts hown hlocks hml hnm hP hK A hAe hD hZ hS hA ls hl
  have hl : lv_has ls 3 [(0, .ref h), (1, .int p0), (2, .int p1)] := hl
  refine lv_aload_n hx hb dX0_init_0 rfl (lv_at hl 0 rfl) ?_
  refine W.objInit hx hb hown (hts _ q284) (hts _ q263) (hts _ q264) rfl (by rw [hml]; exact hl.1) rfl dX0_init_1 (Nat.le_of_ble_eq_true rfl) (Nat.le_of_ble_eq_true rfl) ?_
  refine W.eq (g2 := F0 m 4 ls []) rfl ?_
  refine lv_aload_n hx hb dX0_init_4 rfl (lv_at hl 0 rfl) ?_
  refine va_new (ci := 9) (fs := [.null, .null, .null, .int 0]) (C := RX6) (T := TX6) (N := 4) hx hb hts inAX6 tyX6 tyX6_ok hown (hts _ q285) (hts _ q286) (hts _ q218) hK hP hD hS hA rfl fsNX6 (Nat.le_of_ble_eq_true rfl) (Nat.le_of_ble_eq_true rfl) dX0_init_5 (fun q1 H hP hD hS => ?_)
  have hP : va_P D vwCl [(h, .inr (3, [.int 0, .int 0, .null, .int 0])), (q1, .inr (9, [.null, .null, .null, .int 0]))] H := hP
  have hD : va_D A [(h, .inr (3, [.int 0, .int 0, .null, .int 0])), (q1, .inr (9, [.null, .null, .null, .int 0]))] := hD
  refine W.widen (k := 1) (n := 4) (Nat.le_of_ble_eq_true rfl) (Nat.le_of_ble_eq_true rfl) ?_
  refine lv_dup hx hb dX0_init_8 rfl ?_
  have hPc := hP.sub (ws' := [(q1, .inr (9, [.null, .null, .null, .int 0]))]) [1] rfl
  have hDc := hD.sub (ws' := [(q1, .inr (9, [.null, .null, .null, .int 0]))]) [1] (by decide) rfl
  have hFc := va_free (wc := [(q1, .inr (9, [.null, .null, .null, .int 0]))]) hD hS hA [1] rfl
  refine va_callv (va_runIN (As := []) (rest := [.ref q1, .ref h]) ⟨hx, hb, hml, hown, hts⟩ (i_Text l D dA E q1 H.size ) ⟨(va_cnB (host := "TallowIndex") 0 hts (ga_I q287) rfl rfl rfl (hZ.1.2.2.2.1 _ (List.mem_of_getElem? (i := 3) rfl)) (hts _ q218) (by decide +kernel) ⟨(Nat.le_of_ble_eq_true rfl), (Nat.le_of_ble_eq_true rfl)⟩), rfl, hts _ q288⟩ ⟨pb_blind, pb_pre hK hPc hDc hZ hS hFc _⟩ rfl rfl hl.1 rfl (lv_room (Nat.le_of_ble_eq_true rfl)) dX0_init_9 ⟨(Nat.le_of_ble_eq_true rfl), (Nat.le_of_ble_eq_true rfl)⟩) hS (fun q _ h => hFc q h) hFc (fun u t H1 locs ht hvm hw hB hz1 hk1 hS => ?_)
  refine W.widen (k := 7) (n := 259) (Nat.le_of_ble_eq_true rfl) (Nat.le_of_ble_eq_true rfl) ?_
  obtain ⟨u2, rfl⟩ : ∃ z, z = u := ⟨_, rfl⟩
  have hw3 := hw
  clear hw
  obtain ⟨hP1, hD1⟩ := hB
  rw [ht] at hP1
  obtain ⟨hP, hD⟩ := va_join (wr := [(h, .inr (3, [.int 0, .int 0, .null, .int 0]))]) (w1 := [(u2 0, .inr (9, [.ref (u2 1), .ref (u2 3), .ref (u2 5), .int 0])), (u2 1, .inr (5, [.ref (u2 2)])), (u2 2, .inl (dA 0, 84, .inl (fun _ => 0))), (u2 3, .inr (5, [.ref (u2 4)])), (u2 4, .inl (dA 0, 84, .inl (fun _ => 0))), (u2 5, .inr (5, [.ref (u2 6)])), (u2 6, .inl (dA 0, 84, .inl (fun _ => 0)))]) hP hD [1] [0] rfl rfl (by decide) (by decide) hk1 hFc hP1 hD1
  generalize H1 = H at hP hS ⊢
  have hP : va_P D vwCl [(h, .inr (3, [.int 0, .int 0, .null, .int 0])), (u2 0, .inr (9, [.ref (u2 1), .ref (u2 3), .ref (u2 5), .int 0])), (u2 1, .inr (5, [.ref (u2 2)])), (u2 2, .inl (dA 0, 84, .inl (fun _ => 0))), (u2 3, .inr (5, [.ref (u2 4)])), (u2 4, .inl (dA 0, 84, .inl (fun _ => 0))), (u2 5, .inr (5, [.ref (u2 6)])), (u2 6, .inl (dA 0, 84, .inl (fun _ => 0)))] H := hP
  have hD : va_D A [(h, .inr (3, [.int 0, .int 0, .null, .int 0])), (u2 0, .inr (9, [.ref (u2 1), .ref (u2 3), .ref (u2 5), .int 0])), (u2 1, .inr (5, [.ref (u2 2)])), (u2 2, .inl (dA 0, 84, .inl (fun _ => 0))), (u2 3, .inr (5, [.ref (u2 4)])), (u2 4, .inl (dA 0, 84, .inl (fun _ => 0))), (u2 5, .inr (5, [.ref (u2 6)])), (u2 6, .inl (dA 0, 84, .inl (fun _ => 0)))] := hD
  rw [hw3] at hP hD
  have hP : va_P D vwCl [(h, .inr (3, [.int 0, .int 0, .null, .int 0])), (q1, .inr (9, [.ref (u2 1), .ref (u2 3), .ref (u2 5), .int 0])), (u2 1, .inr (5, [.ref (u2 2)])), (u2 2, .inl (dA 0, 84, .inl (fun _ => 0))), (u2 3, .inr (5, [.ref (u2 4)])), (u2 4, .inl (dA 0, 84, .inl (fun _ => 0))), (u2 5, .inr (5, [.ref (u2 6)])), (u2 6, .inl (dA 0, 84, .inl (fun _ => 0)))] H := hP
  have hD : va_D A [(h, .inr (3, [.int 0, .int 0, .null, .int 0])), (q1, .inr (9, [.ref (u2 1), .ref (u2 3), .ref (u2 5), .int 0])), (u2 1, .inr (5, [.ref (u2 2)])), (u2 2, .inl (dA 0, 84, .inl (fun _ => 0))), (u2 3, .inr (5, [.ref (u2 4)])), (u2 4, .inl (dA 0, 84, .inl (fun _ => 0))), (u2 5, .inr (5, [.ref (u2 6)])), (u2 6, .inl (dA 0, 84, .inl (fun _ => 0)))] := hD
  clear hw3
  refine va_putF (D := D) (ci := 3) (v := .ref q1) (ty := .object "TallowIndex$Text") (C := RX0) (T := TX0) (N := 4) hx hb hts inAX0 tyX0 tyX0_ok nmX0 hown hK hP hD hS 0 rfl rfl 2 (by decide) (hts _ q289) (fun _ h9 => h9) rfl hnm rfl (tyX0_ok 2 (by decide)) rfl rfl (Nat.le_of_ble_eq_true rfl) dX0_init_12 (fun H locs hP hD hS => ?_)
  have hP : va_P D vwCl [(h, .inr (3, [.int 0, .int 0, .ref q1, .int 0])), (q1, .inr (9, [.ref (u2 1), .ref (u2 3), .ref (u2 5), .int 0])), (u2 1, .inr (5, [.ref (u2 2)])), (u2 2, .inl (dA 0, 84, .inl (fun _ => 0))), (u2 3, .inr (5, [.ref (u2 4)])), (u2 4, .inl (dA 0, 84, .inl (fun _ => 0))), (u2 5, .inr (5, [.ref (u2 6)])), (u2 6, .inl (dA 0, 84, .inl (fun _ => 0)))] H := hP
  have hD : va_D A [(h, .inr (3, [.int 0, .int 0, .ref q1, .int 0])), (q1, .inr (9, [.ref (u2 1), .ref (u2 3), .ref (u2 5), .int 0])), (u2 1, .inr (5, [.ref (u2 2)])), (u2 2, .inl (dA 0, 84, .inl (fun _ => 0))), (u2 3, .inr (5, [.ref (u2 4)])), (u2 4, .inl (dA 0, 84, .inl (fun _ => 0))), (u2 5, .inr (5, [.ref (u2 6)])), (u2 6, .inl (dA 0, 84, .inl (fun _ => 0)))] := hD
  refine lv_aload_n hx hb dX0_init_15 rfl (lv_at hl 0 rfl) ?_
  refine lv_iload_n hx hb dX0_init_16 rfl (lv_at hl 1 rfl) ?_
  refine va_putF (D := D) (ci := 3) (v := .int p0) (ty := .int) (C := RX0) (T := TX0) (N := 4) hx hb hts inAX0 tyX0 tyX0_ok nmX0 hown hK hP hD hS 0 rfl rfl 0 (by decide) (hts _ q290) (fun _ h9 => h9) rfl hnm rfl (tyX0_ok 0 (by decide)) rfl rfl (Nat.le_of_ble_eq_true rfl) dX0_init_17 (fun H locs hP hD hS => ?_)
  have hP : va_P D vwCl [(h, .inr (3, [.int p0, .int 0, .ref q1, .int 0])), (q1, .inr (9, [.ref (u2 1), .ref (u2 3), .ref (u2 5), .int 0])), (u2 1, .inr (5, [.ref (u2 2)])), (u2 2, .inl (dA 0, 84, .inl (fun _ => 0))), (u2 3, .inr (5, [.ref (u2 4)])), (u2 4, .inl (dA 0, 84, .inl (fun _ => 0))), (u2 5, .inr (5, [.ref (u2 6)])), (u2 6, .inl (dA 0, 84, .inl (fun _ => 0)))] H := hP
  have hD : va_D A [(h, .inr (3, [.int p0, .int 0, .ref q1, .int 0])), (q1, .inr (9, [.ref (u2 1), .ref (u2 3), .ref (u2 5), .int 0])), (u2 1, .inr (5, [.ref (u2 2)])), (u2 2, .inl (dA 0, 84, .inl (fun _ => 0))), (u2 3, .inr (5, [.ref (u2 4)])), (u2 4, .inl (dA 0, 84, .inl (fun _ => 0))), (u2 5, .inr (5, [.ref (u2 6)])), (u2 6, .inl (dA 0, 84, .inl (fun _ => 0)))] := hD
  refine lv_aload_n hx hb dX0_init_20 rfl (lv_at hl 0 rfl) ?_
  refine lv_iload_n hx hb dX0_init_21 rfl (lv_at hl 2 rfl) ?_
  refine va_putF (D := D) (ci := 3) (v := .int p1) (ty := .int) (C := RX0) (T := TX0) (N := 4) hx hb hts inAX0 tyX0 tyX0_ok nmX0 hown hK hP hD hS 0 rfl rfl 1 (by decide) (hts _ q291) (fun _ h9 => h9) rfl hnm rfl (tyX0_ok 1 (by decide)) rfl rfl (Nat.le_of_ble_eq_true rfl) dX0_init_22 (fun H locs hP hD hS => ?_)
  have hP : va_P D vwCl [(h, .inr (3, [.int p0, .int p1, .ref q1, .int 0])), (q1, .inr (9, [.ref (u2 1), .ref (u2 3), .ref (u2 5), .int 0])), (u2 1, .inr (5, [.ref (u2 2)])), (u2 2, .inl (dA 0, 84, .inl (fun _ => 0))), (u2 3, .inr (5, [.ref (u2 4)])), (u2 4, .inl (dA 0, 84, .inl (fun _ => 0))), (u2 5, .inr (5, [.ref (u2 6)])), (u2 6, .inl (dA 0, 84, .inl (fun _ => 0)))] H := hP
  have hD : va_D A [(h, .inr (3, [.int p0, .int p1, .ref q1, .int 0])), (q1, .inr (9, [.ref (u2 1), .ref (u2 3), .ref (u2 5), .int 0])), (u2 1, .inr (5, [.ref (u2 2)])), (u2 2, .inl (dA 0, 84, .inl (fun _ => 0))), (u2 3, .inr (5, [.ref (u2 4)])), (u2 4, .inl (dA 0, 84, .inl (fun _ => 0))), (u2 5, .inr (5, [.ref (u2 6)])), (u2 6, .inl (dA 0, 84, .inl (fun _ => 0)))] := hD
  refine W.widen (k := 7) (n := 259) (Nat.le_of_ble_eq_true rfl) (Nat.le_of_ble_eq_true rfl) ?_
  have hP9 := hP.sub (ws' := [(h, .inr (3, [.int p0, .int p1, .ref q1, .int 0])), (q1, .inr (9, [.ref (u2 1), .ref (u2 3), .ref (u2 5), .int 0])), (u2 1, .inr (5, [.ref (u2 2)])), (u2 2, .inl (dA 0, 84, .inl (fun _ => 0))), (u2 3, .inr (5, [.ref (u2 4)])), (u2 4, .inl (dA 0, 84, .inl (fun _ => 0))), (u2 5, .inr (5, [.ref (u2 6)])), (u2 6, .inl (dA 0, 84, .inl (fun _ => 0)))]) [0, 1, 2, 3, 4, 5, 6, 7] rfl
  have hD9 := hD.sub (ws' := [(h, .inr (3, [.int p0, .int p1, .ref q1, .int 0])), (q1, .inr (9, [.ref (u2 1), .ref (u2 3), .ref (u2 5), .int 0])), (u2 1, .inr (5, [.ref (u2 2)])), (u2 2, .inl (dA 0, 84, .inl (fun _ => 0))), (u2 3, .inr (5, [.ref (u2 4)])), (u2 4, .inl (dA 0, 84, .inl (fun _ => 0))), (u2 5, .inr (5, [.ref (u2 6)])), (u2 6, .inl (dA 0, 84, .inl (fun _ => 0)))]) [0, 1, 2, 3, 4, 5, 6, 7] (by decide) rfl
  exact W.vret hx hb hr (fun t ht hW => ⟨⟨(fun k => ([q1, u2 1, u2 2, u2 3, u2 4, u2 5, u2 6] : List Nat).getD k 0), rfl, trivial, ⟨by rw [ht]; exact hP9, hD9⟩⟩, hS.F ht⟩) hS.2.2 dX0_init_25

set_option maxHeartbeats 4000000 in
set_option maxRecDepth 100000 in
theorem i_View (l : Launch) (D : va_G) (dA : Nat → ClassId) (E : Nat) (h r0 : Nat) (p0 p1 : Int32) (sz : Nat)   : Met l yX7_init (wq (.code yX7_init cX7_init 4 none)) { frames := 1, cells := 0, slots := 0, locals := 12 } (va_Pc [.ref h, .int p0, .ref r0, .int p1] (PcB D dA E [(h, .inr (10, [.int 0, .null, .int 0]))] sz)) (va_Qv (fun (u : Unit) => True) (fun u t => va_P D vwCl [(h, .inr (10, [.int p0, .ref r0, .int p1]))] t.heap ∧ va_D (va_A [(h, .inr (10, [.int 0, .null, .int 0]))] sz) [(h, .inr (10, [.int p0, .ref r0, .int p1]))]) (va_A [(h, .inr (10, [.int 0, .null, .int 0]))] sz)) 0 0 (va_A [(h, .inr (10, [.int 0, .null, .int 0]))] sz) := by
  refine mb_of (Qc := fun A => va_Qv (fun (u : Unit) => True) (fun u t => va_P D vwCl [(h, .inr (10, [.int p0, .ref r0, .int p1]))] t.heap ∧ va_D A [(h, .inr (10, [.int p0, .ref r0, .int p1]))]) A) RX7 rfl (by decide) (Nat.le_of_ble_eq_true rfl) ?_
  intro p e s m args below meth c hae hx hb hr hts hown hlocks hml hnm hP hK A hAe hD hZ hS hA ls hl
  have hl : lv_has ls 4 [(0, .ref h), (1, .int p0), (2, .ref r0), (3, .int p1)] := hl
  refine lv_aload_n hx hb dX7_init_0 rfl (lv_at hl 0 rfl) ?_
  refine W.objInit hx hb hown (hts _ q292) (hts _ q263) (hts _ q264) rfl (by rw [hml]; exact hl.1) rfl dX7_init_1 (Nat.le_of_ble_eq_true rfl) (Nat.le_of_ble_eq_true rfl) ?_
  refine W.eq (g2 := F0 m 4 ls []) rfl ?_
  refine lv_aload_n hx hb dX7_init_4 rfl (lv_at hl 0 rfl) ?_
  refine lv_iload_n hx hb dX7_init_5 rfl (lv_at hl 1 rfl) ?_
  refine va_putF (D := D) (ci := 10) (v := .int p0) (ty := .int) (C := RX7) (T := TX7) (N := 3) hx hb hts inAX7 tyX7 tyX7_ok nmX7 hown hK hP hD hS 0 rfl rfl 0 (by decide) (hts _ q293) (fun _ h9 => h9) rfl hnm rfl (tyX7_ok 0 (by decide)) rfl rfl (Nat.le_of_ble_eq_true rfl) dX7_init_6 (fun H locs hP hD hS => ?_)
  have hP : va_P D vwCl [(h, .inr (10, [.int p0, .null, .int 0]))] H := hP
  have hD : va_D A [(h, .inr (10, [.int p0, .null, .int 0]))] := hD
  refine lv_aload_n hx hb dX7_init_9 rfl (lv_at hl 0 rfl) ?_
  refine lv_aload_n hx hb dX7_init_10 rfl (lv_at hl 2 rfl) ?_
  refine va_putF (D := D) (ci := 10) (v := .ref r0) (ty := .object "TallowIndex$Row") (C := RX7) (T := TX7) (N := 3) hx hb hts inAX7 tyX7 tyX7_ok nmX7 hown hK hP hD hS 0 rfl rfl 1 (by decide) (hts _ q294) (fun _ h9 => h9) rfl hnm rfl (tyX7_ok 1 (by decide)) rfl rfl (Nat.le_of_ble_eq_true rfl) dX7_init_11 (fun H locs hP hD hS => ?_)
  have hP : va_P D vwCl [(h, .inr (10, [.int p0, .ref r0, .int 0]))] H := hP
  have hD : va_D A [(h, .inr (10, [.int p0, .ref r0, .int 0]))] := hD
  refine lv_aload_n hx hb dX7_init_14 rfl (lv_at hl 0 rfl) ?_
  refine lv_iload_n hx hb dX7_init_15 rfl (lv_at hl 3 rfl) ?_
  refine va_putF (D := D) (ci := 10) (v := .int p1) (ty := .int) (C := RX7) (T := TX7) (N := 3) hx hb hts inAX7 tyX7 tyX7_ok nmX7 hown hK hP hD hS 0 rfl rfl 2 (by decide) (hts _ q295) (fun _ h9 => h9) rfl hnm rfl (tyX7_ok 2 (by decide)) rfl rfl (Nat.le_of_ble_eq_true rfl) dX7_init_16 (fun H locs hP hD hS => ?_)
  have hP : va_P D vwCl [(h, .inr (10, [.int p0, .ref r0, .int p1]))] H := hP
  have hD : va_D A [(h, .inr (10, [.int p0, .ref r0, .int p1]))] := hD
  refine W.widen (k := 0) (n := 0) (Nat.le_of_ble_eq_true rfl) (Nat.le_of_ble_eq_true rfl) ?_
  have hP9 := hP.sub (ws' := [(h, .inr (10, [.int p0, .ref r0, .int p1]))]) [0] rfl
  have hD9 := hD.sub (ws' := [(h, .inr (10, [.int p0, .ref r0, .int p1]))]) [0] (by decide) rfl
  exact W.vret hx hb hr (fun t ht hW => ⟨⟨(), rfl, trivial, ⟨by rw [ht]; exact hP9, hD9⟩⟩, hS.F ht⟩) hS.2.2 dX7_init_19

set_option maxHeartbeats 4000000 in
set_option maxRecDepth 100000 in
theorem i_Step (l : Launch) (D : va_G) (dA : Nat → ClassId) (E : Nat) (h : Nat) (p0 p1 p2 : Int32) (sz : Nat) (hch : narrow .char (.int p0) = .int p0 ∧ fits .char (.int p0) = true)  : Met l yX5_init (wq (.code yX5_init cX5_init 4 none)) { frames := 1, cells := 0, slots := 0, locals := 12 } (va_Pc [.ref h, .int p0, .int p1, .int p2] (PcB D dA E [(h, .inr (8, [.int 0, .int 0, .int 0]))] sz)) (va_Qv (fun (u : Unit) => True) (fun u t => va_P D vwCl [(h, .inr (8, [.int p0, .int p1, .int p2]))] t.heap ∧ va_D (va_A [(h, .inr (8, [.int 0, .int 0, .int 0]))] sz) [(h, .inr (8, [.int p0, .int p1, .int p2]))]) (va_A [(h, .inr (8, [.int 0, .int 0, .int 0]))] sz)) 0 0 (va_A [(h, .inr (8, [.int 0, .int 0, .int 0]))] sz) := by
  refine mb_of (Qc := fun A => va_Qv (fun (u : Unit) => True) (fun u t => va_P D vwCl [(h, .inr (8, [.int p0, .int p1, .int p2]))] t.heap ∧ va_D A [(h, .inr (8, [.int p0, .int p1, .int p2]))]) A) RX5 rfl (by decide) (Nat.le_of_ble_eq_true rfl) ?_
  intro p e s m args below meth c hae hx hb hr hts hown hlocks hml hnm hP hK A hAe hD hZ hS hA ls hl
  have hl : lv_has ls 4 [(0, .ref h), (1, .int p0), (2, .int p1), (3, .int p2)] := hl
  refine lv_aload_n hx hb dX5_init_0 rfl (lv_at hl 0 rfl) ?_
  refine W.objInit hx hb hown (hts _ q296) (hts _ q263) (hts _ q264) rfl (by rw [hml]; exact hl.1) rfl dX5_init_1 (Nat.le_of_ble_eq_true rfl) (Nat.le_of_ble_eq_true rfl) ?_
  refine W.eq (g2 := F0 m 4 ls []) rfl ?_
  refine lv_aload_n hx hb dX5_init_4 rfl (lv_at hl 0 rfl) ?_
  refine lv_iload_n hx hb dX5_init_5 rfl (lv_at hl 1 rfl) ?_
  refine va_putF (D := D) (ci := 8) (v := .int p0) (ty := .char) (C := RX5) (T := TX5) (N := 3) hx hb hts inAX5 tyX5 tyX5_ok nmX5 hown hK hP hD hS 0 rfl rfl 0 (by decide) (hts _ q297) (fun _ h9 => h9) rfl hnm rfl (tyX5_ok 0 (by decide)) hch.1 hch.2 (Nat.le_of_ble_eq_true rfl) dX5_init_6 (fun H locs hP hD hS => ?_)
  have hP : va_P D vwCl [(h, .inr (8, [.int p0, .int 0, .int 0]))] H := hP
  have hD : va_D A [(h, .inr (8, [.int p0, .int 0, .int 0]))] := hD
  refine lv_aload_n hx hb dX5_init_9 rfl (lv_at hl 0 rfl) ?_
  refine lv_iload_n hx hb dX5_init_10 rfl (lv_at hl 2 rfl) ?_
  refine va_putF (D := D) (ci := 8) (v := .int p1) (ty := .int) (C := RX5) (T := TX5) (N := 3) hx hb hts inAX5 tyX5 tyX5_ok nmX5 hown hK hP hD hS 0 rfl rfl 1 (by decide) (hts _ q298) (fun _ h9 => h9) rfl hnm rfl (tyX5_ok 1 (by decide)) rfl rfl (Nat.le_of_ble_eq_true rfl) dX5_init_11 (fun H locs hP hD hS => ?_)
  have hP : va_P D vwCl [(h, .inr (8, [.int p0, .int p1, .int 0]))] H := hP
  have hD : va_D A [(h, .inr (8, [.int p0, .int p1, .int 0]))] := hD
  refine lv_aload_n hx hb dX5_init_14 rfl (lv_at hl 0 rfl) ?_
  refine lv_iload_n hx hb dX5_init_15 rfl (lv_at hl 3 rfl) ?_
  refine va_putF (D := D) (ci := 8) (v := .int p2) (ty := .int) (C := RX5) (T := TX5) (N := 3) hx hb hts inAX5 tyX5 tyX5_ok nmX5 hown hK hP hD hS 0 rfl rfl 2 (by decide) (hts _ q299) (fun _ h9 => h9) rfl hnm rfl (tyX5_ok 2 (by decide)) rfl rfl (Nat.le_of_ble_eq_true rfl) dX5_init_16 (fun H locs hP hD hS => ?_)
  have hP : va_P D vwCl [(h, .inr (8, [.int p0, .int p1, .int p2]))] H := hP
  have hD : va_D A [(h, .inr (8, [.int p0, .int p1, .int p2]))] := hD
  refine W.widen (k := 0) (n := 0) (Nat.le_of_ble_eq_true rfl) (Nat.le_of_ble_eq_true rfl) ?_
  have hP9 := hP.sub (ws' := [(h, .inr (8, [.int p0, .int p1, .int p2]))]) [0] rfl
  have hD9 := hD.sub (ws' := [(h, .inr (8, [.int p0, .int p1, .int p2]))]) [0] (by decide) rfl
  exact W.vret hx hb hr (fun t ht hW => ⟨⟨(), rfl, trivial, ⟨by rw [ht]; exact hP9, hD9⟩⟩, hS.F ht⟩) hS.2.2 dX5_init_19

set_option maxHeartbeats 4000000 in
set_option maxRecDepth 100000 in
theorem i_Query (l : Launch) (D : va_G) (dA : Nat → ClassId) (E : Nat) (h : Nat) (p0 p1 p2 p3 p4 p5 : Int32) (sz : Nat) (hch : narrow .char (.int p0) = .int p0 ∧ fits .char (.int p0) = true)  : Met l yX1_init (wq (.code yX1_init cX1_init 7 none)) { frames := 1, cells := 0, slots := 0, locals := 12 } (va_Pc [.ref h, .int p0, .int p1, .int p2, .int p3, .int p4, .int p5] (PcB D dA E [(h, .inr (4, [.int 0, .int 0, .int 0, .int 0, .int 0, .int 0]))] sz)) (va_Qv (fun (u : Unit) => True) (fun u t => va_P D vwCl [(h, .inr (4, [.int p0, .int p1, .int p2, .int p3, .int p4, .int p5]))] t.heap ∧ va_D (va_A [(h, .inr (4, [.int 0, .int 0, .int 0, .int 0, .int 0, .int 0]))] sz) [(h, .inr (4, [.int p0, .int p1, .int p2, .int p3, .int p4, .int p5]))]) (va_A [(h, .inr (4, [.int 0, .int 0, .int 0, .int 0, .int 0, .int 0]))] sz)) 0 0 (va_A [(h, .inr (4, [.int 0, .int 0, .int 0, .int 0, .int 0, .int 0]))] sz) := by
  refine mb_of (Qc := fun A => va_Qv (fun (u : Unit) => True) (fun u t => va_P D vwCl [(h, .inr (4, [.int p0, .int p1, .int p2, .int p3, .int p4, .int p5]))] t.heap ∧ va_D A [(h, .inr (4, [.int p0, .int p1, .int p2, .int p3, .int p4, .int p5]))]) A) RX1 rfl (by decide) (Nat.le_of_ble_eq_true rfl) ?_
  intro p e s m args below meth c hae hx hb hr hts hown hlocks hml hnm hP hK A hAe hD hZ hS hA ls hl
  have hl : lv_has ls 7 [(0, .ref h), (1, .int p0), (2, .int p1), (3, .int p2), (4, .int p3), (5, .int p4), (6, .int p5)] := hl
  refine lv_aload_n hx hb dX1_init_0 rfl (lv_at hl 0 rfl) ?_
  refine W.objInit hx hb hown (hts _ q300) (hts _ q263) (hts _ q264) rfl (by rw [hml]; exact hl.1) rfl dX1_init_1 (Nat.le_of_ble_eq_true rfl) (Nat.le_of_ble_eq_true rfl) ?_
  refine W.eq (g2 := F0 m 4 ls []) rfl ?_
  refine lv_aload_n hx hb dX1_init_4 rfl (lv_at hl 0 rfl) ?_
  refine lv_iload_n hx hb dX1_init_5 rfl (lv_at hl 1 rfl) ?_
  refine va_putF (D := D) (ci := 4) (v := .int p0) (ty := .char) (C := RX1) (T := TX1) (N := 6) hx hb hts inAX1 tyX1 tyX1_ok nmX1 hown hK hP hD hS 0 rfl rfl 0 (by decide) (hts _ q301) (fun _ h9 => h9) rfl hnm rfl (tyX1_ok 0 (by decide)) hch.1 hch.2 (Nat.le_of_ble_eq_true rfl) dX1_init_6 (fun H locs hP hD hS => ?_)
  have hP : va_P D vwCl [(h, .inr (4, [.int p0, .int 0, .int 0, .int 0, .int 0, .int 0]))] H := hP
  have hD : va_D A [(h, .inr (4, [.int p0, .int 0, .int 0, .int 0, .int 0, .int 0]))] := hD
  refine lv_aload_n hx hb dX1_init_9 rfl (lv_at hl 0 rfl) ?_
  refine lv_iload_n hx hb dX1_init_10 rfl (lv_at hl 2 rfl) ?_
  refine va_putF (D := D) (ci := 4) (v := .int p1) (ty := .int) (C := RX1) (T := TX1) (N := 6) hx hb hts inAX1 tyX1 tyX1_ok nmX1 hown hK hP hD hS 0 rfl rfl 1 (by decide) (hts _ q302) (fun _ h9 => h9) rfl hnm rfl (tyX1_ok 1 (by decide)) rfl rfl (Nat.le_of_ble_eq_true rfl) dX1_init_11 (fun H locs hP hD hS => ?_)
  have hP : va_P D vwCl [(h, .inr (4, [.int p0, .int p1, .int 0, .int 0, .int 0, .int 0]))] H := hP
  have hD : va_D A [(h, .inr (4, [.int p0, .int p1, .int 0, .int 0, .int 0, .int 0]))] := hD
  refine lv_aload_n hx hb dX1_init_14 rfl (lv_at hl 0 rfl) ?_
  refine lv_iload_n hx hb dX1_init_15 rfl (lv_at hl 3 rfl) ?_
  refine va_putF (D := D) (ci := 4) (v := .int p2) (ty := .int) (C := RX1) (T := TX1) (N := 6) hx hb hts inAX1 tyX1 tyX1_ok nmX1 hown hK hP hD hS 0 rfl rfl 2 (by decide) (hts _ q303) (fun _ h9 => h9) rfl hnm rfl (tyX1_ok 2 (by decide)) rfl rfl (Nat.le_of_ble_eq_true rfl) dX1_init_16 (fun H locs hP hD hS => ?_)
  have hP : va_P D vwCl [(h, .inr (4, [.int p0, .int p1, .int p2, .int 0, .int 0, .int 0]))] H := hP
  have hD : va_D A [(h, .inr (4, [.int p0, .int p1, .int p2, .int 0, .int 0, .int 0]))] := hD
  refine lv_aload_n hx hb dX1_init_19 rfl (lv_at hl 0 rfl) ?_
  refine lv_iload hx hb dX1_init_20 (lv_at hl 4 rfl) ?_
  refine va_putF (D := D) (ci := 4) (v := .int p3) (ty := .int) (C := RX1) (T := TX1) (N := 6) hx hb hts inAX1 tyX1 tyX1_ok nmX1 hown hK hP hD hS 0 rfl rfl 3 (by decide) (hts _ q304) (fun _ h9 => h9) rfl hnm rfl (tyX1_ok 3 (by decide)) rfl rfl (Nat.le_of_ble_eq_true rfl) dX1_init_22 (fun H locs hP hD hS => ?_)
  have hP : va_P D vwCl [(h, .inr (4, [.int p0, .int p1, .int p2, .int p3, .int 0, .int 0]))] H := hP
  have hD : va_D A [(h, .inr (4, [.int p0, .int p1, .int p2, .int p3, .int 0, .int 0]))] := hD
  refine lv_aload_n hx hb dX1_init_25 rfl (lv_at hl 0 rfl) ?_
  refine lv_iload hx hb dX1_init_26 (lv_at hl 5 rfl) ?_
  refine va_putF (D := D) (ci := 4) (v := .int p4) (ty := .int) (C := RX1) (T := TX1) (N := 6) hx hb hts inAX1 tyX1 tyX1_ok nmX1 hown hK hP hD hS 0 rfl rfl 4 (by decide) (hts _ q305) (fun _ h9 => h9) rfl hnm rfl (tyX1_ok 4 (by decide)) rfl rfl (Nat.le_of_ble_eq_true rfl) dX1_init_28 (fun H locs hP hD hS => ?_)
  have hP : va_P D vwCl [(h, .inr (4, [.int p0, .int p1, .int p2, .int p3, .int p4, .int 0]))] H := hP
  have hD : va_D A [(h, .inr (4, [.int p0, .int p1, .int p2, .int p3, .int p4, .int 0]))] := hD
  refine lv_aload_n hx hb dX1_init_31 rfl (lv_at hl 0 rfl) ?_
  refine lv_iload hx hb dX1_init_32 (lv_at hl 6 rfl) ?_
  refine va_putF (D := D) (ci := 4) (v := .int p5) (ty := .int) (C := RX1) (T := TX1) (N := 6) hx hb hts inAX1 tyX1 tyX1_ok nmX1 hown hK hP hD hS 0 rfl rfl 5 (by decide) (hts _ q306) (fun _ h9 => h9) rfl hnm rfl (tyX1_ok 5 (by decide)) rfl rfl (Nat.le_of_ble_eq_true rfl) dX1_init_34 (fun H locs hP hD hS => ?_)
  have hP : va_P D vwCl [(h, .inr (4, [.int p0, .int p1, .int p2, .int p3, .int p4, .int p5]))] H := hP
  have hD : va_D A [(h, .inr (4, [.int p0, .int p1, .int p2, .int p3, .int p4, .int p5]))] := hD
  refine W.widen (k := 0) (n := 0) (Nat.le_of_ble_eq_true rfl) (Nat.le_of_ble_eq_true rfl) ?_
  have hP9 := hP.sub (ws' := [(h, .inr (4, [.int p0, .int p1, .int p2, .int p3, .int p4, .int p5]))]) [0] rfl
  have hD9 := hD.sub (ws' := [(h, .inr (4, [.int p0, .int p1, .int p2, .int p3, .int p4, .int p5]))]) [0] (by decide) rfl
  exact W.vret hx hb hr (fun t ht hW => ⟨⟨(), rfl, trivial, ⟨by rw [ht]; exact hP9, hD9⟩⟩, hS.F ht⟩) hS.2.2 dX1_init_37

set_option maxHeartbeats 4000000 in
set_option maxRecDepth 100000 in
theorem i_Shelf (l : Launch) (D : va_G) (dA : Nat → ClassId) (E : Nat) (h : Nat) (sz : Nat)   : Met l yX4_init (wq (.code yX4_init cX4_init 1 none)) { frames := 2, cells := 4, slots := 62, locals := 33 } (va_Pc [.ref h] (PcB D dA E [(h, .inr (7, [.null, .null, .int 0, .int 0]))] sz)) (va_Qv (fun (u : Nat → Nat) => u 0 = h) (fun u t => va_P D vwCl [(u 0, .inr (7, [.ref (u 1), .ref (u 3), .int 0, .int 0])), (u 1, .inr (5, [.ref (u 2)])), (u 2, .inl (dA 0, 30, .inl (fun _ => 0))), (u 3, .inr (5, [.ref (u 4)])), (u 4, .inl (dA 0, 30, .inl (fun _ => 0)))] t.heap ∧ va_D (va_A [(h, .inr (7, [.null, .null, .int 0, .int 0]))] sz) [(u 0, .inr (7, [.ref (u 1), .ref (u 3), .int 0, .int 0])), (u 1, .inr (5, [.ref (u 2)])), (u 2, .inl (dA 0, 30, .inl (fun _ => 0))), (u 3, .inr (5, [.ref (u 4)])), (u 4, .inl (dA 0, 30, .inl (fun _ => 0)))]) (va_A [(h, .inr (7, [.null, .null, .int 0, .int 0]))] sz)) 4 62 (va_A [(h, .inr (7, [.null, .null, .int 0, .int 0]))] sz) := by
  refine mb_of (Qc := fun A => va_Qv (fun (u : Nat → Nat) => u 0 = h) (fun u t => va_P D vwCl [(u 0, .inr (7, [.ref (u 1), .ref (u 3), .int 0, .int 0])), (u 1, .inr (5, [.ref (u 2)])), (u 2, .inl (dA 0, 30, .inl (fun _ => 0))), (u 3, .inr (5, [.ref (u 4)])), (u 4, .inl (dA 0, 30, .inl (fun _ => 0)))] t.heap ∧ va_D A [(u 0, .inr (7, [.ref (u 1), .ref (u 3), .int 0, .int 0])), (u 1, .inr (5, [.ref (u 2)])), (u 2, .inl (dA 0, 30, .inl (fun _ => 0))), (u 3, .inr (5, [.ref (u 4)])), (u 4, .inl (dA 0, 30, .inl (fun _ => 0)))]) A) RX4 rfl (by decide) (Nat.le_of_ble_eq_true rfl) ?_
  intro p e s m args below meth c hae hx hb hr hts hown hlocks hml hnm hP hK A hAe hD hZ hS hA ls hl
  have hl : lv_has ls 1 [(0, .ref h)] := hl
  refine lv_aload_n hx hb dX4_init_0 rfl (lv_at hl 0 rfl) ?_
  refine W.objInit hx hb hown (hts _ q307) (hts _ q263) (hts _ q264) rfl (by rw [hml]; exact hl.1) rfl dX4_init_1 (Nat.le_of_ble_eq_true rfl) (Nat.le_of_ble_eq_true rfl) ?_
  refine W.eq (g2 := F0 m 4 ls []) rfl ?_
  refine lv_aload_n hx hb dX4_init_4 rfl (lv_at hl 0 rfl) ?_
  refine va_new (ci := 5) (fs := [.null]) (C := RX2) (T := TX2) (N := 1) hx hb hts inAX2 tyX2 tyX2_ok hown (hts _ q308) (hts _ q280) (hts _ q204) hK hP hD hS hA rfl fsNX2 (Nat.le_of_ble_eq_true rfl) (Nat.le_of_ble_eq_true rfl) dX4_init_5 (fun q1 H hP hD hS => ?_)
  have hP : va_P D vwCl [(h, .inr (7, [.null, .null, .int 0, .int 0])), (q1, .inr (5, [.null]))] H := hP
  have hD : va_D A [(h, .inr (7, [.null, .null, .int 0, .int 0])), (q1, .inr (5, [.null]))] := hD
  refine W.widen (k := 1) (n := 1) (Nat.le_of_ble_eq_true rfl) (Nat.le_of_ble_eq_true rfl) ?_
  refine lv_dup hx hb dX4_init_8 rfl ?_
  refine lv_bipush (v := 30) hx hb dX4_init_9 (by decide) ?_
  have hPc := hP.sub (ws' := [(q1, .inr (5, [.null]))]) [1] rfl
  have hDc := hD.sub (ws' := [(q1, .inr (5, [.null]))]) [1] (by decide) rfl
  have hFc := va_free (wc := [(q1, .inr (5, [.null]))]) hD hS hA [1] rfl
  refine va_callv (va_runI (As := [.int 30]) (rest := [.ref q1, .ref h]) ⟨hx, hb, hml, hown, hts⟩ (i_Row_30 l D dA E q1 H.size ) (cwI 1 hts (ga_I q281) rfl rfl rfl (hts _ q204) (hts _ q309) (hts _ q283) rfl (by decide +kernel) ⟨(Nat.le_of_ble_eq_true rfl), (Nat.le_of_ble_eq_true rfl)⟩) ⟨pb_blind, pb_pre hK hPc hDc hZ hS hFc _⟩ rfl rfl hl.1 rfl (lv_room (Nat.le_of_ble_eq_true rfl)) dX4_init_11 ⟨(Nat.le_of_ble_eq_true rfl), (Nat.le_of_ble_eq_true rfl)⟩) hS (fun q _ h => hFc q h) hFc (fun u t H1 locs ht hvm hw hB hz1 hk1 hS => ?_)
  refine W.widen (k := 2) (n := 31) (Nat.le_of_ble_eq_true rfl) (Nat.le_of_ble_eq_true rfl) ?_
  obtain ⟨u2, rfl⟩ : ∃ z, z = u := ⟨_, rfl⟩
  have hw3 := hw
  clear hw
  obtain ⟨hP1, hD1⟩ := hB
  rw [ht] at hP1
  obtain ⟨hP, hD⟩ := va_join (wr := [(h, .inr (7, [.null, .null, .int 0, .int 0]))]) (w1 := [(q1, .inr (5, [.ref u2])), (u2, .inl (dA 0, 30, .inl (fun _ => 0)))]) hP hD [1] [0] rfl rfl (by decide) (by decide) hk1 hFc hP1 hD1
  generalize H1 = H at hP hS ⊢
  have hP : va_P D vwCl [(h, .inr (7, [.null, .null, .int 0, .int 0])), (q1, .inr (5, [.ref u2])), (u2, .inl (dA 0, 30, .inl (fun _ => 0)))] H := hP
  have hD : va_D A [(h, .inr (7, [.null, .null, .int 0, .int 0])), (q1, .inr (5, [.ref u2])), (u2, .inl (dA 0, 30, .inl (fun _ => 0)))] := hD
  refine va_putF (D := D) (ci := 7) (v := .ref q1) (ty := .object "TallowIndex$Row") (C := RX4) (T := TX4) (N := 4) hx hb hts inAX4 tyX4 tyX4_ok nmX4 hown hK hP hD hS 0 rfl rfl 0 (by decide) (hts _ q235) (fun _ h9 => h9) rfl hnm rfl (tyX4_ok 0 (by decide)) rfl rfl (Nat.le_of_ble_eq_true rfl) dX4_init_14 (fun H locs hP hD hS => ?_)
  have hP : va_P D vwCl [(h, .inr (7, [.ref q1, .null, .int 0, .int 0])), (q1, .inr (5, [.ref u2])), (u2, .inl (dA 0, 30, .inl (fun _ => 0)))] H := hP
  have hD : va_D A [(h, .inr (7, [.ref q1, .null, .int 0, .int 0])), (q1, .inr (5, [.ref u2])), (u2, .inl (dA 0, 30, .inl (fun _ => 0)))] := hD
  refine lv_aload_n hx hb dX4_init_17 rfl (lv_at hl 0 rfl) ?_
  refine va_new (ci := 5) (fs := [.null]) (C := RX2) (T := TX2) (N := 1) hx hb hts inAX2 tyX2 tyX2_ok hown (hts _ q308) (hts _ q280) (hts _ q204) hK hP hD hS hA rfl fsNX2 (Nat.le_of_ble_eq_true rfl) (Nat.le_of_ble_eq_true rfl) dX4_init_18 (fun q4 H hP hD hS => ?_)
  have hP : va_P D vwCl [(h, .inr (7, [.ref q1, .null, .int 0, .int 0])), (q1, .inr (5, [.ref u2])), (u2, .inl (dA 0, 30, .inl (fun _ => 0))), (q4, .inr (5, [.null]))] H := hP
  have hD : va_D A [(h, .inr (7, [.ref q1, .null, .int 0, .int 0])), (q1, .inr (5, [.ref u2])), (u2, .inl (dA 0, 30, .inl (fun _ => 0))), (q4, .inr (5, [.null]))] := hD
  refine W.widen (k := 3) (n := 32) (Nat.le_of_ble_eq_true rfl) (Nat.le_of_ble_eq_true rfl) ?_
  refine lv_dup hx hb dX4_init_21 rfl ?_
  refine lv_bipush (v := 30) hx hb dX4_init_22 (by decide) ?_
  have hPc := hP.sub (ws' := [(q4, .inr (5, [.null]))]) [3] rfl
  have hDc := hD.sub (ws' := [(q4, .inr (5, [.null]))]) [3] (by decide) rfl
  have hFc := va_free (wc := [(q4, .inr (5, [.null]))]) hD hS hA [3] rfl
  refine va_callv (va_runI (As := [.int 30]) (rest := [.ref q4, .ref h]) ⟨hx, hb, hml, hown, hts⟩ (i_Row_30 l D dA E q4 H.size ) (cwI 1 hts (ga_I q281) rfl rfl rfl (hts _ q204) (hts _ q309) (hts _ q283) rfl (by decide +kernel) ⟨(Nat.le_of_ble_eq_true rfl), (Nat.le_of_ble_eq_true rfl)⟩) ⟨pb_blind, pb_pre hK hPc hDc hZ hS hFc _⟩ rfl rfl hl.1 rfl (lv_room (Nat.le_of_ble_eq_true rfl)) dX4_init_24 ⟨(Nat.le_of_ble_eq_true rfl), (Nat.le_of_ble_eq_true rfl)⟩) hS (fun q _ h => hFc q h) hFc (fun u t H1 locs ht hvm hw hB hz1 hk1 hS => ?_)
  refine W.widen (k := 4) (n := 62) (Nat.le_of_ble_eq_true rfl) (Nat.le_of_ble_eq_true rfl) ?_
  obtain ⟨u5, rfl⟩ : ∃ z, z = u := ⟨_, rfl⟩
  have hw6 := hw
  clear hw
  obtain ⟨hP1, hD1⟩ := hB
  rw [ht] at hP1
  obtain ⟨hP, hD⟩ := va_join (wr := [(h, .inr (7, [.ref q1, .null, .int 0, .int 0])), (q1, .inr (5, [.ref u2])), (u2, .inl (dA 0, 30, .inl (fun _ => 0)))]) (w1 := [(q4, .inr (5, [.ref u5])), (u5, .inl (dA 0, 30, .inl (fun _ => 0)))]) hP hD [3] [0, 1, 2] rfl rfl (by decide) (by decide) hk1 hFc hP1 hD1
  generalize H1 = H at hP hS ⊢
  have hP : va_P D vwCl [(h, .inr (7, [.ref q1, .null, .int 0, .int 0])), (q1, .inr (5, [.ref u2])), (u2, .inl (dA 0, 30, .inl (fun _ => 0))), (q4, .inr (5, [.ref u5])), (u5, .inl (dA 0, 30, .inl (fun _ => 0)))] H := hP
  have hD : va_D A [(h, .inr (7, [.ref q1, .null, .int 0, .int 0])), (q1, .inr (5, [.ref u2])), (u2, .inl (dA 0, 30, .inl (fun _ => 0))), (q4, .inr (5, [.ref u5])), (u5, .inl (dA 0, 30, .inl (fun _ => 0)))] := hD
  refine va_putF (D := D) (ci := 7) (v := .ref q4) (ty := .object "TallowIndex$Row") (C := RX4) (T := TX4) (N := 4) hx hb hts inAX4 tyX4 tyX4_ok nmX4 hown hK hP hD hS 0 rfl rfl 1 (by decide) (hts _ q244) (fun _ h9 => h9) rfl hnm rfl (tyX4_ok 1 (by decide)) rfl rfl (Nat.le_of_ble_eq_true rfl) dX4_init_27 (fun H locs hP hD hS => ?_)
  have hP : va_P D vwCl [(h, .inr (7, [.ref q1, .ref q4, .int 0, .int 0])), (q1, .inr (5, [.ref u2])), (u2, .inl (dA 0, 30, .inl (fun _ => 0))), (q4, .inr (5, [.ref u5])), (u5, .inl (dA 0, 30, .inl (fun _ => 0)))] H := hP
  have hD : va_D A [(h, .inr (7, [.ref q1, .ref q4, .int 0, .int 0])), (q1, .inr (5, [.ref u2])), (u2, .inl (dA 0, 30, .inl (fun _ => 0))), (q4, .inr (5, [.ref u5])), (u5, .inl (dA 0, 30, .inl (fun _ => 0)))] := hD
  refine W.widen (k := 4) (n := 62) (Nat.le_of_ble_eq_true rfl) (Nat.le_of_ble_eq_true rfl) ?_
  have hP9 := hP.sub (ws' := [(h, .inr (7, [.ref q1, .ref q4, .int 0, .int 0])), (q1, .inr (5, [.ref u2])), (u2, .inl (dA 0, 30, .inl (fun _ => 0))), (q4, .inr (5, [.ref u5])), (u5, .inl (dA 0, 30, .inl (fun _ => 0)))]) [0, 1, 2, 3, 4] rfl
  have hD9 := hD.sub (ws' := [(h, .inr (7, [.ref q1, .ref q4, .int 0, .int 0])), (q1, .inr (5, [.ref u2])), (u2, .inl (dA 0, 30, .inl (fun _ => 0))), (q4, .inr (5, [.ref u5])), (u5, .inl (dA 0, 30, .inl (fun _ => 0)))]) [0, 1, 2, 3, 4] (by decide) rfl
  exact W.vret hx hb hr (fun t ht hW => ⟨⟨(fun k => ([h, q1, u2, q4, u5] : List Nat).getD k 0), rfl, rfl, ⟨by rw [ht]; exact hP9, hD9⟩⟩, hS.F ht⟩) hS.2.2 dX4_init_30

set_option maxHeartbeats 4000000 in
set_option maxRecDepth 100000 in
theorem i_Search (l : Launch) (D : va_G) (dA : Nat → ClassId) (E : Nat) (h : Nat) (sz : Nat)   : Met l yX3_init (wq (.code yX3_init cX3_init 1 none)) { frames := 2, cells := 12, slots := 1348, locals := 33 } (va_Pc [.ref h] (PcB D dA E [(h, .inr (6, [.null, .null, .null, .null, .null, .null, .int 0, .int 0]))] sz)) (va_Qv (fun (u : Nat → Nat) => u 0 = h) (fun u t => va_P D vwCl [(u 0, .inr (6, [.ref (u 1), .ref (u 3), .ref (u 5), .ref (u 7), .ref (u 9), .ref (u 11), .int 0, .int 0])), (u 1, .inr (5, [.ref (u 2)])), (u 2, .inl (dA 0, 40, .inl (fun _ => 0))), (u 3, .inr (5, [.ref (u 4)])), (u 4, .inl (dA 0, 30, .inl (fun _ => 0))), (u 5, .inr (5, [.ref (u 6)])), (u 6, .inl (dA 0, 1200, .inl (fun _ => 0))), (u 7, .inr (5, [.ref (u 8)])), (u 8, .inl (dA 0, 30, .inl (fun _ => 0))), (u 9, .inr (5, [.ref (u 10)])), (u 10, .inl (dA 0, 30, .inl (fun _ => 0))), (u 11, .inr (5, [.ref (u 12)])), (u 12, .inl (dA 0, 12, .inl (fun _ => 0)))] t.heap ∧ va_D (va_A [(h, .inr (6, [.null, .null, .null, .null, .null, .null, .int 0, .int 0]))] sz) [(u 0, .inr (6, [.ref (u 1), .ref (u 3), .ref (u 5), .ref (u 7), .ref (u 9), .ref (u 11), .int 0, .int 0])), (u 1, .inr (5, [.ref (u 2)])), (u 2, .inl (dA 0, 40, .inl (fun _ => 0))), (u 3, .inr (5, [.ref (u 4)])), (u 4, .inl (dA 0, 30, .inl (fun _ => 0))), (u 5, .inr (5, [.ref (u 6)])), (u 6, .inl (dA 0, 1200, .inl (fun _ => 0))), (u 7, .inr (5, [.ref (u 8)])), (u 8, .inl (dA 0, 30, .inl (fun _ => 0))), (u 9, .inr (5, [.ref (u 10)])), (u 10, .inl (dA 0, 30, .inl (fun _ => 0))), (u 11, .inr (5, [.ref (u 12)])), (u 12, .inl (dA 0, 12, .inl (fun _ => 0)))]) (va_A [(h, .inr (6, [.null, .null, .null, .null, .null, .null, .int 0, .int 0]))] sz)) 12 1348 (va_A [(h, .inr (6, [.null, .null, .null, .null, .null, .null, .int 0, .int 0]))] sz) := by
  refine mb_of (Qc := fun A => va_Qv (fun (u : Nat → Nat) => u 0 = h) (fun u t => va_P D vwCl [(u 0, .inr (6, [.ref (u 1), .ref (u 3), .ref (u 5), .ref (u 7), .ref (u 9), .ref (u 11), .int 0, .int 0])), (u 1, .inr (5, [.ref (u 2)])), (u 2, .inl (dA 0, 40, .inl (fun _ => 0))), (u 3, .inr (5, [.ref (u 4)])), (u 4, .inl (dA 0, 30, .inl (fun _ => 0))), (u 5, .inr (5, [.ref (u 6)])), (u 6, .inl (dA 0, 1200, .inl (fun _ => 0))), (u 7, .inr (5, [.ref (u 8)])), (u 8, .inl (dA 0, 30, .inl (fun _ => 0))), (u 9, .inr (5, [.ref (u 10)])), (u 10, .inl (dA 0, 30, .inl (fun _ => 0))), (u 11, .inr (5, [.ref (u 12)])), (u 12, .inl (dA 0, 12, .inl (fun _ => 0)))] t.heap ∧ va_D A [(u 0, .inr (6, [.ref (u 1), .ref (u 3), .ref (u 5), .ref (u 7), .ref (u 9), .ref (u 11), .int 0, .int 0])), (u 1, .inr (5, [.ref (u 2)])), (u 2, .inl (dA 0, 40, .inl (fun _ => 0))), (u 3, .inr (5, [.ref (u 4)])), (u 4, .inl (dA 0, 30, .inl (fun _ => 0))), (u 5, .inr (5, [.ref (u 6)])), (u 6, .inl (dA 0, 1200, .inl (fun _ => 0))), (u 7, .inr (5, [.ref (u 8)])), (u 8, .inl (dA 0, 30, .inl (fun _ => 0))), (u 9, .inr (5, [.ref (u 10)])), (u 10, .inl (dA 0, 30, .inl (fun _ => 0))), (u 11, .inr (5, [.ref (u 12)])), (u 12, .inl (dA 0, 12, .inl (fun _ => 0)))]) A) RX3 rfl (by decide) (Nat.le_of_ble_eq_true rfl) ?_
  intro p e s m args below meth c hae hx hb hr hts hown hlocks hml hnm hP hK A hAe hD hZ hS hA ls hl
  have hl : lv_has ls 1 [(0, .ref h)] := hl
  refine lv_aload_n hx hb dX3_init_0 rfl (lv_at hl 0 rfl) ?_
  refine W.objInit hx hb hown (hts _ q310) (hts _ q263) (hts _ q264) rfl (by rw [hml]; exact hl.1) rfl dX3_init_1 (Nat.le_of_ble_eq_true rfl) (Nat.le_of_ble_eq_true rfl) ?_
  refine W.eq (g2 := F0 m 4 ls []) rfl ?_
  refine lv_aload_n hx hb dX3_init_4 rfl (lv_at hl 0 rfl) ?_
  refine va_new (ci := 5) (fs := [.null]) (C := RX2) (T := TX2) (N := 1) hx hb hts inAX2 tyX2 tyX2_ok hown (hts _ q311) (hts _ q280) (hts _ q204) hK hP hD hS hA rfl fsNX2 (Nat.le_of_ble_eq_true rfl) (Nat.le_of_ble_eq_true rfl) dX3_init_5 (fun q1 H hP hD hS => ?_)
  have hP : va_P D vwCl [(h, .inr (6, [.null, .null, .null, .null, .null, .null, .int 0, .int 0])), (q1, .inr (5, [.null]))] H := hP
  have hD : va_D A [(h, .inr (6, [.null, .null, .null, .null, .null, .null, .int 0, .int 0])), (q1, .inr (5, [.null]))] := hD
  refine W.widen (k := 1) (n := 1) (Nat.le_of_ble_eq_true rfl) (Nat.le_of_ble_eq_true rfl) ?_
  refine lv_dup hx hb dX3_init_8 rfl ?_
  refine lv_bipush (v := 40) hx hb dX3_init_9 (by decide) ?_
  have hPc := hP.sub (ws' := [(q1, .inr (5, [.null]))]) [1] rfl
  have hDc := hD.sub (ws' := [(q1, .inr (5, [.null]))]) [1] (by decide) rfl
  have hFc := va_free (wc := [(q1, .inr (5, [.null]))]) hD hS hA [1] rfl
  refine va_callv (va_runI (As := [.int 40]) (rest := [.ref q1, .ref h]) ⟨hx, hb, hml, hown, hts⟩ (i_Row_40 l D dA E q1 H.size ) (cwI 1 hts (ga_I q281) rfl rfl rfl (hts _ q204) (hts _ q312) (hts _ q283) rfl (by decide +kernel) ⟨(Nat.le_of_ble_eq_true rfl), (Nat.le_of_ble_eq_true rfl)⟩) ⟨pb_blind, pb_pre hK hPc hDc hZ hS hFc _⟩ rfl rfl hl.1 rfl (lv_room (Nat.le_of_ble_eq_true rfl)) dX3_init_11 ⟨(Nat.le_of_ble_eq_true rfl), (Nat.le_of_ble_eq_true rfl)⟩) hS (fun q _ h => hFc q h) hFc (fun u t H1 locs ht hvm hw hB hz1 hk1 hS => ?_)
  refine W.widen (k := 2) (n := 41) (Nat.le_of_ble_eq_true rfl) (Nat.le_of_ble_eq_true rfl) ?_
  obtain ⟨u2, rfl⟩ : ∃ z, z = u := ⟨_, rfl⟩
  have hw3 := hw
  clear hw
  obtain ⟨hP1, hD1⟩ := hB
  rw [ht] at hP1
  obtain ⟨hP, hD⟩ := va_join (wr := [(h, .inr (6, [.null, .null, .null, .null, .null, .null, .int 0, .int 0]))]) (w1 := [(q1, .inr (5, [.ref u2])), (u2, .inl (dA 0, 40, .inl (fun _ => 0)))]) hP hD [1] [0] rfl rfl (by decide) (by decide) hk1 hFc hP1 hD1
  generalize H1 = H at hP hS ⊢
  have hP : va_P D vwCl [(h, .inr (6, [.null, .null, .null, .null, .null, .null, .int 0, .int 0])), (q1, .inr (5, [.ref u2])), (u2, .inl (dA 0, 40, .inl (fun _ => 0)))] H := hP
  have hD : va_D A [(h, .inr (6, [.null, .null, .null, .null, .null, .null, .int 0, .int 0])), (q1, .inr (5, [.ref u2])), (u2, .inl (dA 0, 40, .inl (fun _ => 0)))] := hD
  refine va_putF (D := D) (ci := 6) (v := .ref q1) (ty := .object "TallowIndex$Row") (C := RX3) (T := TX3) (N := 8) hx hb hts inAX3 tyX3 tyX3_ok nmX3 hown hK hP hD hS 0 rfl rfl 0 (by decide) (hts _ q313) (fun _ h9 => h9) rfl hnm rfl (tyX3_ok 0 (by decide)) rfl rfl (Nat.le_of_ble_eq_true rfl) dX3_init_14 (fun H locs hP hD hS => ?_)
  have hP : va_P D vwCl [(h, .inr (6, [.ref q1, .null, .null, .null, .null, .null, .int 0, .int 0])), (q1, .inr (5, [.ref u2])), (u2, .inl (dA 0, 40, .inl (fun _ => 0)))] H := hP
  have hD : va_D A [(h, .inr (6, [.ref q1, .null, .null, .null, .null, .null, .int 0, .int 0])), (q1, .inr (5, [.ref u2])), (u2, .inl (dA 0, 40, .inl (fun _ => 0)))] := hD
  refine lv_aload_n hx hb dX3_init_17 rfl (lv_at hl 0 rfl) ?_
  refine va_new (ci := 5) (fs := [.null]) (C := RX2) (T := TX2) (N := 1) hx hb hts inAX2 tyX2 tyX2_ok hown (hts _ q311) (hts _ q280) (hts _ q204) hK hP hD hS hA rfl fsNX2 (Nat.le_of_ble_eq_true rfl) (Nat.le_of_ble_eq_true rfl) dX3_init_18 (fun q4 H hP hD hS => ?_)
  have hP : va_P D vwCl [(h, .inr (6, [.ref q1, .null, .null, .null, .null, .null, .int 0, .int 0])), (q1, .inr (5, [.ref u2])), (u2, .inl (dA 0, 40, .inl (fun _ => 0))), (q4, .inr (5, [.null]))] H := hP
  have hD : va_D A [(h, .inr (6, [.ref q1, .null, .null, .null, .null, .null, .int 0, .int 0])), (q1, .inr (5, [.ref u2])), (u2, .inl (dA 0, 40, .inl (fun _ => 0))), (q4, .inr (5, [.null]))] := hD
  refine W.widen (k := 3) (n := 42) (Nat.le_of_ble_eq_true rfl) (Nat.le_of_ble_eq_true rfl) ?_
  refine lv_dup hx hb dX3_init_21 rfl ?_
  refine lv_bipush (v := 30) hx hb dX3_init_22 (by decide) ?_
  have hPc := hP.sub (ws' := [(q4, .inr (5, [.null]))]) [3] rfl
  have hDc := hD.sub (ws' := [(q4, .inr (5, [.null]))]) [3] (by decide) rfl
  have hFc := va_free (wc := [(q4, .inr (5, [.null]))]) hD hS hA [3] rfl
  refine va_callv (va_runI (As := [.int 30]) (rest := [.ref q4, .ref h]) ⟨hx, hb, hml, hown, hts⟩ (i_Row_30 l D dA E q4 H.size ) (cwI 1 hts (ga_I q281) rfl rfl rfl (hts _ q204) (hts _ q312) (hts _ q283) rfl (by decide +kernel) ⟨(Nat.le_of_ble_eq_true rfl), (Nat.le_of_ble_eq_true rfl)⟩) ⟨pb_blind, pb_pre hK hPc hDc hZ hS hFc _⟩ rfl rfl hl.1 rfl (lv_room (Nat.le_of_ble_eq_true rfl)) dX3_init_24 ⟨(Nat.le_of_ble_eq_true rfl), (Nat.le_of_ble_eq_true rfl)⟩) hS (fun q _ h => hFc q h) hFc (fun u t H1 locs ht hvm hw hB hz1 hk1 hS => ?_)
  refine W.widen (k := 4) (n := 72) (Nat.le_of_ble_eq_true rfl) (Nat.le_of_ble_eq_true rfl) ?_
  obtain ⟨u5, rfl⟩ : ∃ z, z = u := ⟨_, rfl⟩
  have hw6 := hw
  clear hw
  obtain ⟨hP1, hD1⟩ := hB
  rw [ht] at hP1
  obtain ⟨hP, hD⟩ := va_join (wr := [(h, .inr (6, [.ref q1, .null, .null, .null, .null, .null, .int 0, .int 0])), (q1, .inr (5, [.ref u2])), (u2, .inl (dA 0, 40, .inl (fun _ => 0)))]) (w1 := [(q4, .inr (5, [.ref u5])), (u5, .inl (dA 0, 30, .inl (fun _ => 0)))]) hP hD [3] [0, 1, 2] rfl rfl (by decide) (by decide) hk1 hFc hP1 hD1
  generalize H1 = H at hP hS ⊢
  have hP : va_P D vwCl [(h, .inr (6, [.ref q1, .null, .null, .null, .null, .null, .int 0, .int 0])), (q1, .inr (5, [.ref u2])), (u2, .inl (dA 0, 40, .inl (fun _ => 0))), (q4, .inr (5, [.ref u5])), (u5, .inl (dA 0, 30, .inl (fun _ => 0)))] H := hP
  have hD : va_D A [(h, .inr (6, [.ref q1, .null, .null, .null, .null, .null, .int 0, .int 0])), (q1, .inr (5, [.ref u2])), (u2, .inl (dA 0, 40, .inl (fun _ => 0))), (q4, .inr (5, [.ref u5])), (u5, .inl (dA 0, 30, .inl (fun _ => 0)))] := hD
  refine va_putF (D := D) (ci := 6) (v := .ref q4) (ty := .object "TallowIndex$Row") (C := RX3) (T := TX3) (N := 8) hx hb hts inAX3 tyX3 tyX3_ok nmX3 hown hK hP hD hS 0 rfl rfl 1 (by decide) (hts _ q314) (fun _ h9 => h9) rfl hnm rfl (tyX3_ok 1 (by decide)) rfl rfl (Nat.le_of_ble_eq_true rfl) dX3_init_27 (fun H locs hP hD hS => ?_)
  have hP : va_P D vwCl [(h, .inr (6, [.ref q1, .ref q4, .null, .null, .null, .null, .int 0, .int 0])), (q1, .inr (5, [.ref u2])), (u2, .inl (dA 0, 40, .inl (fun _ => 0))), (q4, .inr (5, [.ref u5])), (u5, .inl (dA 0, 30, .inl (fun _ => 0)))] H := hP
  have hD : va_D A [(h, .inr (6, [.ref q1, .ref q4, .null, .null, .null, .null, .int 0, .int 0])), (q1, .inr (5, [.ref u2])), (u2, .inl (dA 0, 40, .inl (fun _ => 0))), (q4, .inr (5, [.ref u5])), (u5, .inl (dA 0, 30, .inl (fun _ => 0)))] := hD
  refine lv_aload_n hx hb dX3_init_30 rfl (lv_at hl 0 rfl) ?_
  refine va_new (ci := 5) (fs := [.null]) (C := RX2) (T := TX2) (N := 1) hx hb hts inAX2 tyX2 tyX2_ok hown (hts _ q311) (hts _ q280) (hts _ q204) hK hP hD hS hA rfl fsNX2 (Nat.le_of_ble_eq_true rfl) (Nat.le_of_ble_eq_true rfl) dX3_init_31 (fun q7 H hP hD hS => ?_)
  have hP : va_P D vwCl [(h, .inr (6, [.ref q1, .ref q4, .null, .null, .null, .null, .int 0, .int 0])), (q1, .inr (5, [.ref u2])), (u2, .inl (dA 0, 40, .inl (fun _ => 0))), (q4, .inr (5, [.ref u5])), (u5, .inl (dA 0, 30, .inl (fun _ => 0))), (q7, .inr (5, [.null]))] H := hP
  have hD : va_D A [(h, .inr (6, [.ref q1, .ref q4, .null, .null, .null, .null, .int 0, .int 0])), (q1, .inr (5, [.ref u2])), (u2, .inl (dA 0, 40, .inl (fun _ => 0))), (q4, .inr (5, [.ref u5])), (u5, .inl (dA 0, 30, .inl (fun _ => 0))), (q7, .inr (5, [.null]))] := hD
  refine W.widen (k := 5) (n := 73) (Nat.le_of_ble_eq_true rfl) (Nat.le_of_ble_eq_true rfl) ?_
  refine lv_dup hx hb dX3_init_34 rfl ?_
  refine lv_sipush (v := 1200) hx hb dX3_init_35 (by decide) ?_
  have hPc := hP.sub (ws' := [(q7, .inr (5, [.null]))]) [5] rfl
  have hDc := hD.sub (ws' := [(q7, .inr (5, [.null]))]) [5] (by decide) rfl
  have hFc := va_free (wc := [(q7, .inr (5, [.null]))]) hD hS hA [5] rfl
  refine va_callv (va_runI (As := [.int 1200]) (rest := [.ref q7, .ref h]) ⟨hx, hb, hml, hown, hts⟩ (i_Row_1200 l D dA E q7 H.size ) (cwI 1 hts (ga_I q281) rfl rfl rfl (hts _ q204) (hts _ q312) (hts _ q283) rfl (by decide +kernel) ⟨(Nat.le_of_ble_eq_true rfl), (Nat.le_of_ble_eq_true rfl)⟩) ⟨pb_blind, pb_pre hK hPc hDc hZ hS hFc _⟩ rfl rfl hl.1 rfl (lv_room (Nat.le_of_ble_eq_true rfl)) dX3_init_38 ⟨(Nat.le_of_ble_eq_true rfl), (Nat.le_of_ble_eq_true rfl)⟩) hS (fun q _ h => hFc q h) hFc (fun u t H1 locs ht hvm hw hB hz1 hk1 hS => ?_)
  refine W.widen (k := 6) (n := 1273) (Nat.le_of_ble_eq_true rfl) (Nat.le_of_ble_eq_true rfl) ?_
  obtain ⟨u8, rfl⟩ : ∃ z, z = u := ⟨_, rfl⟩
  have hw9 := hw
  clear hw
  obtain ⟨hP1, hD1⟩ := hB
  rw [ht] at hP1
  obtain ⟨hP, hD⟩ := va_join (wr := [(h, .inr (6, [.ref q1, .ref q4, .null, .null, .null, .null, .int 0, .int 0])), (q1, .inr (5, [.ref u2])), (u2, .inl (dA 0, 40, .inl (fun _ => 0))), (q4, .inr (5, [.ref u5])), (u5, .inl (dA 0, 30, .inl (fun _ => 0)))]) (w1 := [(q7, .inr (5, [.ref u8])), (u8, .inl (dA 0, 1200, .inl (fun _ => 0)))]) hP hD [5] [0, 1, 2, 3, 4] rfl rfl (by decide) (by decide) hk1 hFc hP1 hD1
  generalize H1 = H at hP hS ⊢
  have hP : va_P D vwCl [(h, .inr (6, [.ref q1, .ref q4, .null, .null, .null, .null, .int 0, .int 0])), (q1, .inr (5, [.ref u2])), (u2, .inl (dA 0, 40, .inl (fun _ => 0))), (q4, .inr (5, [.ref u5])), (u5, .inl (dA 0, 30, .inl (fun _ => 0))), (q7, .inr (5, [.ref u8])), (u8, .inl (dA 0, 1200, .inl (fun _ => 0)))] H := hP
  have hD : va_D A [(h, .inr (6, [.ref q1, .ref q4, .null, .null, .null, .null, .int 0, .int 0])), (q1, .inr (5, [.ref u2])), (u2, .inl (dA 0, 40, .inl (fun _ => 0))), (q4, .inr (5, [.ref u5])), (u5, .inl (dA 0, 30, .inl (fun _ => 0))), (q7, .inr (5, [.ref u8])), (u8, .inl (dA 0, 1200, .inl (fun _ => 0)))] := hD
  refine va_putF (D := D) (ci := 6) (v := .ref q7) (ty := .object "TallowIndex$Row") (C := RX3) (T := TX3) (N := 8) hx hb hts inAX3 tyX3 tyX3_ok nmX3 hown hK hP hD hS 0 rfl rfl 2 (by decide) (hts _ q315) (fun _ h9 => h9) rfl hnm rfl (tyX3_ok 2 (by decide)) rfl rfl (Nat.le_of_ble_eq_true rfl) dX3_init_41 (fun H locs hP hD hS => ?_)
  have hP : va_P D vwCl [(h, .inr (6, [.ref q1, .ref q4, .ref q7, .null, .null, .null, .int 0, .int 0])), (q1, .inr (5, [.ref u2])), (u2, .inl (dA 0, 40, .inl (fun _ => 0))), (q4, .inr (5, [.ref u5])), (u5, .inl (dA 0, 30, .inl (fun _ => 0))), (q7, .inr (5, [.ref u8])), (u8, .inl (dA 0, 1200, .inl (fun _ => 0)))] H := hP
  have hD : va_D A [(h, .inr (6, [.ref q1, .ref q4, .ref q7, .null, .null, .null, .int 0, .int 0])), (q1, .inr (5, [.ref u2])), (u2, .inl (dA 0, 40, .inl (fun _ => 0))), (q4, .inr (5, [.ref u5])), (u5, .inl (dA 0, 30, .inl (fun _ => 0))), (q7, .inr (5, [.ref u8])), (u8, .inl (dA 0, 1200, .inl (fun _ => 0)))] := hD
  refine lv_aload_n hx hb dX3_init_44 rfl (lv_at hl 0 rfl) ?_
  refine va_new (ci := 5) (fs := [.null]) (C := RX2) (T := TX2) (N := 1) hx hb hts inAX2 tyX2 tyX2_ok hown (hts _ q311) (hts _ q280) (hts _ q204) hK hP hD hS hA rfl fsNX2 (Nat.le_of_ble_eq_true rfl) (Nat.le_of_ble_eq_true rfl) dX3_init_45 (fun q10 H hP hD hS => ?_)
  have hP : va_P D vwCl [(h, .inr (6, [.ref q1, .ref q4, .ref q7, .null, .null, .null, .int 0, .int 0])), (q1, .inr (5, [.ref u2])), (u2, .inl (dA 0, 40, .inl (fun _ => 0))), (q4, .inr (5, [.ref u5])), (u5, .inl (dA 0, 30, .inl (fun _ => 0))), (q7, .inr (5, [.ref u8])), (u8, .inl (dA 0, 1200, .inl (fun _ => 0))), (q10, .inr (5, [.null]))] H := hP
  have hD : va_D A [(h, .inr (6, [.ref q1, .ref q4, .ref q7, .null, .null, .null, .int 0, .int 0])), (q1, .inr (5, [.ref u2])), (u2, .inl (dA 0, 40, .inl (fun _ => 0))), (q4, .inr (5, [.ref u5])), (u5, .inl (dA 0, 30, .inl (fun _ => 0))), (q7, .inr (5, [.ref u8])), (u8, .inl (dA 0, 1200, .inl (fun _ => 0))), (q10, .inr (5, [.null]))] := hD
  refine W.widen (k := 7) (n := 1274) (Nat.le_of_ble_eq_true rfl) (Nat.le_of_ble_eq_true rfl) ?_
  refine lv_dup hx hb dX3_init_48 rfl ?_
  refine lv_bipush (v := 30) hx hb dX3_init_49 (by decide) ?_
  have hPc := hP.sub (ws' := [(q10, .inr (5, [.null]))]) [7] rfl
  have hDc := hD.sub (ws' := [(q10, .inr (5, [.null]))]) [7] (by decide) rfl
  have hFc := va_free (wc := [(q10, .inr (5, [.null]))]) hD hS hA [7] rfl
  refine va_callv (va_runI (As := [.int 30]) (rest := [.ref q10, .ref h]) ⟨hx, hb, hml, hown, hts⟩ (i_Row_30 l D dA E q10 H.size ) (cwI 1 hts (ga_I q281) rfl rfl rfl (hts _ q204) (hts _ q312) (hts _ q283) rfl (by decide +kernel) ⟨(Nat.le_of_ble_eq_true rfl), (Nat.le_of_ble_eq_true rfl)⟩) ⟨pb_blind, pb_pre hK hPc hDc hZ hS hFc _⟩ rfl rfl hl.1 rfl (lv_room (Nat.le_of_ble_eq_true rfl)) dX3_init_51 ⟨(Nat.le_of_ble_eq_true rfl), (Nat.le_of_ble_eq_true rfl)⟩) hS (fun q _ h => hFc q h) hFc (fun u t H1 locs ht hvm hw hB hz1 hk1 hS => ?_)
  refine W.widen (k := 8) (n := 1304) (Nat.le_of_ble_eq_true rfl) (Nat.le_of_ble_eq_true rfl) ?_
  obtain ⟨u11, rfl⟩ : ∃ z, z = u := ⟨_, rfl⟩
  have hw12 := hw
  clear hw
  obtain ⟨hP1, hD1⟩ := hB
  rw [ht] at hP1
  obtain ⟨hP, hD⟩ := va_join (wr := [(h, .inr (6, [.ref q1, .ref q4, .ref q7, .null, .null, .null, .int 0, .int 0])), (q1, .inr (5, [.ref u2])), (u2, .inl (dA 0, 40, .inl (fun _ => 0))), (q4, .inr (5, [.ref u5])), (u5, .inl (dA 0, 30, .inl (fun _ => 0))), (q7, .inr (5, [.ref u8])), (u8, .inl (dA 0, 1200, .inl (fun _ => 0)))]) (w1 := [(q10, .inr (5, [.ref u11])), (u11, .inl (dA 0, 30, .inl (fun _ => 0)))]) hP hD [7] [0, 1, 2, 3, 4, 5, 6] rfl rfl (by decide) (by decide) hk1 hFc hP1 hD1
  generalize H1 = H at hP hS ⊢
  have hP : va_P D vwCl [(h, .inr (6, [.ref q1, .ref q4, .ref q7, .null, .null, .null, .int 0, .int 0])), (q1, .inr (5, [.ref u2])), (u2, .inl (dA 0, 40, .inl (fun _ => 0))), (q4, .inr (5, [.ref u5])), (u5, .inl (dA 0, 30, .inl (fun _ => 0))), (q7, .inr (5, [.ref u8])), (u8, .inl (dA 0, 1200, .inl (fun _ => 0))), (q10, .inr (5, [.ref u11])), (u11, .inl (dA 0, 30, .inl (fun _ => 0)))] H := hP
  have hD : va_D A [(h, .inr (6, [.ref q1, .ref q4, .ref q7, .null, .null, .null, .int 0, .int 0])), (q1, .inr (5, [.ref u2])), (u2, .inl (dA 0, 40, .inl (fun _ => 0))), (q4, .inr (5, [.ref u5])), (u5, .inl (dA 0, 30, .inl (fun _ => 0))), (q7, .inr (5, [.ref u8])), (u8, .inl (dA 0, 1200, .inl (fun _ => 0))), (q10, .inr (5, [.ref u11])), (u11, .inl (dA 0, 30, .inl (fun _ => 0)))] := hD
  refine va_putF (D := D) (ci := 6) (v := .ref q10) (ty := .object "TallowIndex$Row") (C := RX3) (T := TX3) (N := 8) hx hb hts inAX3 tyX3 tyX3_ok nmX3 hown hK hP hD hS 0 rfl rfl 3 (by decide) (hts _ q316) (fun _ h9 => h9) rfl hnm rfl (tyX3_ok 3 (by decide)) rfl rfl (Nat.le_of_ble_eq_true rfl) dX3_init_54 (fun H locs hP hD hS => ?_)
  have hP : va_P D vwCl [(h, .inr (6, [.ref q1, .ref q4, .ref q7, .ref q10, .null, .null, .int 0, .int 0])), (q1, .inr (5, [.ref u2])), (u2, .inl (dA 0, 40, .inl (fun _ => 0))), (q4, .inr (5, [.ref u5])), (u5, .inl (dA 0, 30, .inl (fun _ => 0))), (q7, .inr (5, [.ref u8])), (u8, .inl (dA 0, 1200, .inl (fun _ => 0))), (q10, .inr (5, [.ref u11])), (u11, .inl (dA 0, 30, .inl (fun _ => 0)))] H := hP
  have hD : va_D A [(h, .inr (6, [.ref q1, .ref q4, .ref q7, .ref q10, .null, .null, .int 0, .int 0])), (q1, .inr (5, [.ref u2])), (u2, .inl (dA 0, 40, .inl (fun _ => 0))), (q4, .inr (5, [.ref u5])), (u5, .inl (dA 0, 30, .inl (fun _ => 0))), (q7, .inr (5, [.ref u8])), (u8, .inl (dA 0, 1200, .inl (fun _ => 0))), (q10, .inr (5, [.ref u11])), (u11, .inl (dA 0, 30, .inl (fun _ => 0)))] := hD
  refine lv_aload_n hx hb dX3_init_57 rfl (lv_at hl 0 rfl) ?_
  refine va_new (ci := 5) (fs := [.null]) (C := RX2) (T := TX2) (N := 1) hx hb hts inAX2 tyX2 tyX2_ok hown (hts _ q311) (hts _ q280) (hts _ q204) hK hP hD hS hA rfl fsNX2 (Nat.le_of_ble_eq_true rfl) (Nat.le_of_ble_eq_true rfl) dX3_init_58 (fun q13 H hP hD hS => ?_)
  have hP : va_P D vwCl [(h, .inr (6, [.ref q1, .ref q4, .ref q7, .ref q10, .null, .null, .int 0, .int 0])), (q1, .inr (5, [.ref u2])), (u2, .inl (dA 0, 40, .inl (fun _ => 0))), (q4, .inr (5, [.ref u5])), (u5, .inl (dA 0, 30, .inl (fun _ => 0))), (q7, .inr (5, [.ref u8])), (u8, .inl (dA 0, 1200, .inl (fun _ => 0))), (q10, .inr (5, [.ref u11])), (u11, .inl (dA 0, 30, .inl (fun _ => 0))), (q13, .inr (5, [.null]))] H := hP
  have hD : va_D A [(h, .inr (6, [.ref q1, .ref q4, .ref q7, .ref q10, .null, .null, .int 0, .int 0])), (q1, .inr (5, [.ref u2])), (u2, .inl (dA 0, 40, .inl (fun _ => 0))), (q4, .inr (5, [.ref u5])), (u5, .inl (dA 0, 30, .inl (fun _ => 0))), (q7, .inr (5, [.ref u8])), (u8, .inl (dA 0, 1200, .inl (fun _ => 0))), (q10, .inr (5, [.ref u11])), (u11, .inl (dA 0, 30, .inl (fun _ => 0))), (q13, .inr (5, [.null]))] := hD
  refine W.widen (k := 9) (n := 1305) (Nat.le_of_ble_eq_true rfl) (Nat.le_of_ble_eq_true rfl) ?_
  refine lv_dup hx hb dX3_init_61 rfl ?_
  refine lv_bipush (v := 30) hx hb dX3_init_62 (by decide) ?_
  have hPc := hP.sub (ws' := [(q13, .inr (5, [.null]))]) [9] rfl
  have hDc := hD.sub (ws' := [(q13, .inr (5, [.null]))]) [9] (by decide) rfl
  have hFc := va_free (wc := [(q13, .inr (5, [.null]))]) hD hS hA [9] rfl
  refine va_callv (va_runI (As := [.int 30]) (rest := [.ref q13, .ref h]) ⟨hx, hb, hml, hown, hts⟩ (i_Row_30 l D dA E q13 H.size ) (cwI 1 hts (ga_I q281) rfl rfl rfl (hts _ q204) (hts _ q312) (hts _ q283) rfl (by decide +kernel) ⟨(Nat.le_of_ble_eq_true rfl), (Nat.le_of_ble_eq_true rfl)⟩) ⟨pb_blind, pb_pre hK hPc hDc hZ hS hFc _⟩ rfl rfl hl.1 rfl (lv_room (Nat.le_of_ble_eq_true rfl)) dX3_init_64 ⟨(Nat.le_of_ble_eq_true rfl), (Nat.le_of_ble_eq_true rfl)⟩) hS (fun q _ h => hFc q h) hFc (fun u t H1 locs ht hvm hw hB hz1 hk1 hS => ?_)
  refine W.widen (k := 10) (n := 1335) (Nat.le_of_ble_eq_true rfl) (Nat.le_of_ble_eq_true rfl) ?_
  obtain ⟨u14, rfl⟩ : ∃ z, z = u := ⟨_, rfl⟩
  have hw15 := hw
  clear hw
  obtain ⟨hP1, hD1⟩ := hB
  rw [ht] at hP1
  obtain ⟨hP, hD⟩ := va_join (wr := [(h, .inr (6, [.ref q1, .ref q4, .ref q7, .ref q10, .null, .null, .int 0, .int 0])), (q1, .inr (5, [.ref u2])), (u2, .inl (dA 0, 40, .inl (fun _ => 0))), (q4, .inr (5, [.ref u5])), (u5, .inl (dA 0, 30, .inl (fun _ => 0))), (q7, .inr (5, [.ref u8])), (u8, .inl (dA 0, 1200, .inl (fun _ => 0))), (q10, .inr (5, [.ref u11])), (u11, .inl (dA 0, 30, .inl (fun _ => 0)))]) (w1 := [(q13, .inr (5, [.ref u14])), (u14, .inl (dA 0, 30, .inl (fun _ => 0)))]) hP hD [9] [0, 1, 2, 3, 4, 5, 6, 7, 8] rfl rfl (by decide) (by decide) hk1 hFc hP1 hD1
  generalize H1 = H at hP hS ⊢
  have hP : va_P D vwCl [(h, .inr (6, [.ref q1, .ref q4, .ref q7, .ref q10, .null, .null, .int 0, .int 0])), (q1, .inr (5, [.ref u2])), (u2, .inl (dA 0, 40, .inl (fun _ => 0))), (q4, .inr (5, [.ref u5])), (u5, .inl (dA 0, 30, .inl (fun _ => 0))), (q7, .inr (5, [.ref u8])), (u8, .inl (dA 0, 1200, .inl (fun _ => 0))), (q10, .inr (5, [.ref u11])), (u11, .inl (dA 0, 30, .inl (fun _ => 0))), (q13, .inr (5, [.ref u14])), (u14, .inl (dA 0, 30, .inl (fun _ => 0)))] H := hP
  have hD : va_D A [(h, .inr (6, [.ref q1, .ref q4, .ref q7, .ref q10, .null, .null, .int 0, .int 0])), (q1, .inr (5, [.ref u2])), (u2, .inl (dA 0, 40, .inl (fun _ => 0))), (q4, .inr (5, [.ref u5])), (u5, .inl (dA 0, 30, .inl (fun _ => 0))), (q7, .inr (5, [.ref u8])), (u8, .inl (dA 0, 1200, .inl (fun _ => 0))), (q10, .inr (5, [.ref u11])), (u11, .inl (dA 0, 30, .inl (fun _ => 0))), (q13, .inr (5, [.ref u14])), (u14, .inl (dA 0, 30, .inl (fun _ => 0)))] := hD
  refine va_putF (D := D) (ci := 6) (v := .ref q13) (ty := .object "TallowIndex$Row") (C := RX3) (T := TX3) (N := 8) hx hb hts inAX3 tyX3 tyX3_ok nmX3 hown hK hP hD hS 0 rfl rfl 4 (by decide) (hts _ q317) (fun _ h9 => h9) rfl hnm rfl (tyX3_ok 4 (by decide)) rfl rfl (Nat.le_of_ble_eq_true rfl) dX3_init_67 (fun H locs hP hD hS => ?_)
  have hP : va_P D vwCl [(h, .inr (6, [.ref q1, .ref q4, .ref q7, .ref q10, .ref q13, .null, .int 0, .int 0])), (q1, .inr (5, [.ref u2])), (u2, .inl (dA 0, 40, .inl (fun _ => 0))), (q4, .inr (5, [.ref u5])), (u5, .inl (dA 0, 30, .inl (fun _ => 0))), (q7, .inr (5, [.ref u8])), (u8, .inl (dA 0, 1200, .inl (fun _ => 0))), (q10, .inr (5, [.ref u11])), (u11, .inl (dA 0, 30, .inl (fun _ => 0))), (q13, .inr (5, [.ref u14])), (u14, .inl (dA 0, 30, .inl (fun _ => 0)))] H := hP
  have hD : va_D A [(h, .inr (6, [.ref q1, .ref q4, .ref q7, .ref q10, .ref q13, .null, .int 0, .int 0])), (q1, .inr (5, [.ref u2])), (u2, .inl (dA 0, 40, .inl (fun _ => 0))), (q4, .inr (5, [.ref u5])), (u5, .inl (dA 0, 30, .inl (fun _ => 0))), (q7, .inr (5, [.ref u8])), (u8, .inl (dA 0, 1200, .inl (fun _ => 0))), (q10, .inr (5, [.ref u11])), (u11, .inl (dA 0, 30, .inl (fun _ => 0))), (q13, .inr (5, [.ref u14])), (u14, .inl (dA 0, 30, .inl (fun _ => 0)))] := hD
  refine lv_aload_n hx hb dX3_init_70 rfl (lv_at hl 0 rfl) ?_
  refine va_new (ci := 5) (fs := [.null]) (C := RX2) (T := TX2) (N := 1) hx hb hts inAX2 tyX2 tyX2_ok hown (hts _ q311) (hts _ q280) (hts _ q204) hK hP hD hS hA rfl fsNX2 (Nat.le_of_ble_eq_true rfl) (Nat.le_of_ble_eq_true rfl) dX3_init_71 (fun q16 H hP hD hS => ?_)
  have hP : va_P D vwCl [(h, .inr (6, [.ref q1, .ref q4, .ref q7, .ref q10, .ref q13, .null, .int 0, .int 0])), (q1, .inr (5, [.ref u2])), (u2, .inl (dA 0, 40, .inl (fun _ => 0))), (q4, .inr (5, [.ref u5])), (u5, .inl (dA 0, 30, .inl (fun _ => 0))), (q7, .inr (5, [.ref u8])), (u8, .inl (dA 0, 1200, .inl (fun _ => 0))), (q10, .inr (5, [.ref u11])), (u11, .inl (dA 0, 30, .inl (fun _ => 0))), (q13, .inr (5, [.ref u14])), (u14, .inl (dA 0, 30, .inl (fun _ => 0))), (q16, .inr (5, [.null]))] H := hP
  have hD : va_D A [(h, .inr (6, [.ref q1, .ref q4, .ref q7, .ref q10, .ref q13, .null, .int 0, .int 0])), (q1, .inr (5, [.ref u2])), (u2, .inl (dA 0, 40, .inl (fun _ => 0))), (q4, .inr (5, [.ref u5])), (u5, .inl (dA 0, 30, .inl (fun _ => 0))), (q7, .inr (5, [.ref u8])), (u8, .inl (dA 0, 1200, .inl (fun _ => 0))), (q10, .inr (5, [.ref u11])), (u11, .inl (dA 0, 30, .inl (fun _ => 0))), (q13, .inr (5, [.ref u14])), (u14, .inl (dA 0, 30, .inl (fun _ => 0))), (q16, .inr (5, [.null]))] := hD
  refine W.widen (k := 11) (n := 1336) (Nat.le_of_ble_eq_true rfl) (Nat.le_of_ble_eq_true rfl) ?_
  refine lv_dup hx hb dX3_init_74 rfl ?_
  refine lv_bipush (v := 12) hx hb dX3_init_75 (by decide) ?_
  have hPc := hP.sub (ws' := [(q16, .inr (5, [.null]))]) [11] rfl
  have hDc := hD.sub (ws' := [(q16, .inr (5, [.null]))]) [11] (by decide) rfl
  have hFc := va_free (wc := [(q16, .inr (5, [.null]))]) hD hS hA [11] rfl
  refine va_callv (va_runI (As := [.int 12]) (rest := [.ref q16, .ref h]) ⟨hx, hb, hml, hown, hts⟩ (i_Row_12 l D dA E q16 H.size ) (cwI 1 hts (ga_I q281) rfl rfl rfl (hts _ q204) (hts _ q312) (hts _ q283) rfl (by decide +kernel) ⟨(Nat.le_of_ble_eq_true rfl), (Nat.le_of_ble_eq_true rfl)⟩) ⟨pb_blind, pb_pre hK hPc hDc hZ hS hFc _⟩ rfl rfl hl.1 rfl (lv_room (Nat.le_of_ble_eq_true rfl)) dX3_init_77 ⟨(Nat.le_of_ble_eq_true rfl), (Nat.le_of_ble_eq_true rfl)⟩) hS (fun q _ h => hFc q h) hFc (fun u t H1 locs ht hvm hw hB hz1 hk1 hS => ?_)
  refine W.widen (k := 12) (n := 1348) (Nat.le_of_ble_eq_true rfl) (Nat.le_of_ble_eq_true rfl) ?_
  obtain ⟨u17, rfl⟩ : ∃ z, z = u := ⟨_, rfl⟩
  have hw18 := hw
  clear hw
  obtain ⟨hP1, hD1⟩ := hB
  rw [ht] at hP1
  obtain ⟨hP, hD⟩ := va_join (wr := [(h, .inr (6, [.ref q1, .ref q4, .ref q7, .ref q10, .ref q13, .null, .int 0, .int 0])), (q1, .inr (5, [.ref u2])), (u2, .inl (dA 0, 40, .inl (fun _ => 0))), (q4, .inr (5, [.ref u5])), (u5, .inl (dA 0, 30, .inl (fun _ => 0))), (q7, .inr (5, [.ref u8])), (u8, .inl (dA 0, 1200, .inl (fun _ => 0))), (q10, .inr (5, [.ref u11])), (u11, .inl (dA 0, 30, .inl (fun _ => 0))), (q13, .inr (5, [.ref u14])), (u14, .inl (dA 0, 30, .inl (fun _ => 0)))]) (w1 := [(q16, .inr (5, [.ref u17])), (u17, .inl (dA 0, 12, .inl (fun _ => 0)))]) hP hD [11] [0, 1, 2, 3, 4, 5, 6, 7, 8, 9, 10] rfl rfl (by decide) (by decide) hk1 hFc hP1 hD1
  generalize H1 = H at hP hS ⊢
  have hP : va_P D vwCl [(h, .inr (6, [.ref q1, .ref q4, .ref q7, .ref q10, .ref q13, .null, .int 0, .int 0])), (q1, .inr (5, [.ref u2])), (u2, .inl (dA 0, 40, .inl (fun _ => 0))), (q4, .inr (5, [.ref u5])), (u5, .inl (dA 0, 30, .inl (fun _ => 0))), (q7, .inr (5, [.ref u8])), (u8, .inl (dA 0, 1200, .inl (fun _ => 0))), (q10, .inr (5, [.ref u11])), (u11, .inl (dA 0, 30, .inl (fun _ => 0))), (q13, .inr (5, [.ref u14])), (u14, .inl (dA 0, 30, .inl (fun _ => 0))), (q16, .inr (5, [.ref u17])), (u17, .inl (dA 0, 12, .inl (fun _ => 0)))] H := hP
  have hD : va_D A [(h, .inr (6, [.ref q1, .ref q4, .ref q7, .ref q10, .ref q13, .null, .int 0, .int 0])), (q1, .inr (5, [.ref u2])), (u2, .inl (dA 0, 40, .inl (fun _ => 0))), (q4, .inr (5, [.ref u5])), (u5, .inl (dA 0, 30, .inl (fun _ => 0))), (q7, .inr (5, [.ref u8])), (u8, .inl (dA 0, 1200, .inl (fun _ => 0))), (q10, .inr (5, [.ref u11])), (u11, .inl (dA 0, 30, .inl (fun _ => 0))), (q13, .inr (5, [.ref u14])), (u14, .inl (dA 0, 30, .inl (fun _ => 0))), (q16, .inr (5, [.ref u17])), (u17, .inl (dA 0, 12, .inl (fun _ => 0)))] := hD
  refine va_putF (D := D) (ci := 6) (v := .ref q16) (ty := .object "TallowIndex$Row") (C := RX3) (T := TX3) (N := 8) hx hb hts inAX3 tyX3 tyX3_ok nmX3 hown hK hP hD hS 0 rfl rfl 5 (by decide) (hts _ q318) (fun _ h9 => h9) rfl hnm rfl (tyX3_ok 5 (by decide)) rfl rfl (Nat.le_of_ble_eq_true rfl) dX3_init_80 (fun H locs hP hD hS => ?_)
  have hP : va_P D vwCl [(h, .inr (6, [.ref q1, .ref q4, .ref q7, .ref q10, .ref q13, .ref q16, .int 0, .int 0])), (q1, .inr (5, [.ref u2])), (u2, .inl (dA 0, 40, .inl (fun _ => 0))), (q4, .inr (5, [.ref u5])), (u5, .inl (dA 0, 30, .inl (fun _ => 0))), (q7, .inr (5, [.ref u8])), (u8, .inl (dA 0, 1200, .inl (fun _ => 0))), (q10, .inr (5, [.ref u11])), (u11, .inl (dA 0, 30, .inl (fun _ => 0))), (q13, .inr (5, [.ref u14])), (u14, .inl (dA 0, 30, .inl (fun _ => 0))), (q16, .inr (5, [.ref u17])), (u17, .inl (dA 0, 12, .inl (fun _ => 0)))] H := hP
  have hD : va_D A [(h, .inr (6, [.ref q1, .ref q4, .ref q7, .ref q10, .ref q13, .ref q16, .int 0, .int 0])), (q1, .inr (5, [.ref u2])), (u2, .inl (dA 0, 40, .inl (fun _ => 0))), (q4, .inr (5, [.ref u5])), (u5, .inl (dA 0, 30, .inl (fun _ => 0))), (q7, .inr (5, [.ref u8])), (u8, .inl (dA 0, 1200, .inl (fun _ => 0))), (q10, .inr (5, [.ref u11])), (u11, .inl (dA 0, 30, .inl (fun _ => 0))), (q13, .inr (5, [.ref u14])), (u14, .inl (dA 0, 30, .inl (fun _ => 0))), (q16, .inr (5, [.ref u17])), (u17, .inl (dA 0, 12, .inl (fun _ => 0)))] := hD
  refine W.widen (k := 12) (n := 1348) (Nat.le_of_ble_eq_true rfl) (Nat.le_of_ble_eq_true rfl) ?_
  have hP9 := hP.sub (ws' := [(h, .inr (6, [.ref q1, .ref q4, .ref q7, .ref q10, .ref q13, .ref q16, .int 0, .int 0])), (q1, .inr (5, [.ref u2])), (u2, .inl (dA 0, 40, .inl (fun _ => 0))), (q4, .inr (5, [.ref u5])), (u5, .inl (dA 0, 30, .inl (fun _ => 0))), (q7, .inr (5, [.ref u8])), (u8, .inl (dA 0, 1200, .inl (fun _ => 0))), (q10, .inr (5, [.ref u11])), (u11, .inl (dA 0, 30, .inl (fun _ => 0))), (q13, .inr (5, [.ref u14])), (u14, .inl (dA 0, 30, .inl (fun _ => 0))), (q16, .inr (5, [.ref u17])), (u17, .inl (dA 0, 12, .inl (fun _ => 0)))]) [0, 1, 2, 3, 4, 5, 6, 7, 8, 9, 10, 11, 12] rfl
  have hD9 := hD.sub (ws' := [(h, .inr (6, [.ref q1, .ref q4, .ref q7, .ref q10, .ref q13, .ref q16, .int 0, .int 0])), (q1, .inr (5, [.ref u2])), (u2, .inl (dA 0, 40, .inl (fun _ => 0))), (q4, .inr (5, [.ref u5])), (u5, .inl (dA 0, 30, .inl (fun _ => 0))), (q7, .inr (5, [.ref u8])), (u8, .inl (dA 0, 1200, .inl (fun _ => 0))), (q10, .inr (5, [.ref u11])), (u11, .inl (dA 0, 30, .inl (fun _ => 0))), (q13, .inr (5, [.ref u14])), (u14, .inl (dA 0, 30, .inl (fun _ => 0))), (q16, .inr (5, [.ref u17])), (u17, .inl (dA 0, 12, .inl (fun _ => 0)))]) [0, 1, 2, 3, 4, 5, 6, 7, 8, 9, 10, 11, 12] (by decide) rfl
  exact W.vret hx hb hr (fun t ht hW => ⟨⟨(fun k => ([h, q1, u2, q4, u5, q7, u8, q10, u11, q13, u14, q16, u17] : List Nat).getD k 0), rfl, rfl, ⟨by rw [ht]; exact hP9, hD9⟩⟩, hS.F ht⟩) hS.2.2 dX3_init_83

set_option maxHeartbeats 4000000 in
set_option maxRecDepth 100000 in
theorem i_TallowIndex (l : Launch) (D : va_G) (dA : Nat → ClassId) (E : Nat) (h : Nat) (sz : Nat)   : Met l yX8_init (wq (.code yX8_init cX8_init 1 none)) { frames := 4, cells := 29, slots := 1531, locals := 72 } (va_Pc [.ref h] (PcB D dA E [(h, .inr (11, [.null, .null, .null, .null, .null, .null, .null, .null, .null, .int 0, .int 0, .int 0]))] sz)) (va_Qv (fun (u : Nat → Nat) => u 0 = h) (fun u t => va_P D vwCl [(u 0, .inr (11, [.ref (u 1), .ref (u 2), .ref (u 3), .ref (u 4), .ref (u 5), .ref (u 10), .ref (u 15), .ref (u 17), .null, .int 0, .int 0, .int 0])), (u 1, .inr (2, [.int 0, .ref E, .int 0])), (u 2, .inr (2, [.int 0, .ref E, .int 0])), (u 3, .inr (2, [.int 0, .ref E, .int 0])), (u 4, .inr (2, [.int 0, .ref E, .int 0])), (u 5, .inr (7, [.ref (u 6), .ref (u 8), .int 0, .int 0])), (u 6, .inr (5, [.ref (u 7)])), (u 7, .inl (dA 0, 30, .inl (fun _ => 0))), (u 8, .inr (5, [.ref (u 9)])), (u 9, .inl (dA 0, 30, .inl (fun _ => 0))), (u 10, .inr (7, [.ref (u 11), .ref (u 13), .int 0, .int 0])), (u 11, .inr (5, [.ref (u 12)])), (u 12, .inl (dA 0, 30, .inl (fun _ => 0))), (u 13, .inr (5, [.ref (u 14)])), (u 14, .inl (dA 0, 30, .inl (fun _ => 0))), (u 15, .inr (5, [.ref (u 16)])), (u 16, .inl (dA 0, 30, .inl (fun _ => 0))), (u 17, .inr (6, [.ref (u 18), .ref (u 20), .ref (u 22), .ref (u 24), .ref (u 26), .ref (u 28), .int 0, .int 0])), (u 18, .inr (5, [.ref (u 19)])), (u 19, .inl (dA 0, 40, .inl (fun _ => 0))), (u 20, .inr (5, [.ref (u 21)])), (u 21, .inl (dA 0, 30, .inl (fun _ => 0))), (u 22, .inr (5, [.ref (u 23)])), (u 23, .inl (dA 0, 1200, .inl (fun _ => 0))), (u 24, .inr (5, [.ref (u 25)])), (u 25, .inl (dA 0, 30, .inl (fun _ => 0))), (u 26, .inr (5, [.ref (u 27)])), (u 27, .inl (dA 0, 30, .inl (fun _ => 0))), (u 28, .inr (5, [.ref (u 29)])), (u 29, .inl (dA 0, 12, .inl (fun _ => 0)))] t.heap ∧ va_D (va_A [(h, .inr (11, [.null, .null, .null, .null, .null, .null, .null, .null, .null, .int 0, .int 0, .int 0]))] sz) [(u 0, .inr (11, [.ref (u 1), .ref (u 2), .ref (u 3), .ref (u 4), .ref (u 5), .ref (u 10), .ref (u 15), .ref (u 17), .null, .int 0, .int 0, .int 0])), (u 1, .inr (2, [.int 0, .ref E, .int 0])), (u 2, .inr (2, [.int 0, .ref E, .int 0])), (u 3, .inr (2, [.int 0, .ref E, .int 0])), (u 4, .inr (2, [.int 0, .ref E, .int 0])), (u 5, .inr (7, [.ref (u 6), .ref (u 8), .int 0, .int 0])), (u 6, .inr (5, [.ref (u 7)])), (u 7, .inl (dA 0, 30, .inl (fun _ => 0))), (u 8, .inr (5, [.ref (u 9)])), (u 9, .inl (dA 0, 30, .inl (fun _ => 0))), (u 10, .inr (7, [.ref (u 11), .ref (u 13), .int 0, .int 0])), (u 11, .inr (5, [.ref (u 12)])), (u 12, .inl (dA 0, 30, .inl (fun _ => 0))), (u 13, .inr (5, [.ref (u 14)])), (u 14, .inl (dA 0, 30, .inl (fun _ => 0))), (u 15, .inr (5, [.ref (u 16)])), (u 16, .inl (dA 0, 30, .inl (fun _ => 0))), (u 17, .inr (6, [.ref (u 18), .ref (u 20), .ref (u 22), .ref (u 24), .ref (u 26), .ref (u 28), .int 0, .int 0])), (u 18, .inr (5, [.ref (u 19)])), (u 19, .inl (dA 0, 40, .inl (fun _ => 0))), (u 20, .inr (5, [.ref (u 21)])), (u 21, .inl (dA 0, 30, .inl (fun _ => 0))), (u 22, .inr (5, [.ref (u 23)])), (u 23, .inl (dA 0, 1200, .inl (fun _ => 0))), (u 24, .inr (5, [.ref (u 25)])), (u 25, .inl (dA 0, 30, .inl (fun _ => 0))), (u 26, .inr (5, [.ref (u 27)])), (u 27, .inl (dA 0, 30, .inl (fun _ => 0))), (u 28, .inr (5, [.ref (u 29)])), (u 29, .inl (dA 0, 12, .inl (fun _ => 0)))]) (va_A [(h, .inr (11, [.null, .null, .null, .null, .null, .null, .null, .null, .null, .int 0, .int 0, .int 0]))] sz)) 29 1531 (va_A [(h, .inr (11, [.null, .null, .null, .null, .null, .null, .null, .null, .null, .int 0, .int 0, .int 0]))] sz) := by
  refine mb_of (Qc := fun A => va_Qv (fun (u : Nat → Nat) => u 0 = h) (fun u t => va_P D vwCl [(u 0, .inr (11, [.ref (u 1), .ref (u 2), .ref (u 3), .ref (u 4), .ref (u 5), .ref (u 10), .ref (u 15), .ref (u 17), .null, .int 0, .int 0, .int 0])), (u 1, .inr (2, [.int 0, .ref E, .int 0])), (u 2, .inr (2, [.int 0, .ref E, .int 0])), (u 3, .inr (2, [.int 0, .ref E, .int 0])), (u 4, .inr (2, [.int 0, .ref E, .int 0])), (u 5, .inr (7, [.ref (u 6), .ref (u 8), .int 0, .int 0])), (u 6, .inr (5, [.ref (u 7)])), (u 7, .inl (dA 0, 30, .inl (fun _ => 0))), (u 8, .inr (5, [.ref (u 9)])), (u 9, .inl (dA 0, 30, .inl (fun _ => 0))), (u 10, .inr (7, [.ref (u 11), .ref (u 13), .int 0, .int 0])), (u 11, .inr (5, [.ref (u 12)])), (u 12, .inl (dA 0, 30, .inl (fun _ => 0))), (u 13, .inr (5, [.ref (u 14)])), (u 14, .inl (dA 0, 30, .inl (fun _ => 0))), (u 15, .inr (5, [.ref (u 16)])), (u 16, .inl (dA 0, 30, .inl (fun _ => 0))), (u 17, .inr (6, [.ref (u 18), .ref (u 20), .ref (u 22), .ref (u 24), .ref (u 26), .ref (u 28), .int 0, .int 0])), (u 18, .inr (5, [.ref (u 19)])), (u 19, .inl (dA 0, 40, .inl (fun _ => 0))), (u 20, .inr (5, [.ref (u 21)])), (u 21, .inl (dA 0, 30, .inl (fun _ => 0))), (u 22, .inr (5, [.ref (u 23)])), (u 23, .inl (dA 0, 1200, .inl (fun _ => 0))), (u 24, .inr (5, [.ref (u 25)])), (u 25, .inl (dA 0, 30, .inl (fun _ => 0))), (u 26, .inr (5, [.ref (u 27)])), (u 27, .inl (dA 0, 30, .inl (fun _ => 0))), (u 28, .inr (5, [.ref (u 29)])), (u 29, .inl (dA 0, 12, .inl (fun _ => 0)))] t.heap ∧ va_D A [(u 0, .inr (11, [.ref (u 1), .ref (u 2), .ref (u 3), .ref (u 4), .ref (u 5), .ref (u 10), .ref (u 15), .ref (u 17), .null, .int 0, .int 0, .int 0])), (u 1, .inr (2, [.int 0, .ref E, .int 0])), (u 2, .inr (2, [.int 0, .ref E, .int 0])), (u 3, .inr (2, [.int 0, .ref E, .int 0])), (u 4, .inr (2, [.int 0, .ref E, .int 0])), (u 5, .inr (7, [.ref (u 6), .ref (u 8), .int 0, .int 0])), (u 6, .inr (5, [.ref (u 7)])), (u 7, .inl (dA 0, 30, .inl (fun _ => 0))), (u 8, .inr (5, [.ref (u 9)])), (u 9, .inl (dA 0, 30, .inl (fun _ => 0))), (u 10, .inr (7, [.ref (u 11), .ref (u 13), .int 0, .int 0])), (u 11, .inr (5, [.ref (u 12)])), (u 12, .inl (dA 0, 30, .inl (fun _ => 0))), (u 13, .inr (5, [.ref (u 14)])), (u 14, .inl (dA 0, 30, .inl (fun _ => 0))), (u 15, .inr (5, [.ref (u 16)])), (u 16, .inl (dA 0, 30, .inl (fun _ => 0))), (u 17, .inr (6, [.ref (u 18), .ref (u 20), .ref (u 22), .ref (u 24), .ref (u 26), .ref (u 28), .int 0, .int 0])), (u 18, .inr (5, [.ref (u 19)])), (u 19, .inl (dA 0, 40, .inl (fun _ => 0))), (u 20, .inr (5, [.ref (u 21)])), (u 21, .inl (dA 0, 30, .inl (fun _ => 0))), (u 22, .inr (5, [.ref (u 23)])), (u 23, .inl (dA 0, 1200, .inl (fun _ => 0))), (u 24, .inr (5, [.ref (u 25)])), (u 25, .inl (dA 0, 30, .inl (fun _ => 0))), (u 26, .inr (5, [.ref (u 27)])), (u 27, .inl (dA 0, 30, .inl (fun _ => 0))), (u 28, .inr (5, [.ref (u 29)])), (u 29, .inl (dA 0, 12, .inl (fun _ => 0)))]) A) RX8 rfl (by decide) (Nat.le_of_ble_eq_true rfl) ?_
  intro p e s m args below meth c hae hx hb hr hts hown hlocks hml hnm hP hK A hAe hD hZ hS hA ls hl
  have hl : lv_has ls 1 [(0, .ref h)] := hl
  refine lv_aload_n hx hb dX8_init_0 rfl (lv_at hl 0 rfl) ?_
  refine W.objInit hx hb hown (hts _ q319) (hts _ q263) (hts _ q264) rfl (by rw [hml]; exact hl.1) rfl dX8_init_1 (Nat.le_of_ble_eq_true rfl) (Nat.le_of_ble_eq_true rfl) ?_
  refine W.eq (g2 := F0 m 4 ls []) rfl ?_
  refine lv_aload_n hx hb dX8_init_4 rfl (lv_at hl 0 rfl) ?_
  refine va_new (ci := 2) (fs := [.int 0, .null, .int 0]) (C := RJx4a65c) (T := TJx4a65c) (N := 3) hx hb hts inAJx4a65c tyJx4a65c tyJx4a65c_ok hown (hts _ q320) (hts _ q321) (hts _ q322) hK hP hD hS hA rfl fsNJx4a65c (Nat.le_of_ble_eq_true rfl) (Nat.le_of_ble_eq_true rfl) dX8_init_5 (fun q1 H hP hD hS => ?_)
  have hP : va_P D vwCl [(h, .inr (11, [.null, .null, .null, .null, .null, .null, .null, .null, .null, .int 0, .int 0, .int 0])), (q1, .inr (2, [.int 0, .null, .int 0]))] H := hP
  have hD : va_D A [(h, .inr (11, [.null, .null, .null, .null, .null, .null, .null, .null, .null, .int 0, .int 0, .int 0])), (q1, .inr (2, [.int 0, .null, .int 0]))] := hD
  refine W.widen (k := 1) (n := 3) (Nat.le_of_ble_eq_true rfl) (Nat.le_of_ble_eq_true rfl) ?_
  refine lv_dup hx hb dX8_init_8 rfl ?_
  have hPc := hP.sub (ws' := [(q1, .inr (2, [.int 0, .null, .int 0]))]) [1] rfl
  have hDc := hD.sub (ws' := [(q1, .inr (2, [.int 0, .null, .int 0]))]) [1] (by decide) rfl
  have hFc := va_free (wc := [(q1, .inr (2, [.int 0, .null, .int 0]))]) hD hS hA [1] rfl
  refine va_callv (va_runI (As := []) (rest := [.ref q1, .ref h]) ⟨hx, hb, hml, hown, hts⟩ (i_list l D dA E q1 H.size ) (cwI 0 hts (ga_I q323) rfl rfl rfl (hts _ q322) (hts _ q324) (hts _ q325) rfl (by decide +kernel) ⟨(Nat.le_of_ble_eq_true rfl), (Nat.le_of_ble_eq_true rfl)⟩) ⟨pb_blind, pb_pre hK hPc hDc hZ hS hFc _⟩ rfl rfl hl.1 rfl (lv_room (Nat.le_of_ble_eq_true rfl)) dX8_init_9 ⟨(Nat.le_of_ble_eq_true rfl), (Nat.le_of_ble_eq_true rfl)⟩) hS (fun q _ h => hFc q h) hFc (fun u t H1 locs ht hvm hw hB hz1 hk1 hS => ?_)
  refine W.widen (k := 1) (n := 3) (Nat.le_of_ble_eq_true rfl) (Nat.le_of_ble_eq_true rfl) ?_
  obtain ⟨u2, rfl⟩ : ∃ z, z = u := ⟨_, rfl⟩
  have hw3 := hw
  clear hw
  obtain ⟨hP1, hD1⟩ := hB
  rw [ht] at hP1
  obtain ⟨hP, hD⟩ := va_join (wr := [(h, .inr (11, [.null, .null, .null, .null, .null, .null, .null, .null, .null, .int 0, .int 0, .int 0]))]) (w1 := [(q1, .inr (2, [.int 0, .ref E, .int 0]))]) hP hD [1] [0] rfl rfl (by decide) (by decide) hk1 hFc hP1 hD1
  generalize H1 = H at hP hS ⊢
  have hP : va_P D vwCl [(h, .inr (11, [.null, .null, .null, .null, .null, .null, .null, .null, .null, .int 0, .int 0, .int 0])), (q1, .inr (2, [.int 0, .ref E, .int 0]))] H := hP
  have hD : va_D A [(h, .inr (11, [.null, .null, .null, .null, .null, .null, .null, .null, .null, .int 0, .int 0, .int 0])), (q1, .inr (2, [.int 0, .ref E, .int 0]))] := hD
  refine va_putF (D := D) (ci := 11) (v := .ref q1) (ty := .object "java/util/ArrayList") (C := RX8) (T := TX8) (N := 12) hx hb hts inAX8 tyX8 tyX8_ok nmX8 hown hK hP hD hS 0 rfl rfl 0 (by decide) (hts _ q326) (fun _ h9 => h9) rfl hnm rfl (tyX8_ok 0 (by decide)) rfl rfl (Nat.le_of_ble_eq_true rfl) dX8_init_12 (fun H locs hP hD hS => ?_)
  have hP : va_P D vwCl [(h, .inr (11, [.ref q1, .null, .null, .null, .null, .null, .null, .null, .null, .int 0, .int 0, .int 0])), (q1, .inr (2, [.int 0, .ref E, .int 0]))] H := hP
  have hD : va_D A [(h, .inr (11, [.ref q1, .null, .null, .null, .null, .null, .null, .null, .null, .int 0, .int 0, .int 0])), (q1, .inr (2, [.int 0, .ref E, .int 0]))] := hD
  refine lv_aload_n hx hb dX8_init_15 rfl (lv_at hl 0 rfl) ?_
  refine va_new (ci := 2) (fs := [.int 0, .null, .int 0]) (C := RJx4a65c) (T := TJx4a65c) (N := 3) hx hb hts inAJx4a65c tyJx4a65c tyJx4a65c_ok hown (hts _ q320) (hts _ q321) (hts _ q322) hK hP hD hS hA rfl fsNJx4a65c (Nat.le_of_ble_eq_true rfl) (Nat.le_of_ble_eq_true rfl) dX8_init_16 (fun q4 H hP hD hS => ?_)
  have hP : va_P D vwCl [(h, .inr (11, [.ref q1, .null, .null, .null, .null, .null, .null, .null, .null, .int 0, .int 0, .int 0])), (q1, .inr (2, [.int 0, .ref E, .int 0])), (q4, .inr (2, [.int 0, .null, .int 0]))] H := hP
  have hD : va_D A [(h, .inr (11, [.ref q1, .null, .null, .null, .null, .null, .null, .null, .null, .int 0, .int 0, .int 0])), (q1, .inr (2, [.int 0, .ref E, .int 0])), (q4, .inr (2, [.int 0, .null, .int 0]))] := hD
  refine W.widen (k := 2) (n := 6) (Nat.le_of_ble_eq_true rfl) (Nat.le_of_ble_eq_true rfl) ?_
  refine lv_dup hx hb dX8_init_19 rfl ?_
  have hPc := hP.sub (ws' := [(q4, .inr (2, [.int 0, .null, .int 0]))]) [2] rfl
  have hDc := hD.sub (ws' := [(q4, .inr (2, [.int 0, .null, .int 0]))]) [2] (by decide) rfl
  have hFc := va_free (wc := [(q4, .inr (2, [.int 0, .null, .int 0]))]) hD hS hA [2] rfl
  refine va_callv (va_runI (As := []) (rest := [.ref q4, .ref h]) ⟨hx, hb, hml, hown, hts⟩ (i_list l D dA E q4 H.size ) (cwI 0 hts (ga_I q323) rfl rfl rfl (hts _ q322) (hts _ q324) (hts _ q325) rfl (by decide +kernel) ⟨(Nat.le_of_ble_eq_true rfl), (Nat.le_of_ble_eq_true rfl)⟩) ⟨pb_blind, pb_pre hK hPc hDc hZ hS hFc _⟩ rfl rfl hl.1 rfl (lv_room (Nat.le_of_ble_eq_true rfl)) dX8_init_20 ⟨(Nat.le_of_ble_eq_true rfl), (Nat.le_of_ble_eq_true rfl)⟩) hS (fun q _ h => hFc q h) hFc (fun u t H1 locs ht hvm hw hB hz1 hk1 hS => ?_)
  refine W.widen (k := 2) (n := 6) (Nat.le_of_ble_eq_true rfl) (Nat.le_of_ble_eq_true rfl) ?_
  obtain ⟨u5, rfl⟩ : ∃ z, z = u := ⟨_, rfl⟩
  have hw6 := hw
  clear hw
  obtain ⟨hP1, hD1⟩ := hB
  rw [ht] at hP1
  obtain ⟨hP, hD⟩ := va_join (wr := [(h, .inr (11, [.ref q1, .null, .null, .null, .null, .null, .null, .null, .null, .int 0, .int 0, .int 0])), (q1, .inr (2, [.int 0, .ref E, .int 0]))]) (w1 := [(q4, .inr (2, [.int 0, .ref E, .int 0]))]) hP hD [2] [0, 1] rfl rfl (by decide) (by decide) hk1 hFc hP1 hD1
  generalize H1 = H at hP hS ⊢
  have hP : va_P D vwCl [(h, .inr (11, [.ref q1, .null, .null, .null, .null, .null, .null, .null, .null, .int 0, .int 0, .int 0])), (q1, .inr (2, [.int 0, .ref E, .int 0])), (q4, .inr (2, [.int 0, .ref E, .int 0]))] H := hP
  have hD : va_D A [(h, .inr (11, [.ref q1, .null, .null, .null, .null, .null, .null, .null, .null, .int 0, .int 0, .int 0])), (q1, .inr (2, [.int 0, .ref E, .int 0])), (q4, .inr (2, [.int 0, .ref E, .int 0]))] := hD
  refine va_putF (D := D) (ci := 11) (v := .ref q4) (ty := .object "java/util/ArrayList") (C := RX8) (T := TX8) (N := 12) hx hb hts inAX8 tyX8 tyX8_ok nmX8 hown hK hP hD hS 0 rfl rfl 1 (by decide) (hts _ q327) (fun _ h9 => h9) rfl hnm rfl (tyX8_ok 1 (by decide)) rfl rfl (Nat.le_of_ble_eq_true rfl) dX8_init_23 (fun H locs hP hD hS => ?_)
  have hP : va_P D vwCl [(h, .inr (11, [.ref q1, .ref q4, .null, .null, .null, .null, .null, .null, .null, .int 0, .int 0, .int 0])), (q1, .inr (2, [.int 0, .ref E, .int 0])), (q4, .inr (2, [.int 0, .ref E, .int 0]))] H := hP
  have hD : va_D A [(h, .inr (11, [.ref q1, .ref q4, .null, .null, .null, .null, .null, .null, .null, .int 0, .int 0, .int 0])), (q1, .inr (2, [.int 0, .ref E, .int 0])), (q4, .inr (2, [.int 0, .ref E, .int 0]))] := hD
  refine lv_aload_n hx hb dX8_init_26 rfl (lv_at hl 0 rfl) ?_
  refine va_new (ci := 2) (fs := [.int 0, .null, .int 0]) (C := RJx4a65c) (T := TJx4a65c) (N := 3) hx hb hts inAJx4a65c tyJx4a65c tyJx4a65c_ok hown (hts _ q320) (hts _ q321) (hts _ q322) hK hP hD hS hA rfl fsNJx4a65c (Nat.le_of_ble_eq_true rfl) (Nat.le_of_ble_eq_true rfl) dX8_init_27 (fun q7 H hP hD hS => ?_)
  have hP : va_P D vwCl [(h, .inr (11, [.ref q1, .ref q4, .null, .null, .null, .null, .null, .null, .null, .int 0, .int 0, .int 0])), (q1, .inr (2, [.int 0, .ref E, .int 0])), (q4, .inr (2, [.int 0, .ref E, .int 0])), (q7, .inr (2, [.int 0, .null, .int 0]))] H := hP
  have hD : va_D A [(h, .inr (11, [.ref q1, .ref q4, .null, .null, .null, .null, .null, .null, .null, .int 0, .int 0, .int 0])), (q1, .inr (2, [.int 0, .ref E, .int 0])), (q4, .inr (2, [.int 0, .ref E, .int 0])), (q7, .inr (2, [.int 0, .null, .int 0]))] := hD
  refine W.widen (k := 3) (n := 9) (Nat.le_of_ble_eq_true rfl) (Nat.le_of_ble_eq_true rfl) ?_
  refine lv_dup hx hb dX8_init_30 rfl ?_
  have hPc := hP.sub (ws' := [(q7, .inr (2, [.int 0, .null, .int 0]))]) [3] rfl
  have hDc := hD.sub (ws' := [(q7, .inr (2, [.int 0, .null, .int 0]))]) [3] (by decide) rfl
  have hFc := va_free (wc := [(q7, .inr (2, [.int 0, .null, .int 0]))]) hD hS hA [3] rfl
  refine va_callv (va_runI (As := []) (rest := [.ref q7, .ref h]) ⟨hx, hb, hml, hown, hts⟩ (i_list l D dA E q7 H.size ) (cwI 0 hts (ga_I q323) rfl rfl rfl (hts _ q322) (hts _ q324) (hts _ q325) rfl (by decide +kernel) ⟨(Nat.le_of_ble_eq_true rfl), (Nat.le_of_ble_eq_true rfl)⟩) ⟨pb_blind, pb_pre hK hPc hDc hZ hS hFc _⟩ rfl rfl hl.1 rfl (lv_room (Nat.le_of_ble_eq_true rfl)) dX8_init_31 ⟨(Nat.le_of_ble_eq_true rfl), (Nat.le_of_ble_eq_true rfl)⟩) hS (fun q _ h => hFc q h) hFc (fun u t H1 locs ht hvm hw hB hz1 hk1 hS => ?_)
  refine W.widen (k := 3) (n := 9) (Nat.le_of_ble_eq_true rfl) (Nat.le_of_ble_eq_true rfl) ?_
  obtain ⟨u8, rfl⟩ : ∃ z, z = u := ⟨_, rfl⟩
  have hw9 := hw
  clear hw
  obtain ⟨hP1, hD1⟩ := hB
  rw [ht] at hP1
  obtain ⟨hP, hD⟩ := va_join (wr := [(h, .inr (11, [.ref q1, .ref q4, .null, .null, .null, .null, .null, .null, .null, .int 0, .int 0, .int 0])), (q1, .inr (2, [.int 0, .ref E, .int 0])), (q4, .inr (2, [.int 0, .ref E, .int 0]))]) (w1 := [(q7, .inr (2, [.int 0, .ref E, .int 0]))]) hP hD [3] [0, 1, 2] rfl rfl (by decide) (by decide) hk1 hFc hP1 hD1
  generalize H1 = H at hP hS ⊢
  have hP : va_P D vwCl [(h, .inr (11, [.ref q1, .ref q4, .null, .null, .null, .null, .null, .null, .null, .int 0, .int 0, .int 0])), (q1, .inr (2, [.int 0, .ref E, .int 0])), (q4, .inr (2, [.int 0, .ref E, .int 0])), (q7, .inr (2, [.int 0, .ref E, .int 0]))] H := hP
  have hD : va_D A [(h, .inr (11, [.ref q1, .ref q4, .null, .null, .null, .null, .null, .null, .null, .int 0, .int 0, .int 0])), (q1, .inr (2, [.int 0, .ref E, .int 0])), (q4, .inr (2, [.int 0, .ref E, .int 0])), (q7, .inr (2, [.int 0, .ref E, .int 0]))] := hD
  refine va_putF (D := D) (ci := 11) (v := .ref q7) (ty := .object "java/util/ArrayList") (C := RX8) (T := TX8) (N := 12) hx hb hts inAX8 tyX8 tyX8_ok nmX8 hown hK hP hD hS 0 rfl rfl 2 (by decide) (hts _ q328) (fun _ h9 => h9) rfl hnm rfl (tyX8_ok 2 (by decide)) rfl rfl (Nat.le_of_ble_eq_true rfl) dX8_init_34 (fun H locs hP hD hS => ?_)
  have hP : va_P D vwCl [(h, .inr (11, [.ref q1, .ref q4, .ref q7, .null, .null, .null, .null, .null, .null, .int 0, .int 0, .int 0])), (q1, .inr (2, [.int 0, .ref E, .int 0])), (q4, .inr (2, [.int 0, .ref E, .int 0])), (q7, .inr (2, [.int 0, .ref E, .int 0]))] H := hP
  have hD : va_D A [(h, .inr (11, [.ref q1, .ref q4, .ref q7, .null, .null, .null, .null, .null, .null, .int 0, .int 0, .int 0])), (q1, .inr (2, [.int 0, .ref E, .int 0])), (q4, .inr (2, [.int 0, .ref E, .int 0])), (q7, .inr (2, [.int 0, .ref E, .int 0]))] := hD
  refine lv_aload_n hx hb dX8_init_37 rfl (lv_at hl 0 rfl) ?_
  refine va_new (ci := 2) (fs := [.int 0, .null, .int 0]) (C := RJx4a65c) (T := TJx4a65c) (N := 3) hx hb hts inAJx4a65c tyJx4a65c tyJx4a65c_ok hown (hts _ q320) (hts _ q321) (hts _ q322) hK hP hD hS hA rfl fsNJx4a65c (Nat.le_of_ble_eq_true rfl) (Nat.le_of_ble_eq_true rfl) dX8_init_38 (fun q10 H hP hD hS => ?_)
  have hP : va_P D vwCl [(h, .inr (11, [.ref q1, .ref q4, .ref q7, .null, .null, .null, .null, .null, .null, .int 0, .int 0, .int 0])), (q1, .inr (2, [.int 0, .ref E, .int 0])), (q4, .inr (2, [.int 0, .ref E, .int 0])), (q7, .inr (2, [.int 0, .ref E, .int 0])), (q10, .inr (2, [.int 0, .null, .int 0]))] H := hP
  have hD : va_D A [(h, .inr (11, [.ref q1, .ref q4, .ref q7, .null, .null, .null, .null, .null, .null, .int 0, .int 0, .int 0])), (q1, .inr (2, [.int 0, .ref E, .int 0])), (q4, .inr (2, [.int 0, .ref E, .int 0])), (q7, .inr (2, [.int 0, .ref E, .int 0])), (q10, .inr (2, [.int 0, .null, .int 0]))] := hD
  refine W.widen (k := 4) (n := 12) (Nat.le_of_ble_eq_true rfl) (Nat.le_of_ble_eq_true rfl) ?_
  refine lv_dup hx hb dX8_init_41 rfl ?_
  have hPc := hP.sub (ws' := [(q10, .inr (2, [.int 0, .null, .int 0]))]) [4] rfl
  have hDc := hD.sub (ws' := [(q10, .inr (2, [.int 0, .null, .int 0]))]) [4] (by decide) rfl
  have hFc := va_free (wc := [(q10, .inr (2, [.int 0, .null, .int 0]))]) hD hS hA [4] rfl
  refine va_callv (va_runI (As := []) (rest := [.ref q10, .ref h]) ⟨hx, hb, hml, hown, hts⟩ (i_list l D dA E q10 H.size ) (cwI 0 hts (ga_I q323) rfl rfl rfl (hts _ q322) (hts _ q324) (hts _ q325) rfl (by decide +kernel) ⟨(Nat.le_of_ble_eq_true rfl), (Nat.le_of_ble_eq_true rfl)⟩) ⟨pb_blind, pb_pre hK hPc hDc hZ hS hFc _⟩ rfl rfl hl.1 rfl (lv_room (Nat.le_of_ble_eq_true rfl)) dX8_init_42 ⟨(Nat.le_of_ble_eq_true rfl), (Nat.le_of_ble_eq_true rfl)⟩) hS (fun q _ h => hFc q h) hFc (fun u t H1 locs ht hvm hw hB hz1 hk1 hS => ?_)
  refine W.widen (k := 4) (n := 12) (Nat.le_of_ble_eq_true rfl) (Nat.le_of_ble_eq_true rfl) ?_
  obtain ⟨u11, rfl⟩ : ∃ z, z = u := ⟨_, rfl⟩
  have hw12 := hw
  clear hw
  obtain ⟨hP1, hD1⟩ := hB
  rw [ht] at hP1
  obtain ⟨hP, hD⟩ := va_join (wr := [(h, .inr (11, [.ref q1, .ref q4, .ref q7, .null, .null, .null, .null, .null, .null, .int 0, .int 0, .int 0])), (q1, .inr (2, [.int 0, .ref E, .int 0])), (q4, .inr (2, [.int 0, .ref E, .int 0])), (q7, .inr (2, [.int 0, .ref E, .int 0]))]) (w1 := [(q10, .inr (2, [.int 0, .ref E, .int 0]))]) hP hD [4] [0, 1, 2, 3] rfl rfl (by decide) (by decide) hk1 hFc hP1 hD1
  generalize H1 = H at hP hS ⊢
  have hP : va_P D vwCl [(h, .inr (11, [.ref q1, .ref q4, .ref q7, .null, .null, .null, .null, .null, .null, .int 0, .int 0, .int 0])), (q1, .inr (2, [.int 0, .ref E, .int 0])), (q4, .inr (2, [.int 0, .ref E, .int 0])), (q7, .inr (2, [.int 0, .ref E, .int 0])), (q10, .inr (2, [.int 0, .ref E, .int 0]))] H := hP
  have hD : va_D A [(h, .inr (11, [.ref q1, .ref q4, .ref q7, .null, .null, .null, .null, .null, .null, .int 0, .int 0, .int 0])), (q1, .inr (2, [.int 0, .ref E, .int 0])), (q4, .inr (2, [.int 0, .ref E, .int 0])), (q7, .inr (2, [.int 0, .ref E, .int 0])), (q10, .inr (2, [.int 0, .ref E, .int 0]))] := hD
  refine va_putF (D := D) (ci := 11) (v := .ref q10) (ty := .object "java/util/ArrayList") (C := RX8) (T := TX8) (N := 12) hx hb hts inAX8 tyX8 tyX8_ok nmX8 hown hK hP hD hS 0 rfl rfl 3 (by decide) (hts _ q329) (fun _ h9 => h9) rfl hnm rfl (tyX8_ok 3 (by decide)) rfl rfl (Nat.le_of_ble_eq_true rfl) dX8_init_45 (fun H locs hP hD hS => ?_)
  have hP : va_P D vwCl [(h, .inr (11, [.ref q1, .ref q4, .ref q7, .ref q10, .null, .null, .null, .null, .null, .int 0, .int 0, .int 0])), (q1, .inr (2, [.int 0, .ref E, .int 0])), (q4, .inr (2, [.int 0, .ref E, .int 0])), (q7, .inr (2, [.int 0, .ref E, .int 0])), (q10, .inr (2, [.int 0, .ref E, .int 0]))] H := hP
  have hD : va_D A [(h, .inr (11, [.ref q1, .ref q4, .ref q7, .ref q10, .null, .null, .null, .null, .null, .int 0, .int 0, .int 0])), (q1, .inr (2, [.int 0, .ref E, .int 0])), (q4, .inr (2, [.int 0, .ref E, .int 0])), (q7, .inr (2, [.int 0, .ref E, .int 0])), (q10, .inr (2, [.int 0, .ref E, .int 0]))] := hD
  refine lv_aload_n hx hb dX8_init_48 rfl (lv_at hl 0 rfl) ?_
  refine va_new (ci := 7) (fs := [.null, .null, .int 0, .int 0]) (C := RX4) (T := TX4) (N := 4) hx hb hts inAX4 tyX4 tyX4_ok hown (hts _ q330) (hts _ q331) (hts _ q241) hK hP hD hS hA rfl fsNX4 (Nat.le_of_ble_eq_true rfl) (Nat.le_of_ble_eq_true rfl) dX8_init_49 (fun q13 H hP hD hS => ?_)
  have hP : va_P D vwCl [(h, .inr (11, [.ref q1, .ref q4, .ref q7, .ref q10, .null, .null, .null, .null, .null, .int 0, .int 0, .int 0])), (q1, .inr (2, [.int 0, .ref E, .int 0])), (q4, .inr (2, [.int 0, .ref E, .int 0])), (q7, .inr (2, [.int 0, .ref E, .int 0])), (q10, .inr (2, [.int 0, .ref E, .int 0])), (q13, .inr (7, [.null, .null, .int 0, .int 0]))] H := hP
  have hD : va_D A [(h, .inr (11, [.ref q1, .ref q4, .ref q7, .ref q10, .null, .null, .null, .null, .null, .int 0, .int 0, .int 0])), (q1, .inr (2, [.int 0, .ref E, .int 0])), (q4, .inr (2, [.int 0, .ref E, .int 0])), (q7, .inr (2, [.int 0, .ref E, .int 0])), (q10, .inr (2, [.int 0, .ref E, .int 0])), (q13, .inr (7, [.null, .null, .int 0, .int 0]))] := hD
  refine W.widen (k := 5) (n := 16) (Nat.le_of_ble_eq_true rfl) (Nat.le_of_ble_eq_true rfl) ?_
  refine lv_dup hx hb dX8_init_52 rfl ?_
  have hPc := hP.sub (ws' := [(q13, .inr (7, [.null, .null, .int 0, .int 0]))]) [5] rfl
  have hDc := hD.sub (ws' := [(q13, .inr (7, [.null, .null, .int 0, .int 0]))]) [5] (by decide) rfl
  have hFc := va_free (wc := [(q13, .inr (7, [.null, .null, .int 0, .int 0]))]) hD hS hA [5] rfl
  refine va_callv (va_runIN (As := []) (rest := [.ref q13, .ref h]) ⟨hx, hb, hml, hown, hts⟩ (i_Shelf l D dA E q13 H.size ) ⟨(va_cnB (host := "TallowIndex") 0 hts (ga_I q332) rfl rfl rfl (hZ.1.2.2.2.1 _ (List.mem_of_getElem? (i := 0) rfl)) (hts _ q241) (by decide +kernel) ⟨(Nat.le_of_ble_eq_true rfl), (Nat.le_of_ble_eq_true rfl)⟩), rfl, hts _ q333⟩ ⟨pb_blind, pb_pre hK hPc hDc hZ hS hFc _⟩ rfl rfl hl.1 rfl (lv_room (Nat.le_of_ble_eq_true rfl)) dX8_init_53 ⟨(Nat.le_of_ble_eq_true rfl), (Nat.le_of_ble_eq_true rfl)⟩) hS (fun q _ h => hFc q h) hFc (fun u t H1 locs ht hvm hw hB hz1 hk1 hS => ?_)
  refine W.widen (k := 9) (n := 78) (Nat.le_of_ble_eq_true rfl) (Nat.le_of_ble_eq_true rfl) ?_
  obtain ⟨u14, rfl⟩ : ∃ z, z = u := ⟨_, rfl⟩
  have hw15 := hw
  clear hw
  obtain ⟨hP1, hD1⟩ := hB
  rw [ht] at hP1
  obtain ⟨hP, hD⟩ := va_join (wr := [(h, .inr (11, [.ref q1, .ref q4, .ref q7, .ref q10, .null, .null, .null, .null, .null, .int 0, .int 0, .int 0])), (q1, .inr (2, [.int 0, .ref E, .int 0])), (q4, .inr (2, [.int 0, .ref E, .int 0])), (q7, .inr (2, [.int 0, .ref E, .int 0])), (q10, .inr (2, [.int 0, .ref E, .int 0]))]) (w1 := [(u14 0, .inr (7, [.ref (u14 1), .ref (u14 3), .int 0, .int 0])), (u14 1, .inr (5, [.ref (u14 2)])), (u14 2, .inl (dA 0, 30, .inl (fun _ => 0))), (u14 3, .inr (5, [.ref (u14 4)])), (u14 4, .inl (dA 0, 30, .inl (fun _ => 0)))]) hP hD [5] [0, 1, 2, 3, 4] rfl rfl (by decide) (by decide) hk1 hFc hP1 hD1
  generalize H1 = H at hP hS ⊢
  have hP : va_P D vwCl [(h, .inr (11, [.ref q1, .ref q4, .ref q7, .ref q10, .null, .null, .null, .null, .null, .int 0, .int 0, .int 0])), (q1, .inr (2, [.int 0, .ref E, .int 0])), (q4, .inr (2, [.int 0, .ref E, .int 0])), (q7, .inr (2, [.int 0, .ref E, .int 0])), (q10, .inr (2, [.int 0, .ref E, .int 0])), (u14 0, .inr (7, [.ref (u14 1), .ref (u14 3), .int 0, .int 0])), (u14 1, .inr (5, [.ref (u14 2)])), (u14 2, .inl (dA 0, 30, .inl (fun _ => 0))), (u14 3, .inr (5, [.ref (u14 4)])), (u14 4, .inl (dA 0, 30, .inl (fun _ => 0)))] H := hP
  have hD : va_D A [(h, .inr (11, [.ref q1, .ref q4, .ref q7, .ref q10, .null, .null, .null, .null, .null, .int 0, .int 0, .int 0])), (q1, .inr (2, [.int 0, .ref E, .int 0])), (q4, .inr (2, [.int 0, .ref E, .int 0])), (q7, .inr (2, [.int 0, .ref E, .int 0])), (q10, .inr (2, [.int 0, .ref E, .int 0])), (u14 0, .inr (7, [.ref (u14 1), .ref (u14 3), .int 0, .int 0])), (u14 1, .inr (5, [.ref (u14 2)])), (u14 2, .inl (dA 0, 30, .inl (fun _ => 0))), (u14 3, .inr (5, [.ref (u14 4)])), (u14 4, .inl (dA 0, 30, .inl (fun _ => 0)))] := hD
  rw [hw15] at hP hD
  have hP : va_P D vwCl [(h, .inr (11, [.ref q1, .ref q4, .ref q7, .ref q10, .null, .null, .null, .null, .null, .int 0, .int 0, .int 0])), (q1, .inr (2, [.int 0, .ref E, .int 0])), (q4, .inr (2, [.int 0, .ref E, .int 0])), (q7, .inr (2, [.int 0, .ref E, .int 0])), (q10, .inr (2, [.int 0, .ref E, .int 0])), (q13, .inr (7, [.ref (u14 1), .ref (u14 3), .int 0, .int 0])), (u14 1, .inr (5, [.ref (u14 2)])), (u14 2, .inl (dA 0, 30, .inl (fun _ => 0))), (u14 3, .inr (5, [.ref (u14 4)])), (u14 4, .inl (dA 0, 30, .inl (fun _ => 0)))] H := hP
  have hD : va_D A [(h, .inr (11, [.ref q1, .ref q4, .ref q7, .ref q10, .null, .null, .null, .null, .null, .int 0, .int 0, .int 0])), (q1, .inr (2, [.int 0, .ref E, .int 0])), (q4, .inr (2, [.int 0, .ref E, .int 0])), (q7, .inr (2, [.int 0, .ref E, .int 0])), (q10, .inr (2, [.int 0, .ref E, .int 0])), (q13, .inr (7, [.ref (u14 1), .ref (u14 3), .int 0, .int 0])), (u14 1, .inr (5, [.ref (u14 2)])), (u14 2, .inl (dA 0, 30, .inl (fun _ => 0))), (u14 3, .inr (5, [.ref (u14 4)])), (u14 4, .inl (dA 0, 30, .inl (fun _ => 0)))] := hD
  clear hw15
  refine va_putF (D := D) (ci := 11) (v := .ref q13) (ty := .object "TallowIndex$Shelf") (C := RX8) (T := TX8) (N := 12) hx hb hts inAX8 tyX8 tyX8_ok nmX8 hown hK hP hD hS 0 rfl rfl 4 (by decide) (hts _ q334) (fun _ h9 => h9) rfl hnm rfl (tyX8_ok 4 (by decide)) rfl rfl (Nat.le_of_ble_eq_true rfl) dX8_init_56 (fun H locs hP hD hS => ?_)
  have hP : va_P D vwCl [(h, .inr (11, [.ref q1, .ref q4, .ref q7, .ref q10, .ref q13, .null, .null, .null, .null, .int 0, .int 0, .int 0])), (q1, .inr (2, [.int 0, .ref E, .int 0])), (q4, .inr (2, [.int 0, .ref E, .int 0])), (q7, .inr (2, [.int 0, .ref E, .int 0])), (q10, .inr (2, [.int 0, .ref E, .int 0])), (q13, .inr (7, [.ref (u14 1), .ref (u14 3), .int 0, .int 0])), (u14 1, .inr (5, [.ref (u14 2)])), (u14 2, .inl (dA 0, 30, .inl (fun _ => 0))), (u14 3, .inr (5, [.ref (u14 4)])), (u14 4, .inl (dA 0, 30, .inl (fun _ => 0)))] H := hP
  have hD : va_D A [(h, .inr (11, [.ref q1, .ref q4, .ref q7, .ref q10, .ref q13, .null, .null, .null, .null, .int 0, .int 0, .int 0])), (q1, .inr (2, [.int 0, .ref E, .int 0])), (q4, .inr (2, [.int 0, .ref E, .int 0])), (q7, .inr (2, [.int 0, .ref E, .int 0])), (q10, .inr (2, [.int 0, .ref E, .int 0])), (q13, .inr (7, [.ref (u14 1), .ref (u14 3), .int 0, .int 0])), (u14 1, .inr (5, [.ref (u14 2)])), (u14 2, .inl (dA 0, 30, .inl (fun _ => 0))), (u14 3, .inr (5, [.ref (u14 4)])), (u14 4, .inl (dA 0, 30, .inl (fun _ => 0)))] := hD
  refine lv_aload_n hx hb dX8_init_59 rfl (lv_at hl 0 rfl) ?_
  refine va_new (ci := 7) (fs := [.null, .null, .int 0, .int 0]) (C := RX4) (T := TX4) (N := 4) hx hb hts inAX4 tyX4 tyX4_ok hown (hts _ q330) (hts _ q331) (hts _ q241) hK hP hD hS hA rfl fsNX4 (Nat.le_of_ble_eq_true rfl) (Nat.le_of_ble_eq_true rfl) dX8_init_60 (fun q16 H hP hD hS => ?_)
  have hP : va_P D vwCl [(h, .inr (11, [.ref q1, .ref q4, .ref q7, .ref q10, .ref q13, .null, .null, .null, .null, .int 0, .int 0, .int 0])), (q1, .inr (2, [.int 0, .ref E, .int 0])), (q4, .inr (2, [.int 0, .ref E, .int 0])), (q7, .inr (2, [.int 0, .ref E, .int 0])), (q10, .inr (2, [.int 0, .ref E, .int 0])), (q13, .inr (7, [.ref (u14 1), .ref (u14 3), .int 0, .int 0])), (u14 1, .inr (5, [.ref (u14 2)])), (u14 2, .inl (dA 0, 30, .inl (fun _ => 0))), (u14 3, .inr (5, [.ref (u14 4)])), (u14 4, .inl (dA 0, 30, .inl (fun _ => 0))), (q16, .inr (7, [.null, .null, .int 0, .int 0]))] H := hP
  have hD : va_D A [(h, .inr (11, [.ref q1, .ref q4, .ref q7, .ref q10, .ref q13, .null, .null, .null, .null, .int 0, .int 0, .int 0])), (q1, .inr (2, [.int 0, .ref E, .int 0])), (q4, .inr (2, [.int 0, .ref E, .int 0])), (q7, .inr (2, [.int 0, .ref E, .int 0])), (q10, .inr (2, [.int 0, .ref E, .int 0])), (q13, .inr (7, [.ref (u14 1), .ref (u14 3), .int 0, .int 0])), (u14 1, .inr (5, [.ref (u14 2)])), (u14 2, .inl (dA 0, 30, .inl (fun _ => 0))), (u14 3, .inr (5, [.ref (u14 4)])), (u14 4, .inl (dA 0, 30, .inl (fun _ => 0))), (q16, .inr (7, [.null, .null, .int 0, .int 0]))] := hD
  refine W.widen (k := 10) (n := 82) (Nat.le_of_ble_eq_true rfl) (Nat.le_of_ble_eq_true rfl) ?_
  refine lv_dup hx hb dX8_init_63 rfl ?_
  have hPc := hP.sub (ws' := [(q16, .inr (7, [.null, .null, .int 0, .int 0]))]) [10] rfl
  have hDc := hD.sub (ws' := [(q16, .inr (7, [.null, .null, .int 0, .int 0]))]) [10] (by decide) rfl
  have hFc := va_free (wc := [(q16, .inr (7, [.null, .null, .int 0, .int 0]))]) hD hS hA [10] rfl
  refine va_callv (va_runIN (As := []) (rest := [.ref q16, .ref h]) ⟨hx, hb, hml, hown, hts⟩ (i_Shelf l D dA E q16 H.size ) ⟨(va_cnB (host := "TallowIndex") 0 hts (ga_I q332) rfl rfl rfl (hZ.1.2.2.2.1 _ (List.mem_of_getElem? (i := 0) rfl)) (hts _ q241) (by decide +kernel) ⟨(Nat.le_of_ble_eq_true rfl), (Nat.le_of_ble_eq_true rfl)⟩), rfl, hts _ q333⟩ ⟨pb_blind, pb_pre hK hPc hDc hZ hS hFc _⟩ rfl rfl hl.1 rfl (lv_room (Nat.le_of_ble_eq_true rfl)) dX8_init_64 ⟨(Nat.le_of_ble_eq_true rfl), (Nat.le_of_ble_eq_true rfl)⟩) hS (fun q _ h => hFc q h) hFc (fun u t H1 locs ht hvm hw hB hz1 hk1 hS => ?_)
  refine W.widen (k := 14) (n := 144) (Nat.le_of_ble_eq_true rfl) (Nat.le_of_ble_eq_true rfl) ?_
  obtain ⟨u17, rfl⟩ : ∃ z, z = u := ⟨_, rfl⟩
  have hw18 := hw
  clear hw
  obtain ⟨hP1, hD1⟩ := hB
  rw [ht] at hP1
  obtain ⟨hP, hD⟩ := va_join (wr := [(h, .inr (11, [.ref q1, .ref q4, .ref q7, .ref q10, .ref q13, .null, .null, .null, .null, .int 0, .int 0, .int 0])), (q1, .inr (2, [.int 0, .ref E, .int 0])), (q4, .inr (2, [.int 0, .ref E, .int 0])), (q7, .inr (2, [.int 0, .ref E, .int 0])), (q10, .inr (2, [.int 0, .ref E, .int 0])), (q13, .inr (7, [.ref (u14 1), .ref (u14 3), .int 0, .int 0])), (u14 1, .inr (5, [.ref (u14 2)])), (u14 2, .inl (dA 0, 30, .inl (fun _ => 0))), (u14 3, .inr (5, [.ref (u14 4)])), (u14 4, .inl (dA 0, 30, .inl (fun _ => 0)))]) (w1 := [(u17 0, .inr (7, [.ref (u17 1), .ref (u17 3), .int 0, .int 0])), (u17 1, .inr (5, [.ref (u17 2)])), (u17 2, .inl (dA 0, 30, .inl (fun _ => 0))), (u17 3, .inr (5, [.ref (u17 4)])), (u17 4, .inl (dA 0, 30, .inl (fun _ => 0)))]) hP hD [10] [0, 1, 2, 3, 4, 5, 6, 7, 8, 9] rfl rfl (by decide) (by decide) hk1 hFc hP1 hD1
  generalize H1 = H at hP hS ⊢
  have hP : va_P D vwCl [(h, .inr (11, [.ref q1, .ref q4, .ref q7, .ref q10, .ref q13, .null, .null, .null, .null, .int 0, .int 0, .int 0])), (q1, .inr (2, [.int 0, .ref E, .int 0])), (q4, .inr (2, [.int 0, .ref E, .int 0])), (q7, .inr (2, [.int 0, .ref E, .int 0])), (q10, .inr (2, [.int 0, .ref E, .int 0])), (q13, .inr (7, [.ref (u14 1), .ref (u14 3), .int 0, .int 0])), (u14 1, .inr (5, [.ref (u14 2)])), (u14 2, .inl (dA 0, 30, .inl (fun _ => 0))), (u14 3, .inr (5, [.ref (u14 4)])), (u14 4, .inl (dA 0, 30, .inl (fun _ => 0))), (u17 0, .inr (7, [.ref (u17 1), .ref (u17 3), .int 0, .int 0])), (u17 1, .inr (5, [.ref (u17 2)])), (u17 2, .inl (dA 0, 30, .inl (fun _ => 0))), (u17 3, .inr (5, [.ref (u17 4)])), (u17 4, .inl (dA 0, 30, .inl (fun _ => 0)))] H := hP
  have hD : va_D A [(h, .inr (11, [.ref q1, .ref q4, .ref q7, .ref q10, .ref q13, .null, .null, .null, .null, .int 0, .int 0, .int 0])), (q1, .inr (2, [.int 0, .ref E, .int 0])), (q4, .inr (2, [.int 0, .ref E, .int 0])), (q7, .inr (2, [.int 0, .ref E, .int 0])), (q10, .inr (2, [.int 0, .ref E, .int 0])), (q13, .inr (7, [.ref (u14 1), .ref (u14 3), .int 0, .int 0])), (u14 1, .inr (5, [.ref (u14 2)])), (u14 2, .inl (dA 0, 30, .inl (fun _ => 0))), (u14 3, .inr (5, [.ref (u14 4)])), (u14 4, .inl (dA 0, 30, .inl (fun _ => 0))), (u17 0, .inr (7, [.ref (u17 1), .ref (u17 3), .int 0, .int 0])), (u17 1, .inr (5, [.ref (u17 2)])), (u17 2, .inl (dA 0, 30, .inl (fun _ => 0))), (u17 3, .inr (5, [.ref (u17 4)])), (u17 4, .inl (dA 0, 30, .inl (fun _ => 0)))] := hD
  rw [hw18] at hP hD
  have hP : va_P D vwCl [(h, .inr (11, [.ref q1, .ref q4, .ref q7, .ref q10, .ref q13, .null, .null, .null, .null, .int 0, .int 0, .int 0])), (q1, .inr (2, [.int 0, .ref E, .int 0])), (q4, .inr (2, [.int 0, .ref E, .int 0])), (q7, .inr (2, [.int 0, .ref E, .int 0])), (q10, .inr (2, [.int 0, .ref E, .int 0])), (q13, .inr (7, [.ref (u14 1), .ref (u14 3), .int 0, .int 0])), (u14 1, .inr (5, [.ref (u14 2)])), (u14 2, .inl (dA 0, 30, .inl (fun _ => 0))), (u14 3, .inr (5, [.ref (u14 4)])), (u14 4, .inl (dA 0, 30, .inl (fun _ => 0))), (q16, .inr (7, [.ref (u17 1), .ref (u17 3), .int 0, .int 0])), (u17 1, .inr (5, [.ref (u17 2)])), (u17 2, .inl (dA 0, 30, .inl (fun _ => 0))), (u17 3, .inr (5, [.ref (u17 4)])), (u17 4, .inl (dA 0, 30, .inl (fun _ => 0)))] H := hP
  have hD : va_D A [(h, .inr (11, [.ref q1, .ref q4, .ref q7, .ref q10, .ref q13, .null, .null, .null, .null, .int 0, .int 0, .int 0])), (q1, .inr (2, [.int 0, .ref E, .int 0])), (q4, .inr (2, [.int 0, .ref E, .int 0])), (q7, .inr (2, [.int 0, .ref E, .int 0])), (q10, .inr (2, [.int 0, .ref E, .int 0])), (q13, .inr (7, [.ref (u14 1), .ref (u14 3), .int 0, .int 0])), (u14 1, .inr (5, [.ref (u14 2)])), (u14 2, .inl (dA 0, 30, .inl (fun _ => 0))), (u14 3, .inr (5, [.ref (u14 4)])), (u14 4, .inl (dA 0, 30, .inl (fun _ => 0))), (q16, .inr (7, [.ref (u17 1), .ref (u17 3), .int 0, .int 0])), (u17 1, .inr (5, [.ref (u17 2)])), (u17 2, .inl (dA 0, 30, .inl (fun _ => 0))), (u17 3, .inr (5, [.ref (u17 4)])), (u17 4, .inl (dA 0, 30, .inl (fun _ => 0)))] := hD
  clear hw18
  refine va_putF (D := D) (ci := 11) (v := .ref q16) (ty := .object "TallowIndex$Shelf") (C := RX8) (T := TX8) (N := 12) hx hb hts inAX8 tyX8 tyX8_ok nmX8 hown hK hP hD hS 0 rfl rfl 5 (by decide) (hts _ q335) (fun _ h9 => h9) rfl hnm rfl (tyX8_ok 5 (by decide)) rfl rfl (Nat.le_of_ble_eq_true rfl) dX8_init_67 (fun H locs hP hD hS => ?_)
  have hP : va_P D vwCl [(h, .inr (11, [.ref q1, .ref q4, .ref q7, .ref q10, .ref q13, .ref q16, .null, .null, .null, .int 0, .int 0, .int 0])), (q1, .inr (2, [.int 0, .ref E, .int 0])), (q4, .inr (2, [.int 0, .ref E, .int 0])), (q7, .inr (2, [.int 0, .ref E, .int 0])), (q10, .inr (2, [.int 0, .ref E, .int 0])), (q13, .inr (7, [.ref (u14 1), .ref (u14 3), .int 0, .int 0])), (u14 1, .inr (5, [.ref (u14 2)])), (u14 2, .inl (dA 0, 30, .inl (fun _ => 0))), (u14 3, .inr (5, [.ref (u14 4)])), (u14 4, .inl (dA 0, 30, .inl (fun _ => 0))), (q16, .inr (7, [.ref (u17 1), .ref (u17 3), .int 0, .int 0])), (u17 1, .inr (5, [.ref (u17 2)])), (u17 2, .inl (dA 0, 30, .inl (fun _ => 0))), (u17 3, .inr (5, [.ref (u17 4)])), (u17 4, .inl (dA 0, 30, .inl (fun _ => 0)))] H := hP
  have hD : va_D A [(h, .inr (11, [.ref q1, .ref q4, .ref q7, .ref q10, .ref q13, .ref q16, .null, .null, .null, .int 0, .int 0, .int 0])), (q1, .inr (2, [.int 0, .ref E, .int 0])), (q4, .inr (2, [.int 0, .ref E, .int 0])), (q7, .inr (2, [.int 0, .ref E, .int 0])), (q10, .inr (2, [.int 0, .ref E, .int 0])), (q13, .inr (7, [.ref (u14 1), .ref (u14 3), .int 0, .int 0])), (u14 1, .inr (5, [.ref (u14 2)])), (u14 2, .inl (dA 0, 30, .inl (fun _ => 0))), (u14 3, .inr (5, [.ref (u14 4)])), (u14 4, .inl (dA 0, 30, .inl (fun _ => 0))), (q16, .inr (7, [.ref (u17 1), .ref (u17 3), .int 0, .int 0])), (u17 1, .inr (5, [.ref (u17 2)])), (u17 2, .inl (dA 0, 30, .inl (fun _ => 0))), (u17 3, .inr (5, [.ref (u17 4)])), (u17 4, .inl (dA 0, 30, .inl (fun _ => 0)))] := hD
  refine lv_aload_n hx hb dX8_init_70 rfl (lv_at hl 0 rfl) ?_
  refine va_new (ci := 5) (fs := [.null]) (C := RX2) (T := TX2) (N := 1) hx hb hts inAX2 tyX2 tyX2_ok hown (hts _ q336) (hts _ q280) (hts _ q204) hK hP hD hS hA rfl fsNX2 (Nat.le_of_ble_eq_true rfl) (Nat.le_of_ble_eq_true rfl) dX8_init_71 (fun q19 H hP hD hS => ?_)
  have hP : va_P D vwCl [(h, .inr (11, [.ref q1, .ref q4, .ref q7, .ref q10, .ref q13, .ref q16, .null, .null, .null, .int 0, .int 0, .int 0])), (q1, .inr (2, [.int 0, .ref E, .int 0])), (q4, .inr (2, [.int 0, .ref E, .int 0])), (q7, .inr (2, [.int 0, .ref E, .int 0])), (q10, .inr (2, [.int 0, .ref E, .int 0])), (q13, .inr (7, [.ref (u14 1), .ref (u14 3), .int 0, .int 0])), (u14 1, .inr (5, [.ref (u14 2)])), (u14 2, .inl (dA 0, 30, .inl (fun _ => 0))), (u14 3, .inr (5, [.ref (u14 4)])), (u14 4, .inl (dA 0, 30, .inl (fun _ => 0))), (q16, .inr (7, [.ref (u17 1), .ref (u17 3), .int 0, .int 0])), (u17 1, .inr (5, [.ref (u17 2)])), (u17 2, .inl (dA 0, 30, .inl (fun _ => 0))), (u17 3, .inr (5, [.ref (u17 4)])), (u17 4, .inl (dA 0, 30, .inl (fun _ => 0))), (q19, .inr (5, [.null]))] H := hP
  have hD : va_D A [(h, .inr (11, [.ref q1, .ref q4, .ref q7, .ref q10, .ref q13, .ref q16, .null, .null, .null, .int 0, .int 0, .int 0])), (q1, .inr (2, [.int 0, .ref E, .int 0])), (q4, .inr (2, [.int 0, .ref E, .int 0])), (q7, .inr (2, [.int 0, .ref E, .int 0])), (q10, .inr (2, [.int 0, .ref E, .int 0])), (q13, .inr (7, [.ref (u14 1), .ref (u14 3), .int 0, .int 0])), (u14 1, .inr (5, [.ref (u14 2)])), (u14 2, .inl (dA 0, 30, .inl (fun _ => 0))), (u14 3, .inr (5, [.ref (u14 4)])), (u14 4, .inl (dA 0, 30, .inl (fun _ => 0))), (q16, .inr (7, [.ref (u17 1), .ref (u17 3), .int 0, .int 0])), (u17 1, .inr (5, [.ref (u17 2)])), (u17 2, .inl (dA 0, 30, .inl (fun _ => 0))), (u17 3, .inr (5, [.ref (u17 4)])), (u17 4, .inl (dA 0, 30, .inl (fun _ => 0))), (q19, .inr (5, [.null]))] := hD
  refine W.widen (k := 15) (n := 145) (Nat.le_of_ble_eq_true rfl) (Nat.le_of_ble_eq_true rfl) ?_
  refine lv_dup hx hb dX8_init_74 rfl ?_
  refine lv_bipush (v := 30) hx hb dX8_init_75 (by decide) ?_
  have hPc := hP.sub (ws' := [(q19, .inr (5, [.null]))]) [15] rfl
  have hDc := hD.sub (ws' := [(q19, .inr (5, [.null]))]) [15] (by decide) rfl
  have hFc := va_free (wc := [(q19, .inr (5, [.null]))]) hD hS hA [15] rfl
  refine va_callv (va_runI (As := [.int 30]) (rest := [.ref q19, .ref h]) ⟨hx, hb, hml, hown, hts⟩ (i_Row_30 l D dA E q19 H.size ) (cwI 1 hts (ga_I q281) rfl rfl rfl (hts _ q204) (hts _ q337) (hts _ q283) rfl (by decide +kernel) ⟨(Nat.le_of_ble_eq_true rfl), (Nat.le_of_ble_eq_true rfl)⟩) ⟨pb_blind, pb_pre hK hPc hDc hZ hS hFc _⟩ rfl rfl hl.1 rfl (lv_room (Nat.le_of_ble_eq_true rfl)) dX8_init_77 ⟨(Nat.le_of_ble_eq_true rfl), (Nat.le_of_ble_eq_true rfl)⟩) hS (fun q _ h => hFc q h) hFc (fun u t H1 locs ht hvm hw hB hz1 hk1 hS => ?_)
  refine W.widen (k := 16) (n := 175) (Nat.le_of_ble_eq_true rfl) (Nat.le_of_ble_eq_true rfl) ?_
  obtain ⟨u20, rfl⟩ : ∃ z, z = u := ⟨_, rfl⟩
  have hw21 := hw
  clear hw
  obtain ⟨hP1, hD1⟩ := hB
  rw [ht] at hP1
  obtain ⟨hP, hD⟩ := va_join (wr := [(h, .inr (11, [.ref q1, .ref q4, .ref q7, .ref q10, .ref q13, .ref q16, .null, .null, .null, .int 0, .int 0, .int 0])), (q1, .inr (2, [.int 0, .ref E, .int 0])), (q4, .inr (2, [.int 0, .ref E, .int 0])), (q7, .inr (2, [.int 0, .ref E, .int 0])), (q10, .inr (2, [.int 0, .ref E, .int 0])), (q13, .inr (7, [.ref (u14 1), .ref (u14 3), .int 0, .int 0])), (u14 1, .inr (5, [.ref (u14 2)])), (u14 2, .inl (dA 0, 30, .inl (fun _ => 0))), (u14 3, .inr (5, [.ref (u14 4)])), (u14 4, .inl (dA 0, 30, .inl (fun _ => 0))), (q16, .inr (7, [.ref (u17 1), .ref (u17 3), .int 0, .int 0])), (u17 1, .inr (5, [.ref (u17 2)])), (u17 2, .inl (dA 0, 30, .inl (fun _ => 0))), (u17 3, .inr (5, [.ref (u17 4)])), (u17 4, .inl (dA 0, 30, .inl (fun _ => 0)))]) (w1 := [(q19, .inr (5, [.ref u20])), (u20, .inl (dA 0, 30, .inl (fun _ => 0)))]) hP hD [15] [0, 1, 2, 3, 4, 5, 6, 7, 8, 9, 10, 11, 12, 13, 14] rfl rfl (by decide) (by decide) hk1 hFc hP1 hD1
  generalize H1 = H at hP hS ⊢
  have hP : va_P D vwCl [(h, .inr (11, [.ref q1, .ref q4, .ref q7, .ref q10, .ref q13, .ref q16, .null, .null, .null, .int 0, .int 0, .int 0])), (q1, .inr (2, [.int 0, .ref E, .int 0])), (q4, .inr (2, [.int 0, .ref E, .int 0])), (q7, .inr (2, [.int 0, .ref E, .int 0])), (q10, .inr (2, [.int 0, .ref E, .int 0])), (q13, .inr (7, [.ref (u14 1), .ref (u14 3), .int 0, .int 0])), (u14 1, .inr (5, [.ref (u14 2)])), (u14 2, .inl (dA 0, 30, .inl (fun _ => 0))), (u14 3, .inr (5, [.ref (u14 4)])), (u14 4, .inl (dA 0, 30, .inl (fun _ => 0))), (q16, .inr (7, [.ref (u17 1), .ref (u17 3), .int 0, .int 0])), (u17 1, .inr (5, [.ref (u17 2)])), (u17 2, .inl (dA 0, 30, .inl (fun _ => 0))), (u17 3, .inr (5, [.ref (u17 4)])), (u17 4, .inl (dA 0, 30, .inl (fun _ => 0))), (q19, .inr (5, [.ref u20])), (u20, .inl (dA 0, 30, .inl (fun _ => 0)))] H := hP
  have hD : va_D A [(h, .inr (11, [.ref q1, .ref q4, .ref q7, .ref q10, .ref q13, .ref q16, .null, .null, .null, .int 0, .int 0, .int 0])), (q1, .inr (2, [.int 0, .ref E, .int 0])), (q4, .inr (2, [.int 0, .ref E, .int 0])), (q7, .inr (2, [.int 0, .ref E, .int 0])), (q10, .inr (2, [.int 0, .ref E, .int 0])), (q13, .inr (7, [.ref (u14 1), .ref (u14 3), .int 0, .int 0])), (u14 1, .inr (5, [.ref (u14 2)])), (u14 2, .inl (dA 0, 30, .inl (fun _ => 0))), (u14 3, .inr (5, [.ref (u14 4)])), (u14 4, .inl (dA 0, 30, .inl (fun _ => 0))), (q16, .inr (7, [.ref (u17 1), .ref (u17 3), .int 0, .int 0])), (u17 1, .inr (5, [.ref (u17 2)])), (u17 2, .inl (dA 0, 30, .inl (fun _ => 0))), (u17 3, .inr (5, [.ref (u17 4)])), (u17 4, .inl (dA 0, 30, .inl (fun _ => 0))), (q19, .inr (5, [.ref u20])), (u20, .inl (dA 0, 30, .inl (fun _ => 0)))] := hD
  refine va_putF (D := D) (ci := 11) (v := .ref q19) (ty := .object "TallowIndex$Row") (C := RX8) (T := TX8) (N := 12) hx hb hts inAX8 tyX8 tyX8_ok nmX8 hown hK hP hD hS 0 rfl rfl 6 (by decide) (hts _ q338) (fun _ h9 => h9) rfl hnm rfl (tyX8_ok 6 (by decide)) rfl rfl (Nat.le_of_ble_eq_true rfl) dX8_init_80 (fun H locs hP hD hS => ?_)
  have hP : va_P D vwCl [(h, .inr (11, [.ref q1, .ref q4, .ref q7, .ref q10, .ref q13, .ref q16, .ref q19, .null, .null, .int 0, .int 0, .int 0])), (q1, .inr (2, [.int 0, .ref E, .int 0])), (q4, .inr (2, [.int 0, .ref E, .int 0])), (q7, .inr (2, [.int 0, .ref E, .int 0])), (q10, .inr (2, [.int 0, .ref E, .int 0])), (q13, .inr (7, [.ref (u14 1), .ref (u14 3), .int 0, .int 0])), (u14 1, .inr (5, [.ref (u14 2)])), (u14 2, .inl (dA 0, 30, .inl (fun _ => 0))), (u14 3, .inr (5, [.ref (u14 4)])), (u14 4, .inl (dA 0, 30, .inl (fun _ => 0))), (q16, .inr (7, [.ref (u17 1), .ref (u17 3), .int 0, .int 0])), (u17 1, .inr (5, [.ref (u17 2)])), (u17 2, .inl (dA 0, 30, .inl (fun _ => 0))), (u17 3, .inr (5, [.ref (u17 4)])), (u17 4, .inl (dA 0, 30, .inl (fun _ => 0))), (q19, .inr (5, [.ref u20])), (u20, .inl (dA 0, 30, .inl (fun _ => 0)))] H := hP
  have hD : va_D A [(h, .inr (11, [.ref q1, .ref q4, .ref q7, .ref q10, .ref q13, .ref q16, .ref q19, .null, .null, .int 0, .int 0, .int 0])), (q1, .inr (2, [.int 0, .ref E, .int 0])), (q4, .inr (2, [.int 0, .ref E, .int 0])), (q7, .inr (2, [.int 0, .ref E, .int 0])), (q10, .inr (2, [.int 0, .ref E, .int 0])), (q13, .inr (7, [.ref (u14 1), .ref (u14 3), .int 0, .int 0])), (u14 1, .inr (5, [.ref (u14 2)])), (u14 2, .inl (dA 0, 30, .inl (fun _ => 0))), (u14 3, .inr (5, [.ref (u14 4)])), (u14 4, .inl (dA 0, 30, .inl (fun _ => 0))), (q16, .inr (7, [.ref (u17 1), .ref (u17 3), .int 0, .int 0])), (u17 1, .inr (5, [.ref (u17 2)])), (u17 2, .inl (dA 0, 30, .inl (fun _ => 0))), (u17 3, .inr (5, [.ref (u17 4)])), (u17 4, .inl (dA 0, 30, .inl (fun _ => 0))), (q19, .inr (5, [.ref u20])), (u20, .inl (dA 0, 30, .inl (fun _ => 0)))] := hD
  refine lv_aload_n hx hb dX8_init_83 rfl (lv_at hl 0 rfl) ?_
  refine va_new (ci := 6) (fs := [.null, .null, .null, .null, .null, .null, .int 0, .int 0]) (C := RX3) (T := TX3) (N := 8) hx hb hts inAX3 tyX3 tyX3_ok hown (hts _ q339) (hts _ q340) (hts _ q341) hK hP hD hS hA rfl fsNX3 (Nat.le_of_ble_eq_true rfl) (Nat.le_of_ble_eq_true rfl) dX8_init_84 (fun q22 H hP hD hS => ?_)
  have hP : va_P D vwCl [(h, .inr (11, [.ref q1, .ref q4, .ref q7, .ref q10, .ref q13, .ref q16, .ref q19, .null, .null, .int 0, .int 0, .int 0])), (q1, .inr (2, [.int 0, .ref E, .int 0])), (q4, .inr (2, [.int 0, .ref E, .int 0])), (q7, .inr (2, [.int 0, .ref E, .int 0])), (q10, .inr (2, [.int 0, .ref E, .int 0])), (q13, .inr (7, [.ref (u14 1), .ref (u14 3), .int 0, .int 0])), (u14 1, .inr (5, [.ref (u14 2)])), (u14 2, .inl (dA 0, 30, .inl (fun _ => 0))), (u14 3, .inr (5, [.ref (u14 4)])), (u14 4, .inl (dA 0, 30, .inl (fun _ => 0))), (q16, .inr (7, [.ref (u17 1), .ref (u17 3), .int 0, .int 0])), (u17 1, .inr (5, [.ref (u17 2)])), (u17 2, .inl (dA 0, 30, .inl (fun _ => 0))), (u17 3, .inr (5, [.ref (u17 4)])), (u17 4, .inl (dA 0, 30, .inl (fun _ => 0))), (q19, .inr (5, [.ref u20])), (u20, .inl (dA 0, 30, .inl (fun _ => 0))), (q22, .inr (6, [.null, .null, .null, .null, .null, .null, .int 0, .int 0]))] H := hP
  have hD : va_D A [(h, .inr (11, [.ref q1, .ref q4, .ref q7, .ref q10, .ref q13, .ref q16, .ref q19, .null, .null, .int 0, .int 0, .int 0])), (q1, .inr (2, [.int 0, .ref E, .int 0])), (q4, .inr (2, [.int 0, .ref E, .int 0])), (q7, .inr (2, [.int 0, .ref E, .int 0])), (q10, .inr (2, [.int 0, .ref E, .int 0])), (q13, .inr (7, [.ref (u14 1), .ref (u14 3), .int 0, .int 0])), (u14 1, .inr (5, [.ref (u14 2)])), (u14 2, .inl (dA 0, 30, .inl (fun _ => 0))), (u14 3, .inr (5, [.ref (u14 4)])), (u14 4, .inl (dA 0, 30, .inl (fun _ => 0))), (q16, .inr (7, [.ref (u17 1), .ref (u17 3), .int 0, .int 0])), (u17 1, .inr (5, [.ref (u17 2)])), (u17 2, .inl (dA 0, 30, .inl (fun _ => 0))), (u17 3, .inr (5, [.ref (u17 4)])), (u17 4, .inl (dA 0, 30, .inl (fun _ => 0))), (q19, .inr (5, [.ref u20])), (u20, .inl (dA 0, 30, .inl (fun _ => 0))), (q22, .inr (6, [.null, .null, .null, .null, .null, .null, .int 0, .int 0]))] := hD
  refine W.widen (k := 17) (n := 183) (Nat.le_of_ble_eq_true rfl) (Nat.le_of_ble_eq_true rfl) ?_
  refine lv_dup hx hb dX8_init_87 rfl ?_
  have hPc := hP.sub (ws' := [(q22, .inr (6, [.null, .null, .null, .null, .null, .null, .int 0, .int 0]))]) [17] rfl
  have hDc := hD.sub (ws' := [(q22, .inr (6, [.null, .null, .null, .null, .null, .null, .int 0, .int 0]))]) [17] (by decide) rfl
  have hFc := va_free (wc := [(q22, .inr (6, [.null, .null, .null, .null, .null, .null, .int 0, .int 0]))]) hD hS hA [17] rfl
  refine va_callv (va_runIN (As := []) (rest := [.ref q22, .ref h]) ⟨hx, hb, hml, hown, hts⟩ (i_Search l D dA E q22 H.size ) ⟨(va_cnB (host := "TallowIndex") 0 hts (ga_I q342) rfl rfl rfl (hZ.1.2.2.2.1 _ (List.mem_of_getElem? (i := 1) rfl)) (hts _ q341) (by decide +kernel) ⟨(Nat.le_of_ble_eq_true rfl), (Nat.le_of_ble_eq_true rfl)⟩), rfl, hts _ q343⟩ ⟨pb_blind, pb_pre hK hPc hDc hZ hS hFc _⟩ rfl rfl hl.1 rfl (lv_room (Nat.le_of_ble_eq_true rfl)) dX8_init_88 ⟨(Nat.le_of_ble_eq_true rfl), (Nat.le_of_ble_eq_true rfl)⟩) hS (fun q _ h => hFc q h) hFc (fun u t H1 locs ht hvm hw hB hz1 hk1 hS => ?_)
  refine W.widen (k := 29) (n := 1531) (Nat.le_of_ble_eq_true rfl) (Nat.le_of_ble_eq_true rfl) ?_
  obtain ⟨u23, rfl⟩ : ∃ z, z = u := ⟨_, rfl⟩
  have hw24 := hw
  clear hw
  obtain ⟨hP1, hD1⟩ := hB
  rw [ht] at hP1
  obtain ⟨hP, hD⟩ := va_join (wr := [(h, .inr (11, [.ref q1, .ref q4, .ref q7, .ref q10, .ref q13, .ref q16, .ref q19, .null, .null, .int 0, .int 0, .int 0])), (q1, .inr (2, [.int 0, .ref E, .int 0])), (q4, .inr (2, [.int 0, .ref E, .int 0])), (q7, .inr (2, [.int 0, .ref E, .int 0])), (q10, .inr (2, [.int 0, .ref E, .int 0])), (q13, .inr (7, [.ref (u14 1), .ref (u14 3), .int 0, .int 0])), (u14 1, .inr (5, [.ref (u14 2)])), (u14 2, .inl (dA 0, 30, .inl (fun _ => 0))), (u14 3, .inr (5, [.ref (u14 4)])), (u14 4, .inl (dA 0, 30, .inl (fun _ => 0))), (q16, .inr (7, [.ref (u17 1), .ref (u17 3), .int 0, .int 0])), (u17 1, .inr (5, [.ref (u17 2)])), (u17 2, .inl (dA 0, 30, .inl (fun _ => 0))), (u17 3, .inr (5, [.ref (u17 4)])), (u17 4, .inl (dA 0, 30, .inl (fun _ => 0))), (q19, .inr (5, [.ref u20])), (u20, .inl (dA 0, 30, .inl (fun _ => 0)))]) (w1 := [(u23 0, .inr (6, [.ref (u23 1), .ref (u23 3), .ref (u23 5), .ref (u23 7), .ref (u23 9), .ref (u23 11), .int 0, .int 0])), (u23 1, .inr (5, [.ref (u23 2)])), (u23 2, .inl (dA 0, 40, .inl (fun _ => 0))), (u23 3, .inr (5, [.ref (u23 4)])), (u23 4, .inl (dA 0, 30, .inl (fun _ => 0))), (u23 5, .inr (5, [.ref (u23 6)])), (u23 6, .inl (dA 0, 1200, .inl (fun _ => 0))), (u23 7, .inr (5, [.ref (u23 8)])), (u23 8, .inl (dA 0, 30, .inl (fun _ => 0))), (u23 9, .inr (5, [.ref (u23 10)])), (u23 10, .inl (dA 0, 30, .inl (fun _ => 0))), (u23 11, .inr (5, [.ref (u23 12)])), (u23 12, .inl (dA 0, 12, .inl (fun _ => 0)))]) hP hD [17] [0, 1, 2, 3, 4, 5, 6, 7, 8, 9, 10, 11, 12, 13, 14, 15, 16] rfl rfl (by decide) (by decide) hk1 hFc hP1 hD1
  generalize H1 = H at hP hS ⊢
  have hP : va_P D vwCl [(h, .inr (11, [.ref q1, .ref q4, .ref q7, .ref q10, .ref q13, .ref q16, .ref q19, .null, .null, .int 0, .int 0, .int 0])), (q1, .inr (2, [.int 0, .ref E, .int 0])), (q4, .inr (2, [.int 0, .ref E, .int 0])), (q7, .inr (2, [.int 0, .ref E, .int 0])), (q10, .inr (2, [.int 0, .ref E, .int 0])), (q13, .inr (7, [.ref (u14 1), .ref (u14 3), .int 0, .int 0])), (u14 1, .inr (5, [.ref (u14 2)])), (u14 2, .inl (dA 0, 30, .inl (fun _ => 0))), (u14 3, .inr (5, [.ref (u14 4)])), (u14 4, .inl (dA 0, 30, .inl (fun _ => 0))), (q16, .inr (7, [.ref (u17 1), .ref (u17 3), .int 0, .int 0])), (u17 1, .inr (5, [.ref (u17 2)])), (u17 2, .inl (dA 0, 30, .inl (fun _ => 0))), (u17 3, .inr (5, [.ref (u17 4)])), (u17 4, .inl (dA 0, 30, .inl (fun _ => 0))), (q19, .inr (5, [.ref u20])), (u20, .inl (dA 0, 30, .inl (fun _ => 0))), (u23 0, .inr (6, [.ref (u23 1), .ref (u23 3), .ref (u23 5), .ref (u23 7), .ref (u23 9), .ref (u23 11), .int 0, .int 0])), (u23 1, .inr (5, [.ref (u23 2)])), (u23 2, .inl (dA 0, 40, .inl (fun _ => 0))), (u23 3, .inr (5, [.ref (u23 4)])), (u23 4, .inl (dA 0, 30, .inl (fun _ => 0))), (u23 5, .inr (5, [.ref (u23 6)])), (u23 6, .inl (dA 0, 1200, .inl (fun _ => 0))), (u23 7, .inr (5, [.ref (u23 8)])), (u23 8, .inl (dA 0, 30, .inl (fun _ => 0))), (u23 9, .inr (5, [.ref (u23 10)])), (u23 10, .inl (dA 0, 30, .inl (fun _ => 0))), (u23 11, .inr (5, [.ref (u23 12)])), (u23 12, .inl (dA 0, 12, .inl (fun _ => 0)))] H := hP
  have hD : va_D A [(h, .inr (11, [.ref q1, .ref q4, .ref q7, .ref q10, .ref q13, .ref q16, .ref q19, .null, .null, .int 0, .int 0, .int 0])), (q1, .inr (2, [.int 0, .ref E, .int 0])), (q4, .inr (2, [.int 0, .ref E, .int 0])), (q7, .inr (2, [.int 0, .ref E, .int 0])), (q10, .inr (2, [.int 0, .ref E, .int 0])), (q13, .inr (7, [.ref (u14 1), .ref (u14 3), .int 0, .int 0])), (u14 1, .inr (5, [.ref (u14 2)])), (u14 2, .inl (dA 0, 30, .inl (fun _ => 0))), (u14 3, .inr (5, [.ref (u14 4)])), (u14 4, .inl (dA 0, 30, .inl (fun _ => 0))), (q16, .inr (7, [.ref (u17 1), .ref (u17 3), .int 0, .int 0])), (u17 1, .inr (5, [.ref (u17 2)])), (u17 2, .inl (dA 0, 30, .inl (fun _ => 0))), (u17 3, .inr (5, [.ref (u17 4)])), (u17 4, .inl (dA 0, 30, .inl (fun _ => 0))), (q19, .inr (5, [.ref u20])), (u20, .inl (dA 0, 30, .inl (fun _ => 0))), (u23 0, .inr (6, [.ref (u23 1), .ref (u23 3), .ref (u23 5), .ref (u23 7), .ref (u23 9), .ref (u23 11), .int 0, .int 0])), (u23 1, .inr (5, [.ref (u23 2)])), (u23 2, .inl (dA 0, 40, .inl (fun _ => 0))), (u23 3, .inr (5, [.ref (u23 4)])), (u23 4, .inl (dA 0, 30, .inl (fun _ => 0))), (u23 5, .inr (5, [.ref (u23 6)])), (u23 6, .inl (dA 0, 1200, .inl (fun _ => 0))), (u23 7, .inr (5, [.ref (u23 8)])), (u23 8, .inl (dA 0, 30, .inl (fun _ => 0))), (u23 9, .inr (5, [.ref (u23 10)])), (u23 10, .inl (dA 0, 30, .inl (fun _ => 0))), (u23 11, .inr (5, [.ref (u23 12)])), (u23 12, .inl (dA 0, 12, .inl (fun _ => 0)))] := hD
  rw [hw24] at hP hD
  have hP : va_P D vwCl [(h, .inr (11, [.ref q1, .ref q4, .ref q7, .ref q10, .ref q13, .ref q16, .ref q19, .null, .null, .int 0, .int 0, .int 0])), (q1, .inr (2, [.int 0, .ref E, .int 0])), (q4, .inr (2, [.int 0, .ref E, .int 0])), (q7, .inr (2, [.int 0, .ref E, .int 0])), (q10, .inr (2, [.int 0, .ref E, .int 0])), (q13, .inr (7, [.ref (u14 1), .ref (u14 3), .int 0, .int 0])), (u14 1, .inr (5, [.ref (u14 2)])), (u14 2, .inl (dA 0, 30, .inl (fun _ => 0))), (u14 3, .inr (5, [.ref (u14 4)])), (u14 4, .inl (dA 0, 30, .inl (fun _ => 0))), (q16, .inr (7, [.ref (u17 1), .ref (u17 3), .int 0, .int 0])), (u17 1, .inr (5, [.ref (u17 2)])), (u17 2, .inl (dA 0, 30, .inl (fun _ => 0))), (u17 3, .inr (5, [.ref (u17 4)])), (u17 4, .inl (dA 0, 30, .inl (fun _ => 0))), (q19, .inr (5, [.ref u20])), (u20, .inl (dA 0, 30, .inl (fun _ => 0))), (q22, .inr (6, [.ref (u23 1), .ref (u23 3), .ref (u23 5), .ref (u23 7), .ref (u23 9), .ref (u23 11), .int 0, .int 0])), (u23 1, .inr (5, [.ref (u23 2)])), (u23 2, .inl (dA 0, 40, .inl (fun _ => 0))), (u23 3, .inr (5, [.ref (u23 4)])), (u23 4, .inl (dA 0, 30, .inl (fun _ => 0))), (u23 5, .inr (5, [.ref (u23 6)])), (u23 6, .inl (dA 0, 1200, .inl (fun _ => 0))), (u23 7, .inr (5, [.ref (u23 8)])), (u23 8, .inl (dA 0, 30, .inl (fun _ => 0))), (u23 9, .inr (5, [.ref (u23 10)])), (u23 10, .inl (dA 0, 30, .inl (fun _ => 0))), (u23 11, .inr (5, [.ref (u23 12)])), (u23 12, .inl (dA 0, 12, .inl (fun _ => 0)))] H := hP
  have hD : va_D A [(h, .inr (11, [.ref q1, .ref q4, .ref q7, .ref q10, .ref q13, .ref q16, .ref q19, .null, .null, .int 0, .int 0, .int 0])), (q1, .inr (2, [.int 0, .ref E, .int 0])), (q4, .inr (2, [.int 0, .ref E, .int 0])), (q7, .inr (2, [.int 0, .ref E, .int 0])), (q10, .inr (2, [.int 0, .ref E, .int 0])), (q13, .inr (7, [.ref (u14 1), .ref (u14 3), .int 0, .int 0])), (u14 1, .inr (5, [.ref (u14 2)])), (u14 2, .inl (dA 0, 30, .inl (fun _ => 0))), (u14 3, .inr (5, [.ref (u14 4)])), (u14 4, .inl (dA 0, 30, .inl (fun _ => 0))), (q16, .inr (7, [.ref (u17 1), .ref (u17 3), .int 0, .int 0])), (u17 1, .inr (5, [.ref (u17 2)])), (u17 2, .inl (dA 0, 30, .inl (fun _ => 0))), (u17 3, .inr (5, [.ref (u17 4)])), (u17 4, .inl (dA 0, 30, .inl (fun _ => 0))), (q19, .inr (5, [.ref u20])), (u20, .inl (dA 0, 30, .inl (fun _ => 0))), (q22, .inr (6, [.ref (u23 1), .ref (u23 3), .ref (u23 5), .ref (u23 7), .ref (u23 9), .ref (u23 11), .int 0, .int 0])), (u23 1, .inr (5, [.ref (u23 2)])), (u23 2, .inl (dA 0, 40, .inl (fun _ => 0))), (u23 3, .inr (5, [.ref (u23 4)])), (u23 4, .inl (dA 0, 30, .inl (fun _ => 0))), (u23 5, .inr (5, [.ref (u23 6)])), (u23 6, .inl (dA 0, 1200, .inl (fun _ => 0))), (u23 7, .inr (5, [.ref (u23 8)])), (u23 8, .inl (dA 0, 30, .inl (fun _ => 0))), (u23 9, .inr (5, [.ref (u23 10)])), (u23 10, .inl (dA 0, 30, .inl (fun _ => 0))), (u23 11, .inr (5, [.ref (u23 12)])), (u23 12, .inl (dA 0, 12, .inl (fun _ => 0)))] := hD
  clear hw24
  refine va_putF (D := D) (ci := 11) (v := .ref q22) (ty := .object "TallowIndex$Search") (C := RX8) (T := TX8) (N := 12) hx hb hts inAX8 tyX8 tyX8_ok nmX8 hown hK hP hD hS 0 rfl rfl 7 (by decide) (hts _ q344) (fun _ h9 => h9) rfl hnm rfl (tyX8_ok 7 (by decide)) rfl rfl (Nat.le_of_ble_eq_true rfl) dX8_init_91 (fun H locs hP hD hS => ?_)
  have hP : va_P D vwCl [(h, .inr (11, [.ref q1, .ref q4, .ref q7, .ref q10, .ref q13, .ref q16, .ref q19, .ref q22, .null, .int 0, .int 0, .int 0])), (q1, .inr (2, [.int 0, .ref E, .int 0])), (q4, .inr (2, [.int 0, .ref E, .int 0])), (q7, .inr (2, [.int 0, .ref E, .int 0])), (q10, .inr (2, [.int 0, .ref E, .int 0])), (q13, .inr (7, [.ref (u14 1), .ref (u14 3), .int 0, .int 0])), (u14 1, .inr (5, [.ref (u14 2)])), (u14 2, .inl (dA 0, 30, .inl (fun _ => 0))), (u14 3, .inr (5, [.ref (u14 4)])), (u14 4, .inl (dA 0, 30, .inl (fun _ => 0))), (q16, .inr (7, [.ref (u17 1), .ref (u17 3), .int 0, .int 0])), (u17 1, .inr (5, [.ref (u17 2)])), (u17 2, .inl (dA 0, 30, .inl (fun _ => 0))), (u17 3, .inr (5, [.ref (u17 4)])), (u17 4, .inl (dA 0, 30, .inl (fun _ => 0))), (q19, .inr (5, [.ref u20])), (u20, .inl (dA 0, 30, .inl (fun _ => 0))), (q22, .inr (6, [.ref (u23 1), .ref (u23 3), .ref (u23 5), .ref (u23 7), .ref (u23 9), .ref (u23 11), .int 0, .int 0])), (u23 1, .inr (5, [.ref (u23 2)])), (u23 2, .inl (dA 0, 40, .inl (fun _ => 0))), (u23 3, .inr (5, [.ref (u23 4)])), (u23 4, .inl (dA 0, 30, .inl (fun _ => 0))), (u23 5, .inr (5, [.ref (u23 6)])), (u23 6, .inl (dA 0, 1200, .inl (fun _ => 0))), (u23 7, .inr (5, [.ref (u23 8)])), (u23 8, .inl (dA 0, 30, .inl (fun _ => 0))), (u23 9, .inr (5, [.ref (u23 10)])), (u23 10, .inl (dA 0, 30, .inl (fun _ => 0))), (u23 11, .inr (5, [.ref (u23 12)])), (u23 12, .inl (dA 0, 12, .inl (fun _ => 0)))] H := hP
  have hD : va_D A [(h, .inr (11, [.ref q1, .ref q4, .ref q7, .ref q10, .ref q13, .ref q16, .ref q19, .ref q22, .null, .int 0, .int 0, .int 0])), (q1, .inr (2, [.int 0, .ref E, .int 0])), (q4, .inr (2, [.int 0, .ref E, .int 0])), (q7, .inr (2, [.int 0, .ref E, .int 0])), (q10, .inr (2, [.int 0, .ref E, .int 0])), (q13, .inr (7, [.ref (u14 1), .ref (u14 3), .int 0, .int 0])), (u14 1, .inr (5, [.ref (u14 2)])), (u14 2, .inl (dA 0, 30, .inl (fun _ => 0))), (u14 3, .inr (5, [.ref (u14 4)])), (u14 4, .inl (dA 0, 30, .inl (fun _ => 0))), (q16, .inr (7, [.ref (u17 1), .ref (u17 3), .int 0, .int 0])), (u17 1, .inr (5, [.ref (u17 2)])), (u17 2, .inl (dA 0, 30, .inl (fun _ => 0))), (u17 3, .inr (5, [.ref (u17 4)])), (u17 4, .inl (dA 0, 30, .inl (fun _ => 0))), (q19, .inr (5, [.ref u20])), (u20, .inl (dA 0, 30, .inl (fun _ => 0))), (q22, .inr (6, [.ref (u23 1), .ref (u23 3), .ref (u23 5), .ref (u23 7), .ref (u23 9), .ref (u23 11), .int 0, .int 0])), (u23 1, .inr (5, [.ref (u23 2)])), (u23 2, .inl (dA 0, 40, .inl (fun _ => 0))), (u23 3, .inr (5, [.ref (u23 4)])), (u23 4, .inl (dA 0, 30, .inl (fun _ => 0))), (u23 5, .inr (5, [.ref (u23 6)])), (u23 6, .inl (dA 0, 1200, .inl (fun _ => 0))), (u23 7, .inr (5, [.ref (u23 8)])), (u23 8, .inl (dA 0, 30, .inl (fun _ => 0))), (u23 9, .inr (5, [.ref (u23 10)])), (u23 10, .inl (dA 0, 30, .inl (fun _ => 0))), (u23 11, .inr (5, [.ref (u23 12)])), (u23 12, .inl (dA 0, 12, .inl (fun _ => 0)))] := hD
  refine W.widen (k := 29) (n := 1531) (Nat.le_of_ble_eq_true rfl) (Nat.le_of_ble_eq_true rfl) ?_
  have hP9 := hP.sub (ws' := [(h, .inr (11, [.ref q1, .ref q4, .ref q7, .ref q10, .ref q13, .ref q16, .ref q19, .ref q22, .null, .int 0, .int 0, .int 0])), (q1, .inr (2, [.int 0, .ref E, .int 0])), (q4, .inr (2, [.int 0, .ref E, .int 0])), (q7, .inr (2, [.int 0, .ref E, .int 0])), (q10, .inr (2, [.int 0, .ref E, .int 0])), (q13, .inr (7, [.ref (u14 1), .ref (u14 3), .int 0, .int 0])), (u14 1, .inr (5, [.ref (u14 2)])), (u14 2, .inl (dA 0, 30, .inl (fun _ => 0))), (u14 3, .inr (5, [.ref (u14 4)])), (u14 4, .inl (dA 0, 30, .inl (fun _ => 0))), (q16, .inr (7, [.ref (u17 1), .ref (u17 3), .int 0, .int 0])), (u17 1, .inr (5, [.ref (u17 2)])), (u17 2, .inl (dA 0, 30, .inl (fun _ => 0))), (u17 3, .inr (5, [.ref (u17 4)])), (u17 4, .inl (dA 0, 30, .inl (fun _ => 0))), (q19, .inr (5, [.ref u20])), (u20, .inl (dA 0, 30, .inl (fun _ => 0))), (q22, .inr (6, [.ref (u23 1), .ref (u23 3), .ref (u23 5), .ref (u23 7), .ref (u23 9), .ref (u23 11), .int 0, .int 0])), (u23 1, .inr (5, [.ref (u23 2)])), (u23 2, .inl (dA 0, 40, .inl (fun _ => 0))), (u23 3, .inr (5, [.ref (u23 4)])), (u23 4, .inl (dA 0, 30, .inl (fun _ => 0))), (u23 5, .inr (5, [.ref (u23 6)])), (u23 6, .inl (dA 0, 1200, .inl (fun _ => 0))), (u23 7, .inr (5, [.ref (u23 8)])), (u23 8, .inl (dA 0, 30, .inl (fun _ => 0))), (u23 9, .inr (5, [.ref (u23 10)])), (u23 10, .inl (dA 0, 30, .inl (fun _ => 0))), (u23 11, .inr (5, [.ref (u23 12)])), (u23 12, .inl (dA 0, 12, .inl (fun _ => 0)))]) [0, 1, 2, 3, 4, 5, 6, 7, 8, 9, 10, 11, 12, 13, 14, 15, 16, 17, 18, 19, 20, 21, 22, 23, 24, 25, 26, 27, 28, 29] rfl
  have hD9 := hD.sub (ws' := [(h, .inr (11, [.ref q1, .ref q4, .ref q7, .ref q10, .ref q13, .ref q16, .ref q19, .ref q22, .null, .int 0, .int 0, .int 0])), (q1, .inr (2, [.int 0, .ref E, .int 0])), (q4, .inr (2, [.int 0, .ref E, .int 0])), (q7, .inr (2, [.int 0, .ref E, .int 0])), (q10, .inr (2, [.int 0, .ref E, .int 0])), (q13, .inr (7, [.ref (u14 1), .ref (u14 3), .int 0, .int 0])), (u14 1, .inr (5, [.ref (u14 2)])), (u14 2, .inl (dA 0, 30, .inl (fun _ => 0))), (u14 3, .inr (5, [.ref (u14 4)])), (u14 4, .inl (dA 0, 30, .inl (fun _ => 0))), (q16, .inr (7, [.ref (u17 1), .ref (u17 3), .int 0, .int 0])), (u17 1, .inr (5, [.ref (u17 2)])), (u17 2, .inl (dA 0, 30, .inl (fun _ => 0))), (u17 3, .inr (5, [.ref (u17 4)])), (u17 4, .inl (dA 0, 30, .inl (fun _ => 0))), (q19, .inr (5, [.ref u20])), (u20, .inl (dA 0, 30, .inl (fun _ => 0))), (q22, .inr (6, [.ref (u23 1), .ref (u23 3), .ref (u23 5), .ref (u23 7), .ref (u23 9), .ref (u23 11), .int 0, .int 0])), (u23 1, .inr (5, [.ref (u23 2)])), (u23 2, .inl (dA 0, 40, .inl (fun _ => 0))), (u23 3, .inr (5, [.ref (u23 4)])), (u23 4, .inl (dA 0, 30, .inl (fun _ => 0))), (u23 5, .inr (5, [.ref (u23 6)])), (u23 6, .inl (dA 0, 1200, .inl (fun _ => 0))), (u23 7, .inr (5, [.ref (u23 8)])), (u23 8, .inl (dA 0, 30, .inl (fun _ => 0))), (u23 9, .inr (5, [.ref (u23 10)])), (u23 10, .inl (dA 0, 30, .inl (fun _ => 0))), (u23 11, .inr (5, [.ref (u23 12)])), (u23 12, .inl (dA 0, 12, .inl (fun _ => 0)))]) [0, 1, 2, 3, 4, 5, 6, 7, 8, 9, 10, 11, 12, 13, 14, 15, 16, 17, 18, 19, 20, 21, 22, 23, 24, 25, 26, 27, 28, 29] (by decide) rfl
  exact W.vret hx hb hr (fun t ht hW => ⟨⟨(fun k => ([h, q1, q4, q7, q10, q13, u14 1, u14 2, u14 3, u14 4, q16, u17 1, u17 2, u17 3, u17 4, q19, u20, q22, u23 1, u23 2, u23 3, u23 4, u23 5, u23 6, u23 7, u23 8, u23 9, u23 10, u23 11, u23 12] : List Nat).getD k 0), rfl, rfl, ⟨by rw [ht]; exact hP9, hD9⟩⟩, hS.F ht⟩) hS.2.2 dX8_init_94

set_option maxHeartbeats 4000000 in
set_option maxRecDepth 100000 in
theorem c_isWord (l : Launch) (D : va_G) (dA : Nat → ClassId) (E : Nat) (p0 : Int32) (sz : Nat)   : Met l yX8_isWord (wq (.code yX8_isWord cX8_isWord 1 (some .boolean))) { frames := 0, cells := 0, slots := 0, locals := 0 } (va_Pc [.int p0] (PcB D dA E [] sz)) (va_Qi (fun (r : Int32) (u : Unit) => r = bI (okW p0)) (fun u t => va_P D vwCl [] t.heap ∧ va_D (va_A [] sz) []) (va_A [] sz)) 0 0 (va_A [] sz) := by
  refine mb_of (Qc := fun A => va_Qi (fun (r : Int32) (u : Unit) => r = bI (okW p0)) (fun u t => va_P D vwCl [] t.heap ∧ va_D A []) A) RX8 rfl (by decide) (Nat.le_of_ble_eq_true rfl) ?_
  intro p e s m args below meth c hae hx hb hr hts hown hlocks hml hnm hP hK A hAe hD hZ hS hA ls hl
  have hl : lv_has ls 1 [(0, .int p0)] := hl
  refine lv_iload_n hx hb dX8_isWord_0 rfl (lv_at hl 0 rfl) ?_
  refine lv_if_lt (tgt := 14) hx hb dX8_isWord_1 (by decide) (fun c1 => ?_) (fun c1 => ?_)
  · refine lv_iconst (v := 0) hx hb dX8_isWord_14 (by decide) ?_
    refine W.widen (k := 0) (n := 0) (Nat.le_of_ble_eq_true rfl) (Nat.le_of_ble_eq_true rfl) ?_
    have hP9 := hP.sub (ws' := []) [] rfl
    have hD9 := hD.sub (ws' := []) [] (by decide) rfl
    exact W.zret (v := 0) hx hb hr rfl (fun t ht hW => ⟨⟨0, (), rfl, (by simp [okW, inR, bI, c1]), ⟨by rw [ht]; exact hP9, hD9⟩⟩, hS.F ht⟩) hS.2.2 dX8_isWord_15
  · refine lv_iload_n hx hb dX8_isWord_4 rfl (lv_at hl 0 rfl) ?_
    refine lv_bipush (v := 60) hx hb dX8_isWord_5 (by decide) ?_
    refine lv_icmp_ge (tgt := 14) hx hb dX8_isWord_7 (by decide) (fun c2 => ?_) (fun c2 => ?_)
    · refine lv_iconst (v := 0) hx hb dX8_isWord_14 (by decide) ?_
      refine W.widen (k := 0) (n := 0) (Nat.le_of_ble_eq_true rfl) (Nat.le_of_ble_eq_true rfl) ?_
      have hP9 := hP.sub (ws' := []) [] rfl
      have hD9 := hD.sub (ws' := []) [] (by decide) rfl
      exact W.zret (v := 0) hx hb hr rfl (fun t ht hW => ⟨⟨0, (), rfl, (by simp [okW, inR, bI, c1, (i59 _).mp c2]), ⟨by rw [ht]; exact hP9, hD9⟩⟩, hS.F ht⟩) hS.2.2 dX8_isWord_15
    · refine lv_iconst (v := 1) hx hb dX8_isWord_10 (by decide) ?_
      refine lv_goto (tgt := 15) hx hb dX8_isWord_11 (by decide) ?_
      refine W.widen (k := 0) (n := 0) (Nat.le_of_ble_eq_true rfl) (Nat.le_of_ble_eq_true rfl) ?_
      have hP9 := hP.sub (ws' := []) [] rfl
      have hD9 := hD.sub (ws' := []) [] (by decide) rfl
      exact W.zret (v := 1) hx hb hr rfl (fun t ht hW => ⟨⟨1, (), rfl, (by simp [okW, inR, bI, c1, mt (i59 _).mpr c2]), ⟨by rw [ht]; exact hP9, hD9⟩⟩, hS.F ht⟩) hS.2.2 dX8_isWord_15

set_option maxHeartbeats 4000000 in
set_option maxRecDepth 100000 in
theorem c_canBe (l : Launch) (D : va_G) (dA : Nat → ClassId) (E : Nat) (p0 p1 p2 : Int32) (sz : Nat)   : Met l yX5_canBe (wq (.code yX5_canBe cX5_canBe 3 (some .boolean))) { frames := 1, cells := 0, slots := 0, locals := 20 } (va_Pc [.int p0, .int p1, .int p2] (PcB D dA E [] sz)) (va_Qi (fun (r : Int32) (u : Unit) => r = bI (okStep p0 p1 p2)) (fun u t => va_P D vwCl [] t.heap ∧ va_D (va_A [] sz) []) (va_A [] sz)) 0 0 (va_A [] sz) := by
  refine mb_of (Qc := fun A => va_Qi (fun (r : Int32) (u : Unit) => r = bI (okStep p0 p1 p2)) (fun u t => va_P D vwCl [] t.heap ∧ va_D A []) A) RX5 rfl (by decide) (Nat.le_of_ble_eq_true rfl) ?_
  intro p e s m args below meth c hae hx hb hr hts hown hlocks hml hnm hP hK A hAe hD hZ hS hA ls hl
  have hl : lv_has ls 3 [(0, .int p0), (1, .int p1), (2, .int p2)] := hl
  refine lv_iload_n hx hb dX5_canBe_0 rfl (lv_at hl 0 rfl) ?_
  refine lv_bipush (v := 108) hx hb dX5_canBe_1 (by decide) ?_
  refine lv_icmp_eq (tgt := 12) hx hb dX5_canBe_3 (by decide) (fun c1 => ?_) (fun c1 => ?_)
  · refine lv_iconst (v := 1) hx hb dX5_canBe_12 (by decide) ?_
    refine W.widen (k := 0) (n := 0) (Nat.le_of_ble_eq_true rfl) (Nat.le_of_ble_eq_true rfl) ?_
    have hP9 := hP.sub (ws' := []) [] rfl
    have hD9 := hD.sub (ws' := []) [] (by decide) rfl
    exact W.zret (v := 1) hx hb hr rfl (fun t ht hW => ⟨⟨1, (), rfl, (by simp [okStep, bI, c1]), ⟨by rw [ht]; exact hP9, hD9⟩⟩, hS.F ht⟩) hS.2.2 dX5_canBe_13
  · refine lv_iload_n hx hb dX5_canBe_6 rfl (lv_at hl 0 rfl) ?_
    refine lv_bipush (v := 109) hx hb dX5_canBe_7 (by decide) ?_
    refine lv_icmp_ne (tgt := 14) hx hb dX5_canBe_9 (by decide) (fun c2 => ?_) (fun c2 => ?_)
    · refine lv_iload_n hx hb dX5_canBe_14 rfl (lv_at hl 0 rfl) ?_
      refine lv_bipush (v := 115) hx hb dX5_canBe_15 (by decide) ?_
      refine lv_icmp_eq (tgt := 26) hx hb dX5_canBe_17 (by decide) (fun c3 => ?_) (fun c3 => ?_)
      · refine lv_iload_n hx hb dX5_canBe_26 rfl (lv_at hl 1 rfl) ?_
        have hPc := hP.sub (ws' := []) [] rfl
        have hDc := hD.sub (ws' := []) [] (by decide) rfl
        have hFc := va_free (wc := []) hD hS hA [] rfl
        refine va_calli (va_runSN (As := [.int p1]) (rest := []) ⟨hx, hb, hml, hown, hts⟩ (c_isWord l D dA E p1 s.heap.size ) ⟨(va_cnB (host := "TallowIndex") 1 hts (ga_I q345) rfl rfl rfl (hZ.1.2.2.2.1 _ (List.mem_of_getElem? (i := 2) rfl)) (hts _ q346) (by decide +kernel) ⟨(Nat.le_of_ble_eq_true rfl), (Nat.le_of_ble_eq_true rfl)⟩), hts _ q347, trivial⟩ ⟨pb_blind, pb_pre hK hPc hDc hZ hS hFc _⟩ rfl rfl hl.1 rfl (lv_room (Nat.le_of_ble_eq_true rfl)) dX5_canBe_27 ⟨(Nat.le_of_ble_eq_true rfl), (Nat.le_of_ble_eq_true rfl)⟩) hS (fun q _ h => hFc q h) hFc (fun r u t H1 locs ht hvm hw hB hz1 hk1 hS => ?_)
        refine W.widen (k := 0) (n := 0) (Nat.le_of_ble_eq_true rfl) (Nat.le_of_ble_eq_true rfl) ?_
        obtain ⟨r4, rfl⟩ : ∃ z, z = r := ⟨_, rfl⟩
        obtain ⟨u5, rfl⟩ : ∃ z, z = u := ⟨_, rfl⟩
        have hw6 := hw
        clear hw
        obtain ⟨hP1, hD1⟩ := hB
        rw [ht] at hP1
        obtain ⟨hP, hD⟩ := va_join (wr := []) (w1 := []) hP hD [] [] rfl rfl (by decide) (by decide) hk1 hFc hP1 hD1
        generalize H1 = H at hP hS ⊢
        have hP : va_P D vwCl [] H := hP
        have hD : va_D A [] := hD
        refine bt (b := (okW p1)) ?_ ?_
        · intro hB7
          obtain rfl : r4 = 1 := hw6.trans (by rw [hB7]; rfl)
          refine W.widen (k := 0) (n := 0) (Nat.le_of_ble_eq_true rfl) (Nat.le_of_ble_eq_true rfl) ?_
          have hP9 := hP.sub (ws' := []) [] rfl
          have hD9 := hD.sub (ws' := []) [] (by decide) rfl
          exact W.zret (v := 1) hx hb hr rfl (fun t ht hW => ⟨⟨1, (), rfl, (by simp [okStep, bI, c1, c2, c3, hB7]), ⟨by rw [ht]; exact hP9, hD9⟩⟩, hS.F ht⟩) hS.2.2 dX5_canBe_30
        · intro hB7
          obtain rfl : r4 = 0 := hw6.trans (by rw [hB7]; rfl)
          refine W.widen (k := 0) (n := 0) (Nat.le_of_ble_eq_true rfl) (Nat.le_of_ble_eq_true rfl) ?_
          have hP9 := hP.sub (ws' := []) [] rfl
          have hD9 := hD.sub (ws' := []) [] (by decide) rfl
          exact W.zret (v := 0) hx hb hr rfl (fun t ht hW => ⟨⟨0, (), rfl, (by simp [okStep, bI, c1, c2, c3, hB7]), ⟨by rw [ht]; exact hP9, hD9⟩⟩, hS.F ht⟩) hS.2.2 dX5_canBe_30
      · refine lv_iload_n hx hb dX5_canBe_20 rfl (lv_at hl 0 rfl) ?_
        refine lv_bipush (v := 99) hx hb dX5_canBe_21 (by decide) ?_
        refine lv_icmp_ne (tgt := 31) hx hb dX5_canBe_23 (by decide) (fun c8 => ?_) (fun c8 => ?_)
        · refine lv_iload_n hx hb dX5_canBe_31 rfl (lv_at hl 0 rfl) ?_
          refine lv_bipush (v := 121) hx hb dX5_canBe_32 (by decide) ?_
          refine lv_icmp_ne (tgt := 55) hx hb dX5_canBe_34 (by decide) (fun c9 => ?_) (fun c9 => ?_)
          · refine lv_iconst (v := 0) hx hb dX5_canBe_55 (by decide) ?_
            refine W.widen (k := 0) (n := 0) (Nat.le_of_ble_eq_true rfl) (Nat.le_of_ble_eq_true rfl) ?_
            have hP9 := hP.sub (ws' := []) [] rfl
            have hD9 := hD.sub (ws' := []) [] (by decide) rfl
            exact W.zret (v := 0) hx hb hr rfl (fun t ht hW => ⟨⟨0, (), rfl, (by simp [okStep, bI, c1, c2, c3, c8, c9]), ⟨by rw [ht]; exact hP9, hD9⟩⟩, hS.F ht⟩) hS.2.2 dX5_canBe_56
          · refine lv_iload_n hx hb dX5_canBe_37 rfl (lv_at hl 1 rfl) ?_
            have hPc := hP.sub (ws' := []) [] rfl
            have hDc := hD.sub (ws' := []) [] (by decide) rfl
            have hFc := va_free (wc := []) hD hS hA [] rfl
            refine va_calli (va_runSN (As := [.int p1]) (rest := []) ⟨hx, hb, hml, hown, hts⟩ (c_isWord l D dA E p1 s.heap.size ) ⟨(va_cnB (host := "TallowIndex") 1 hts (ga_I q345) rfl rfl rfl (hZ.1.2.2.2.1 _ (List.mem_of_getElem? (i := 2) rfl)) (hts _ q346) (by decide +kernel) ⟨(Nat.le_of_ble_eq_true rfl), (Nat.le_of_ble_eq_true rfl)⟩), hts _ q347, trivial⟩ ⟨pb_blind, pb_pre hK hPc hDc hZ hS hFc _⟩ rfl rfl hl.1 rfl (lv_room (Nat.le_of_ble_eq_true rfl)) dX5_canBe_38 ⟨(Nat.le_of_ble_eq_true rfl), (Nat.le_of_ble_eq_true rfl)⟩) hS (fun q _ h => hFc q h) hFc (fun r u t H1 locs ht hvm hw hB hz1 hk1 hS => ?_)
            refine W.widen (k := 0) (n := 0) (Nat.le_of_ble_eq_true rfl) (Nat.le_of_ble_eq_true rfl) ?_
            obtain ⟨r10, rfl⟩ : ∃ z, z = r := ⟨_, rfl⟩
            obtain ⟨u11, rfl⟩ : ∃ z, z = u := ⟨_, rfl⟩
            have hw12 := hw
            clear hw
            obtain ⟨hP1, hD1⟩ := hB
            rw [ht] at hP1
            obtain ⟨hP, hD⟩ := va_join (wr := []) (w1 := []) hP hD [] [] rfl rfl (by decide) (by decide) hk1 hFc hP1 hD1
            generalize H1 = H at hP hS ⊢
            have hP : va_P D vwCl [] H := hP
            have hD : va_D A [] := hD
            refine bt (b := (okW p1)) ?_ ?_
            · intro hB13
              obtain rfl : r10 = 1 := hw12.trans (by rw [hB13]; rfl)
              refine lv_if_eq (tgt := 55) hx hb dX5_canBe_41 (by decide) (fun c14 => absurd c14 (by decide)) (fun _ => ?_)
              refine lv_iload_n hx hb dX5_canBe_44 rfl (lv_at hl 2 rfl) ?_
              have hPc := hP.sub (ws' := []) [] rfl
              have hDc := hD.sub (ws' := []) [] (by decide) rfl
              have hFc := va_free (wc := []) hD hS hA [] rfl
              refine va_calli (va_runSN (As := [.int p2]) (rest := []) ⟨hx, hb, hml, hown, hts⟩ (c_isWord l D dA E p2 H.size ) ⟨(va_cnB (host := "TallowIndex") 1 hts (ga_I q345) rfl rfl rfl (hZ.1.2.2.2.1 _ (List.mem_of_getElem? (i := 2) rfl)) (hts _ q346) (by decide +kernel) ⟨(Nat.le_of_ble_eq_true rfl), (Nat.le_of_ble_eq_true rfl)⟩), hts _ q347, trivial⟩ ⟨pb_blind, pb_pre hK hPc hDc hZ hS hFc _⟩ rfl rfl hl.1 rfl (lv_room (Nat.le_of_ble_eq_true rfl)) dX5_canBe_45 ⟨(Nat.le_of_ble_eq_true rfl), (Nat.le_of_ble_eq_true rfl)⟩) hS (fun q _ h => hFc q h) hFc (fun r u t H1 locs ht hvm hw hB hz1 hk1 hS => ?_)
              refine W.widen (k := 0) (n := 0) (Nat.le_of_ble_eq_true rfl) (Nat.le_of_ble_eq_true rfl) ?_
              obtain ⟨r15, rfl⟩ : ∃ z, z = r := ⟨_, rfl⟩
              obtain ⟨u16, rfl⟩ : ∃ z, z = u := ⟨_, rfl⟩
              have hw17 := hw
              clear hw
              obtain ⟨hP1, hD1⟩ := hB
              rw [ht] at hP1
              obtain ⟨hP, hD⟩ := va_join (wr := []) (w1 := []) hP hD [] [] rfl rfl (by decide) (by decide) hk1 hFc hP1 hD1
              generalize H1 = H at hP hS ⊢
              have hP : va_P D vwCl [] H := hP
              have hD : va_D A [] := hD
              refine bt (b := (okW p2)) ?_ ?_
              · intro hB18
                obtain rfl : r15 = 1 := hw17.trans (by rw [hB18]; rfl)
                refine lv_if_eq (tgt := 55) hx hb dX5_canBe_48 (by decide) (fun c19 => absurd c19 (by decide)) (fun _ => ?_)
                refine lv_iconst (v := 1) hx hb dX5_canBe_51 (by decide) ?_
                refine lv_goto (tgt := 56) hx hb dX5_canBe_52 (by decide) ?_
                refine W.widen (k := 0) (n := 0) (Nat.le_of_ble_eq_true rfl) (Nat.le_of_ble_eq_true rfl) ?_
                have hP9 := hP.sub (ws' := []) [] rfl
                have hD9 := hD.sub (ws' := []) [] (by decide) rfl
                exact W.zret (v := 1) hx hb hr rfl (fun t ht hW => ⟨⟨1, (), rfl, (by simp [okStep, bI, c1, c2, c3, c8, c9, hB13, hB18]), ⟨by rw [ht]; exact hP9, hD9⟩⟩, hS.F ht⟩) hS.2.2 dX5_canBe_56
              · intro hB18
                obtain rfl : r15 = 0 := hw17.trans (by rw [hB18]; rfl)
                refine lv_if_eq (tgt := 55) hx hb dX5_canBe_48 (by decide) (fun _ => ?_) (fun c20 => absurd (by decide) c20)
                refine lv_iconst (v := 0) hx hb dX5_canBe_55 (by decide) ?_
                refine W.widen (k := 0) (n := 0) (Nat.le_of_ble_eq_true rfl) (Nat.le_of_ble_eq_true rfl) ?_
                have hP9 := hP.sub (ws' := []) [] rfl
                have hD9 := hD.sub (ws' := []) [] (by decide) rfl
                exact W.zret (v := 0) hx hb hr rfl (fun t ht hW => ⟨⟨0, (), rfl, (by simp [okStep, bI, c1, c2, c3, c8, c9, hB13, hB18]), ⟨by rw [ht]; exact hP9, hD9⟩⟩, hS.F ht⟩) hS.2.2 dX5_canBe_56
            · intro hB13
              obtain rfl : r10 = 0 := hw12.trans (by rw [hB13]; rfl)
              refine lv_if_eq (tgt := 55) hx hb dX5_canBe_41 (by decide) (fun _ => ?_) (fun c21 => absurd (by decide) c21)
              refine lv_iconst (v := 0) hx hb dX5_canBe_55 (by decide) ?_
              refine W.widen (k := 0) (n := 0) (Nat.le_of_ble_eq_true rfl) (Nat.le_of_ble_eq_true rfl) ?_
              have hP9 := hP.sub (ws' := []) [] rfl
              have hD9 := hD.sub (ws' := []) [] (by decide) rfl
              exact W.zret (v := 0) hx hb hr rfl (fun t ht hW => ⟨⟨0, (), rfl, (by simp [okStep, bI, c1, c2, c3, c8, c9, hB13]), ⟨by rw [ht]; exact hP9, hD9⟩⟩, hS.F ht⟩) hS.2.2 dX5_canBe_56
        · refine lv_iload_n hx hb dX5_canBe_26 rfl (lv_at hl 1 rfl) ?_
          have hPc := hP.sub (ws' := []) [] rfl
          have hDc := hD.sub (ws' := []) [] (by decide) rfl
          have hFc := va_free (wc := []) hD hS hA [] rfl
          refine va_calli (va_runSN (As := [.int p1]) (rest := []) ⟨hx, hb, hml, hown, hts⟩ (c_isWord l D dA E p1 s.heap.size ) ⟨(va_cnB (host := "TallowIndex") 1 hts (ga_I q345) rfl rfl rfl (hZ.1.2.2.2.1 _ (List.mem_of_getElem? (i := 2) rfl)) (hts _ q346) (by decide +kernel) ⟨(Nat.le_of_ble_eq_true rfl), (Nat.le_of_ble_eq_true rfl)⟩), hts _ q347, trivial⟩ ⟨pb_blind, pb_pre hK hPc hDc hZ hS hFc _⟩ rfl rfl hl.1 rfl (lv_room (Nat.le_of_ble_eq_true rfl)) dX5_canBe_27 ⟨(Nat.le_of_ble_eq_true rfl), (Nat.le_of_ble_eq_true rfl)⟩) hS (fun q _ h => hFc q h) hFc (fun r u t H1 locs ht hvm hw hB hz1 hk1 hS => ?_)
          refine W.widen (k := 0) (n := 0) (Nat.le_of_ble_eq_true rfl) (Nat.le_of_ble_eq_true rfl) ?_
          obtain ⟨r22, rfl⟩ : ∃ z, z = r := ⟨_, rfl⟩
          obtain ⟨u23, rfl⟩ : ∃ z, z = u := ⟨_, rfl⟩
          have hw24 := hw
          clear hw
          obtain ⟨hP1, hD1⟩ := hB
          rw [ht] at hP1
          obtain ⟨hP, hD⟩ := va_join (wr := []) (w1 := []) hP hD [] [] rfl rfl (by decide) (by decide) hk1 hFc hP1 hD1
          generalize H1 = H at hP hS ⊢
          have hP : va_P D vwCl [] H := hP
          have hD : va_D A [] := hD
          refine bt (b := (okW p1)) ?_ ?_
          · intro hB25
            obtain rfl : r22 = 1 := hw24.trans (by rw [hB25]; rfl)
            refine W.widen (k := 0) (n := 0) (Nat.le_of_ble_eq_true rfl) (Nat.le_of_ble_eq_true rfl) ?_
            have hP9 := hP.sub (ws' := []) [] rfl
            have hD9 := hD.sub (ws' := []) [] (by decide) rfl
            exact W.zret (v := 1) hx hb hr rfl (fun t ht hW => ⟨⟨1, (), rfl, (by simp [okStep, bI, c1, c2, c3, c8, hB25]), ⟨by rw [ht]; exact hP9, hD9⟩⟩, hS.F ht⟩) hS.2.2 dX5_canBe_30
          · intro hB25
            obtain rfl : r22 = 0 := hw24.trans (by rw [hB25]; rfl)
            refine W.widen (k := 0) (n := 0) (Nat.le_of_ble_eq_true rfl) (Nat.le_of_ble_eq_true rfl) ?_
            have hP9 := hP.sub (ws' := []) [] rfl
            have hD9 := hD.sub (ws' := []) [] (by decide) rfl
            exact W.zret (v := 0) hx hb hr rfl (fun t ht hW => ⟨⟨0, (), rfl, (by simp [okStep, bI, c1, c2, c3, c8, hB25]), ⟨by rw [ht]; exact hP9, hD9⟩⟩, hS.F ht⟩) hS.2.2 dX5_canBe_30
    · refine lv_iconst (v := 1) hx hb dX5_canBe_12 (by decide) ?_
      refine W.widen (k := 0) (n := 0) (Nat.le_of_ble_eq_true rfl) (Nat.le_of_ble_eq_true rfl) ?_
      have hP9 := hP.sub (ws' := []) [] rfl
      have hD9 := hD.sub (ws' := []) [] (by decide) rfl
      exact W.zret (v := 1) hx hb hr rfl (fun t ht hW => ⟨⟨1, (), rfl, (by simp [okStep, bI, c1, c2]), ⟨by rw [ht]; exact hP9, hD9⟩⟩, hS.F ht⟩) hS.2.2 dX5_canBe_13

set_option maxHeartbeats 4000000 in
set_option maxRecDepth 100000 in
theorem c_canAsk (l : Launch) (D : va_G) (dA : Nat → ClassId) (E : Nat) (p0 p1 p2 p3 : Int32) (sz : Nat)   : Met l yX1_canAsk (wq (.code yX1_canAsk cX1_canAsk 5 (some .boolean))) { frames := 1, cells := 0, slots := 0, locals := 20 } (va_Pc [.int p0, .int p1, .int p2, .int p3] (PcB D dA E [] sz)) (va_Qi (fun (r : Int32) (u : Unit) => r = bI (okCan p0 p1 p2 p3)) (fun u t => va_P D vwCl [] t.heap ∧ va_D (va_A [] sz) []) (va_A [] sz)) 0 0 (va_A [] sz) := by
  refine mb_of (Qc := fun A => va_Qi (fun (r : Int32) (u : Unit) => r = bI (okCan p0 p1 p2 p3)) (fun u t => va_P D vwCl [] t.heap ∧ va_D A []) A) RX1 rfl (by decide) (Nat.le_of_ble_eq_true rfl) ?_
  intro p e s m args below meth c hae hx hb hr hts hown hlocks hml hnm hP hK A hAe hD hZ hS hA ls hl
  have hl : lv_has ls 5 [(0, .int p0), (1, .int p1), (2, .int p2), (3, .int p3)] := hl
  refine lv_iload_n hx hb dX1_canAsk_0 rfl (lv_at hl 0 rfl) ?_
  refine lv_bipush (v := 119) hx hb dX1_canAsk_1 (by decide) ?_
  refine lv_icmp_ne (tgt := 11) hx hb dX1_canAsk_3 (by decide) (fun c1 => ?_) (fun c1 => ?_)
  · refine lv_iload_n hx hb dX1_canAsk_11 rfl (lv_at hl 0 rfl) ?_
    refine lv_bipush (v := 112) hx hb dX1_canAsk_12 (by decide) ?_
    refine lv_icmp_ne (tgt := 37) hx hb dX1_canAsk_14 (by decide) (fun c2 => ?_) (fun c2 => ?_)
    · refine lv_iload_n hx hb dX1_canAsk_37 rfl (lv_at hl 3 rfl) ?_
      refine lv_iconst (v := 1) hx hb dX1_canAsk_38 (by decide) ?_
      refine lv_icmp_lt (tgt := 52) hx hb dX1_canAsk_39 (by decide) (fun c3 => ?_) (fun c3 => ?_)
      · refine lv_iconst (v := 0) hx hb dX1_canAsk_52 (by decide) ?_
        refine lv_istore (lv' := [(4, .int 0), (0, .int p0), (1, .int p1), (2, .int p2), (3, .int p3)]) hx hb dX1_canAsk_53 hl (by decide) rfl (fun ls hl => ?_)
        refine lv_iload_n hx hb dX1_canAsk_55 rfl (lv_at hl 1 rfl) ?_
        refine lv_bipush (v := 110) hx hb dX1_canAsk_56 (by decide) ?_
        refine lv_icmp_ne (tgt := 84) hx hb dX1_canAsk_58 (by decide) (fun c4 => ?_) (fun c4 => ?_)
        · refine lv_iconst (v := 0) hx hb dX1_canAsk_84 (by decide) ?_
          refine W.widen (k := 0) (n := 0) (Nat.le_of_ble_eq_true rfl) (Nat.le_of_ble_eq_true rfl) ?_
          have hP9 := hP.sub (ws' := []) [] rfl
          have hD9 := hD.sub (ws' := []) [] (by decide) rfl
          exact W.zret (v := 0) hx hb hr rfl (fun t ht hW => ⟨⟨0, (), rfl, (by simp [okCan, inR, bI, c1, c2, c3, c4]), ⟨by rw [ht]; exact hP9, hD9⟩⟩, hS.F ht⟩) hS.2.2 dX1_canAsk_85
        · refine lv_iload_n hx hb dX1_canAsk_61 rfl (lv_at hl 2 rfl) ?_
          have hPc := hP.sub (ws' := []) [] rfl
          have hDc := hD.sub (ws' := []) [] (by decide) rfl
          have hFc := va_free (wc := []) hD hS hA [] rfl
          refine va_calli (va_runSN (As := [.int p1]) (rest := []) ⟨hx, hb, hml, hown, hts⟩ (c_isWord l D dA E p1 s.heap.size ) ⟨(va_cnB (host := "TallowIndex") 1 hts (ga_I q345) rfl rfl rfl (hZ.1.2.2.2.1 _ (List.mem_of_getElem? (i := 4) rfl)) (hts _ q346) (by decide +kernel) ⟨(Nat.le_of_ble_eq_true rfl), (Nat.le_of_ble_eq_true rfl)⟩), hts _ q347, trivial⟩ ⟨pb_blind, pb_pre hK hPc hDc hZ hS hFc _⟩ rfl rfl hl.1 rfl (lv_room (Nat.le_of_ble_eq_true rfl)) dX1_canAsk_62 ⟨(Nat.le_of_ble_eq_true rfl), (Nat.le_of_ble_eq_true rfl)⟩) hS (fun q _ h => hFc q h) hFc (fun r u t H1 locs ht hvm hw hB hz1 hk1 hS => ?_)
          refine W.widen (k := 0) (n := 0) (Nat.le_of_ble_eq_true rfl) (Nat.le_of_ble_eq_true rfl) ?_
          obtain ⟨r5, rfl⟩ : ∃ z, z = r := ⟨_, rfl⟩
          obtain ⟨u6, rfl⟩ : ∃ z, z = u := ⟨_, rfl⟩
          have hw7 := hw
          clear hw
          obtain ⟨hP1, hD1⟩ := hB
          rw [ht] at hP1
          obtain ⟨hP, hD⟩ := va_join (wr := []) (w1 := []) hP hD [] [] rfl rfl (by decide) (by decide) hk1 hFc hP1 hD1
          generalize H1 = H at hP hS ⊢
          have hP : va_P D vwCl [] H := hP
          have hD : va_D A [] := hD
          refine bt (b := (okW p1)) ?_ ?_
          · intro hB8
            obtain rfl : r5 = 1 := hw7.trans (by rw [hB8]; rfl)
            refine lv_if_eq (tgt := 84) hx hb dX1_canAsk_65 (by decide) (fun c9 => absurd c9 (by decide)) (fun _ => ?_)
            refine lv_iload_n hx hb dX1_canAsk_68 rfl (lv_at hl 3 rfl) ?_
            have hPc := hP.sub (ws' := []) [] rfl
            have hDc := hD.sub (ws' := []) [] (by decide) rfl
            have hFc := va_free (wc := []) hD hS hA [] rfl
            refine va_calli (va_runSN (As := [.int p2]) (rest := []) ⟨hx, hb, hml, hown, hts⟩ (c_isWord l D dA E p2 H.size ) ⟨(va_cnB (host := "TallowIndex") 1 hts (ga_I q345) rfl rfl rfl (hZ.1.2.2.2.1 _ (List.mem_of_getElem? (i := 4) rfl)) (hts _ q346) (by decide +kernel) ⟨(Nat.le_of_ble_eq_true rfl), (Nat.le_of_ble_eq_true rfl)⟩), hts _ q347, trivial⟩ ⟨pb_blind, pb_pre hK hPc hDc hZ hS hFc _⟩ rfl rfl hl.1 rfl (lv_room (Nat.le_of_ble_eq_true rfl)) dX1_canAsk_69 ⟨(Nat.le_of_ble_eq_true rfl), (Nat.le_of_ble_eq_true rfl)⟩) hS (fun q _ h => hFc q h) hFc (fun r u t H1 locs ht hvm hw hB hz1 hk1 hS => ?_)
            refine W.widen (k := 0) (n := 0) (Nat.le_of_ble_eq_true rfl) (Nat.le_of_ble_eq_true rfl) ?_
            obtain ⟨r10, rfl⟩ : ∃ z, z = r := ⟨_, rfl⟩
            obtain ⟨u11, rfl⟩ : ∃ z, z = u := ⟨_, rfl⟩
            have hw12 := hw
            clear hw
            obtain ⟨hP1, hD1⟩ := hB
            rw [ht] at hP1
            obtain ⟨hP, hD⟩ := va_join (wr := []) (w1 := []) hP hD [] [] rfl rfl (by decide) (by decide) hk1 hFc hP1 hD1
            generalize H1 = H at hP hS ⊢
            have hP : va_P D vwCl [] H := hP
            have hD : va_D A [] := hD
            refine bt (b := (okW p2)) ?_ ?_
            · intro hB13
              obtain rfl : r10 = 1 := hw12.trans (by rw [hB13]; rfl)
              refine lv_if_eq (tgt := 84) hx hb dX1_canAsk_72 (by decide) (fun c14 => absurd c14 (by decide)) (fun _ => ?_)
              refine lv_iload hx hb dX1_canAsk_75 (lv_at hl 0 rfl) ?_
              refine lv_if_eq (tgt := 84) hx hb dX1_canAsk_77 (by decide) (fun _ => ?_) (fun c15 => absurd (by decide) c15)
              refine lv_iconst (v := 0) hx hb dX1_canAsk_84 (by decide) ?_
              refine W.widen (k := 0) (n := 0) (Nat.le_of_ble_eq_true rfl) (Nat.le_of_ble_eq_true rfl) ?_
              have hP9 := hP.sub (ws' := []) [] rfl
              have hD9 := hD.sub (ws' := []) [] (by decide) rfl
              exact W.zret (v := 0) hx hb hr rfl (fun t ht hW => ⟨⟨0, (), rfl, (by simp [okCan, inR, bI, c1, c2, c3, c4, hB8, hB13]), ⟨by rw [ht]; exact hP9, hD9⟩⟩, hS.F ht⟩) hS.2.2 dX1_canAsk_85
            · intro hB13
              obtain rfl : r10 = 0 := hw12.trans (by rw [hB13]; rfl)
              refine lv_if_eq (tgt := 84) hx hb dX1_canAsk_72 (by decide) (fun _ => ?_) (fun c16 => absurd (by decide) c16)
              refine lv_iconst (v := 0) hx hb dX1_canAsk_84 (by decide) ?_
              refine W.widen (k := 0) (n := 0) (Nat.le_of_ble_eq_true rfl) (Nat.le_of_ble_eq_true rfl) ?_
              have hP9 := hP.sub (ws' := []) [] rfl
              have hD9 := hD.sub (ws' := []) [] (by decide) rfl
              exact W.zret (v := 0) hx hb hr rfl (fun t ht hW => ⟨⟨0, (), rfl, (by simp [okCan, inR, bI, c1, c2, c3, c4, hB8, hB13]), ⟨by rw [ht]; exact hP9, hD9⟩⟩, hS.F ht⟩) hS.2.2 dX1_canAsk_85
          · intro hB8
            obtain rfl : r5 = 0 := hw7.trans (by rw [hB8]; rfl)
            refine lv_if_eq (tgt := 84) hx hb dX1_canAsk_65 (by decide) (fun _ => ?_) (fun c17 => absurd (by decide) c17)
            refine lv_iconst (v := 0) hx hb dX1_canAsk_84 (by decide) ?_
            refine W.widen (k := 0) (n := 0) (Nat.le_of_ble_eq_true rfl) (Nat.le_of_ble_eq_true rfl) ?_
            have hP9 := hP.sub (ws' := []) [] rfl
            have hD9 := hD.sub (ws' := []) [] (by decide) rfl
            exact W.zret (v := 0) hx hb hr rfl (fun t ht hW => ⟨⟨0, (), rfl, (by simp [okCan, inR, bI, c1, c2, c3, c4, hB8]), ⟨by rw [ht]; exact hP9, hD9⟩⟩, hS.F ht⟩) hS.2.2 dX1_canAsk_85
      · refine lv_iload_n hx hb dX1_canAsk_42 rfl (lv_at hl 3 rfl) ?_
        refine lv_bipush (v := 9) hx hb dX1_canAsk_43 (by decide) ?_
        refine lv_icmp_gt (tgt := 52) hx hb dX1_canAsk_45 (by decide) (fun c18 => ?_) (fun c18 => ?_)
        · refine lv_iconst (v := 0) hx hb dX1_canAsk_52 (by decide) ?_
          refine lv_istore (lv' := [(4, .int 0), (0, .int p0), (1, .int p1), (2, .int p2), (3, .int p3)]) hx hb dX1_canAsk_53 hl (by decide) rfl (fun ls hl => ?_)
          refine lv_iload_n hx hb dX1_canAsk_55 rfl (lv_at hl 1 rfl) ?_
          refine lv_bipush (v := 110) hx hb dX1_canAsk_56 (by decide) ?_
          refine lv_icmp_ne (tgt := 84) hx hb dX1_canAsk_58 (by decide) (fun c19 => ?_) (fun c19 => ?_)
          · refine lv_iconst (v := 0) hx hb dX1_canAsk_84 (by decide) ?_
            refine W.widen (k := 0) (n := 0) (Nat.le_of_ble_eq_true rfl) (Nat.le_of_ble_eq_true rfl) ?_
            have hP9 := hP.sub (ws' := []) [] rfl
            have hD9 := hD.sub (ws' := []) [] (by decide) rfl
            exact W.zret (v := 0) hx hb hr rfl (fun t ht hW => ⟨⟨0, (), rfl, (by simp [okCan, inR, bI, c1, c2, c3, c18, c19]), ⟨by rw [ht]; exact hP9, hD9⟩⟩, hS.F ht⟩) hS.2.2 dX1_canAsk_85
          · refine lv_iload_n hx hb dX1_canAsk_61 rfl (lv_at hl 2 rfl) ?_
            have hPc := hP.sub (ws' := []) [] rfl
            have hDc := hD.sub (ws' := []) [] (by decide) rfl
            have hFc := va_free (wc := []) hD hS hA [] rfl
            refine va_calli (va_runSN (As := [.int p1]) (rest := []) ⟨hx, hb, hml, hown, hts⟩ (c_isWord l D dA E p1 s.heap.size ) ⟨(va_cnB (host := "TallowIndex") 1 hts (ga_I q345) rfl rfl rfl (hZ.1.2.2.2.1 _ (List.mem_of_getElem? (i := 4) rfl)) (hts _ q346) (by decide +kernel) ⟨(Nat.le_of_ble_eq_true rfl), (Nat.le_of_ble_eq_true rfl)⟩), hts _ q347, trivial⟩ ⟨pb_blind, pb_pre hK hPc hDc hZ hS hFc _⟩ rfl rfl hl.1 rfl (lv_room (Nat.le_of_ble_eq_true rfl)) dX1_canAsk_62 ⟨(Nat.le_of_ble_eq_true rfl), (Nat.le_of_ble_eq_true rfl)⟩) hS (fun q _ h => hFc q h) hFc (fun r u t H1 locs ht hvm hw hB hz1 hk1 hS => ?_)
            refine W.widen (k := 0) (n := 0) (Nat.le_of_ble_eq_true rfl) (Nat.le_of_ble_eq_true rfl) ?_
            obtain ⟨r20, rfl⟩ : ∃ z, z = r := ⟨_, rfl⟩
            obtain ⟨u21, rfl⟩ : ∃ z, z = u := ⟨_, rfl⟩
            have hw22 := hw
            clear hw
            obtain ⟨hP1, hD1⟩ := hB
            rw [ht] at hP1
            obtain ⟨hP, hD⟩ := va_join (wr := []) (w1 := []) hP hD [] [] rfl rfl (by decide) (by decide) hk1 hFc hP1 hD1
            generalize H1 = H at hP hS ⊢
            have hP : va_P D vwCl [] H := hP
            have hD : va_D A [] := hD
            refine bt (b := (okW p1)) ?_ ?_
            · intro hB23
              obtain rfl : r20 = 1 := hw22.trans (by rw [hB23]; rfl)
              refine lv_if_eq (tgt := 84) hx hb dX1_canAsk_65 (by decide) (fun c24 => absurd c24 (by decide)) (fun _ => ?_)
              refine lv_iload_n hx hb dX1_canAsk_68 rfl (lv_at hl 3 rfl) ?_
              have hPc := hP.sub (ws' := []) [] rfl
              have hDc := hD.sub (ws' := []) [] (by decide) rfl
              have hFc := va_free (wc := []) hD hS hA [] rfl
              refine va_calli (va_runSN (As := [.int p2]) (rest := []) ⟨hx, hb, hml, hown, hts⟩ (c_isWord l D dA E p2 H.size ) ⟨(va_cnB (host := "TallowIndex") 1 hts (ga_I q345) rfl rfl rfl (hZ.1.2.2.2.1 _ (List.mem_of_getElem? (i := 4) rfl)) (hts _ q346) (by decide +kernel) ⟨(Nat.le_of_ble_eq_true rfl), (Nat.le_of_ble_eq_true rfl)⟩), hts _ q347, trivial⟩ ⟨pb_blind, pb_pre hK hPc hDc hZ hS hFc _⟩ rfl rfl hl.1 rfl (lv_room (Nat.le_of_ble_eq_true rfl)) dX1_canAsk_69 ⟨(Nat.le_of_ble_eq_true rfl), (Nat.le_of_ble_eq_true rfl)⟩) hS (fun q _ h => hFc q h) hFc (fun r u t H1 locs ht hvm hw hB hz1 hk1 hS => ?_)
              refine W.widen (k := 0) (n := 0) (Nat.le_of_ble_eq_true rfl) (Nat.le_of_ble_eq_true rfl) ?_
              obtain ⟨r25, rfl⟩ : ∃ z, z = r := ⟨_, rfl⟩
              obtain ⟨u26, rfl⟩ : ∃ z, z = u := ⟨_, rfl⟩
              have hw27 := hw
              clear hw
              obtain ⟨hP1, hD1⟩ := hB
              rw [ht] at hP1
              obtain ⟨hP, hD⟩ := va_join (wr := []) (w1 := []) hP hD [] [] rfl rfl (by decide) (by decide) hk1 hFc hP1 hD1
              generalize H1 = H at hP hS ⊢
              have hP : va_P D vwCl [] H := hP
              have hD : va_D A [] := hD
              refine bt (b := (okW p2)) ?_ ?_
              · intro hB28
                obtain rfl : r25 = 1 := hw27.trans (by rw [hB28]; rfl)
                refine lv_if_eq (tgt := 84) hx hb dX1_canAsk_72 (by decide) (fun c29 => absurd c29 (by decide)) (fun _ => ?_)
                refine lv_iload hx hb dX1_canAsk_75 (lv_at hl 0 rfl) ?_
                refine lv_if_eq (tgt := 84) hx hb dX1_canAsk_77 (by decide) (fun _ => ?_) (fun c30 => absurd (by decide) c30)
                refine lv_iconst (v := 0) hx hb dX1_canAsk_84 (by decide) ?_
                refine W.widen (k := 0) (n := 0) (Nat.le_of_ble_eq_true rfl) (Nat.le_of_ble_eq_true rfl) ?_
                have hP9 := hP.sub (ws' := []) [] rfl
                have hD9 := hD.sub (ws' := []) [] (by decide) rfl
                exact W.zret (v := 0) hx hb hr rfl (fun t ht hW => ⟨⟨0, (), rfl, (by simp [okCan, inR, bI, c1, c2, c3, c18, c19, hB23, hB28]), ⟨by rw [ht]; exact hP9, hD9⟩⟩, hS.F ht⟩) hS.2.2 dX1_canAsk_85
              · intro hB28
                obtain rfl : r25 = 0 := hw27.trans (by rw [hB28]; rfl)
                refine lv_if_eq (tgt := 84) hx hb dX1_canAsk_72 (by decide) (fun _ => ?_) (fun c31 => absurd (by decide) c31)
                refine lv_iconst (v := 0) hx hb dX1_canAsk_84 (by decide) ?_
                refine W.widen (k := 0) (n := 0) (Nat.le_of_ble_eq_true rfl) (Nat.le_of_ble_eq_true rfl) ?_
                have hP9 := hP.sub (ws' := []) [] rfl
                have hD9 := hD.sub (ws' := []) [] (by decide) rfl
                exact W.zret (v := 0) hx hb hr rfl (fun t ht hW => ⟨⟨0, (), rfl, (by simp [okCan, inR, bI, c1, c2, c3, c18, c19, hB23, hB28]), ⟨by rw [ht]; exact hP9, hD9⟩⟩, hS.F ht⟩) hS.2.2 dX1_canAsk_85
            · intro hB23
              obtain rfl : r20 = 0 := hw22.trans (by rw [hB23]; rfl)
              refine lv_if_eq (tgt := 84) hx hb dX1_canAsk_65 (by decide) (fun _ => ?_) (fun c32 => absurd (by decide) c32)
              refine lv_iconst (v := 0) hx hb dX1_canAsk_84 (by decide) ?_
              refine W.widen (k := 0) (n := 0) (Nat.le_of_ble_eq_true rfl) (Nat.le_of_ble_eq_true rfl) ?_
              have hP9 := hP.sub (ws' := []) [] rfl
              have hD9 := hD.sub (ws' := []) [] (by decide) rfl
              exact W.zret (v := 0) hx hb hr rfl (fun t ht hW => ⟨⟨0, (), rfl, (by simp [okCan, inR, bI, c1, c2, c3, c18, c19, hB23]), ⟨by rw [ht]; exact hP9, hD9⟩⟩, hS.F ht⟩) hS.2.2 dX1_canAsk_85
        · refine lv_iconst (v := 1) hx hb dX1_canAsk_48 (by decide) ?_
          refine lv_goto (tgt := 53) hx hb dX1_canAsk_49 (by decide) ?_
          refine lv_istore (lv' := [(4, .int 1), (0, .int p0), (1, .int p1), (2, .int p2), (3, .int p3)]) hx hb dX1_canAsk_53 hl (by decide) rfl (fun ls hl => ?_)
          refine lv_iload_n hx hb dX1_canAsk_55 rfl (lv_at hl 1 rfl) ?_
          refine lv_bipush (v := 110) hx hb dX1_canAsk_56 (by decide) ?_
          refine lv_icmp_ne (tgt := 84) hx hb dX1_canAsk_58 (by decide) (fun c33 => ?_) (fun c33 => ?_)
          · refine lv_iconst (v := 0) hx hb dX1_canAsk_84 (by decide) ?_
            refine W.widen (k := 0) (n := 0) (Nat.le_of_ble_eq_true rfl) (Nat.le_of_ble_eq_true rfl) ?_
            have hP9 := hP.sub (ws' := []) [] rfl
            have hD9 := hD.sub (ws' := []) [] (by decide) rfl
            exact W.zret (v := 0) hx hb hr rfl (fun t ht hW => ⟨⟨0, (), rfl, (by simp [okCan, inR, bI, c1, c2, c3, c18, c33]), ⟨by rw [ht]; exact hP9, hD9⟩⟩, hS.F ht⟩) hS.2.2 dX1_canAsk_85
          · refine lv_iload_n hx hb dX1_canAsk_61 rfl (lv_at hl 2 rfl) ?_
            have hPc := hP.sub (ws' := []) [] rfl
            have hDc := hD.sub (ws' := []) [] (by decide) rfl
            have hFc := va_free (wc := []) hD hS hA [] rfl
            refine va_calli (va_runSN (As := [.int p1]) (rest := []) ⟨hx, hb, hml, hown, hts⟩ (c_isWord l D dA E p1 s.heap.size ) ⟨(va_cnB (host := "TallowIndex") 1 hts (ga_I q345) rfl rfl rfl (hZ.1.2.2.2.1 _ (List.mem_of_getElem? (i := 4) rfl)) (hts _ q346) (by decide +kernel) ⟨(Nat.le_of_ble_eq_true rfl), (Nat.le_of_ble_eq_true rfl)⟩), hts _ q347, trivial⟩ ⟨pb_blind, pb_pre hK hPc hDc hZ hS hFc _⟩ rfl rfl hl.1 rfl (lv_room (Nat.le_of_ble_eq_true rfl)) dX1_canAsk_62 ⟨(Nat.le_of_ble_eq_true rfl), (Nat.le_of_ble_eq_true rfl)⟩) hS (fun q _ h => hFc q h) hFc (fun r u t H1 locs ht hvm hw hB hz1 hk1 hS => ?_)
            refine W.widen (k := 0) (n := 0) (Nat.le_of_ble_eq_true rfl) (Nat.le_of_ble_eq_true rfl) ?_
            obtain ⟨r34, rfl⟩ : ∃ z, z = r := ⟨_, rfl⟩
            obtain ⟨u35, rfl⟩ : ∃ z, z = u := ⟨_, rfl⟩
            have hw36 := hw
            clear hw
            obtain ⟨hP1, hD1⟩ := hB
            rw [ht] at hP1
            obtain ⟨hP, hD⟩ := va_join (wr := []) (w1 := []) hP hD [] [] rfl rfl (by decide) (by decide) hk1 hFc hP1 hD1
            generalize H1 = H at hP hS ⊢
            have hP : va_P D vwCl [] H := hP
            have hD : va_D A [] := hD
            refine bt (b := (okW p1)) ?_ ?_
            · intro hB37
              obtain rfl : r34 = 1 := hw36.trans (by rw [hB37]; rfl)
              refine lv_if_eq (tgt := 84) hx hb dX1_canAsk_65 (by decide) (fun c38 => absurd c38 (by decide)) (fun _ => ?_)
              refine lv_iload_n hx hb dX1_canAsk_68 rfl (lv_at hl 3 rfl) ?_
              have hPc := hP.sub (ws' := []) [] rfl
              have hDc := hD.sub (ws' := []) [] (by decide) rfl
              have hFc := va_free (wc := []) hD hS hA [] rfl
              refine va_calli (va_runSN (As := [.int p2]) (rest := []) ⟨hx, hb, hml, hown, hts⟩ (c_isWord l D dA E p2 H.size ) ⟨(va_cnB (host := "TallowIndex") 1 hts (ga_I q345) rfl rfl rfl (hZ.1.2.2.2.1 _ (List.mem_of_getElem? (i := 4) rfl)) (hts _ q346) (by decide +kernel) ⟨(Nat.le_of_ble_eq_true rfl), (Nat.le_of_ble_eq_true rfl)⟩), hts _ q347, trivial⟩ ⟨pb_blind, pb_pre hK hPc hDc hZ hS hFc _⟩ rfl rfl hl.1 rfl (lv_room (Nat.le_of_ble_eq_true rfl)) dX1_canAsk_69 ⟨(Nat.le_of_ble_eq_true rfl), (Nat.le_of_ble_eq_true rfl)⟩) hS (fun q _ h => hFc q h) hFc (fun r u t H1 locs ht hvm hw hB hz1 hk1 hS => ?_)
              refine W.widen (k := 0) (n := 0) (Nat.le_of_ble_eq_true rfl) (Nat.le_of_ble_eq_true rfl) ?_
              obtain ⟨r39, rfl⟩ : ∃ z, z = r := ⟨_, rfl⟩
              obtain ⟨u40, rfl⟩ : ∃ z, z = u := ⟨_, rfl⟩
              have hw41 := hw
              clear hw
              obtain ⟨hP1, hD1⟩ := hB
              rw [ht] at hP1
              obtain ⟨hP, hD⟩ := va_join (wr := []) (w1 := []) hP hD [] [] rfl rfl (by decide) (by decide) hk1 hFc hP1 hD1
              generalize H1 = H at hP hS ⊢
              have hP : va_P D vwCl [] H := hP
              have hD : va_D A [] := hD
              refine bt (b := (okW p2)) ?_ ?_
              · intro hB42
                obtain rfl : r39 = 1 := hw41.trans (by rw [hB42]; rfl)
                refine lv_if_eq (tgt := 84) hx hb dX1_canAsk_72 (by decide) (fun c43 => absurd c43 (by decide)) (fun _ => ?_)
                refine lv_iload hx hb dX1_canAsk_75 (lv_at hl 0 rfl) ?_
                refine lv_if_eq (tgt := 84) hx hb dX1_canAsk_77 (by decide) (fun c44 => absurd c44 (by decide)) (fun _ => ?_)
                refine lv_iconst (v := 1) hx hb dX1_canAsk_80 (by decide) ?_
                refine lv_goto (tgt := 85) hx hb dX1_canAsk_81 (by decide) ?_
                refine W.widen (k := 0) (n := 0) (Nat.le_of_ble_eq_true rfl) (Nat.le_of_ble_eq_true rfl) ?_
                have hP9 := hP.sub (ws' := []) [] rfl
                have hD9 := hD.sub (ws' := []) [] (by decide) rfl
                exact W.zret (v := 1) hx hb hr rfl (fun t ht hW => ⟨⟨1, (), rfl, (by simp [okCan, inR, bI, c1, c2, c3, c18, c33, hB37, hB42]), ⟨by rw [ht]; exact hP9, hD9⟩⟩, hS.F ht⟩) hS.2.2 dX1_canAsk_85
              · intro hB42
                obtain rfl : r39 = 0 := hw41.trans (by rw [hB42]; rfl)
                refine lv_if_eq (tgt := 84) hx hb dX1_canAsk_72 (by decide) (fun _ => ?_) (fun c45 => absurd (by decide) c45)
                refine lv_iconst (v := 0) hx hb dX1_canAsk_84 (by decide) ?_
                refine W.widen (k := 0) (n := 0) (Nat.le_of_ble_eq_true rfl) (Nat.le_of_ble_eq_true rfl) ?_
                have hP9 := hP.sub (ws' := []) [] rfl
                have hD9 := hD.sub (ws' := []) [] (by decide) rfl
                exact W.zret (v := 0) hx hb hr rfl (fun t ht hW => ⟨⟨0, (), rfl, (by simp [okCan, inR, bI, c1, c2, c3, c18, c33, hB37, hB42]), ⟨by rw [ht]; exact hP9, hD9⟩⟩, hS.F ht⟩) hS.2.2 dX1_canAsk_85
            · intro hB37
              obtain rfl : r34 = 0 := hw36.trans (by rw [hB37]; rfl)
              refine lv_if_eq (tgt := 84) hx hb dX1_canAsk_65 (by decide) (fun _ => ?_) (fun c46 => absurd (by decide) c46)
              refine lv_iconst (v := 0) hx hb dX1_canAsk_84 (by decide) ?_
              refine W.widen (k := 0) (n := 0) (Nat.le_of_ble_eq_true rfl) (Nat.le_of_ble_eq_true rfl) ?_
              have hP9 := hP.sub (ws' := []) [] rfl
              have hD9 := hD.sub (ws' := []) [] (by decide) rfl
              exact W.zret (v := 0) hx hb hr rfl (fun t ht hW => ⟨⟨0, (), rfl, (by simp [okCan, inR, bI, c1, c2, c3, c18, c33, hB37]), ⟨by rw [ht]; exact hP9, hD9⟩⟩, hS.F ht⟩) hS.2.2 dX1_canAsk_85
    · refine lv_iload_n hx hb dX1_canAsk_17 rfl (lv_at hl 1 rfl) ?_
      have hPc := hP.sub (ws' := []) [] rfl
      have hDc := hD.sub (ws' := []) [] (by decide) rfl
      have hFc := va_free (wc := []) hD hS hA [] rfl
      refine va_calli (va_runSN (As := [.int p1]) (rest := []) ⟨hx, hb, hml, hown, hts⟩ (c_isWord l D dA E p1 s.heap.size ) ⟨(va_cnB (host := "TallowIndex") 1 hts (ga_I q345) rfl rfl rfl (hZ.1.2.2.2.1 _ (List.mem_of_getElem? (i := 4) rfl)) (hts _ q346) (by decide +kernel) ⟨(Nat.le_of_ble_eq_true rfl), (Nat.le_of_ble_eq_true rfl)⟩), hts _ q347, trivial⟩ ⟨pb_blind, pb_pre hK hPc hDc hZ hS hFc _⟩ rfl rfl hl.1 rfl (lv_room (Nat.le_of_ble_eq_true rfl)) dX1_canAsk_18 ⟨(Nat.le_of_ble_eq_true rfl), (Nat.le_of_ble_eq_true rfl)⟩) hS (fun q _ h => hFc q h) hFc (fun r u t H1 locs ht hvm hw hB hz1 hk1 hS => ?_)
      refine W.widen (k := 0) (n := 0) (Nat.le_of_ble_eq_true rfl) (Nat.le_of_ble_eq_true rfl) ?_
      obtain ⟨r47, rfl⟩ : ∃ z, z = r := ⟨_, rfl⟩
      obtain ⟨u48, rfl⟩ : ∃ z, z = u := ⟨_, rfl⟩
      have hw49 := hw
      clear hw
      obtain ⟨hP1, hD1⟩ := hB
      rw [ht] at hP1
      obtain ⟨hP, hD⟩ := va_join (wr := []) (w1 := []) hP hD [] [] rfl rfl (by decide) (by decide) hk1 hFc hP1 hD1
      generalize H1 = H at hP hS ⊢
      have hP : va_P D vwCl [] H := hP
      have hD : va_D A [] := hD
      refine bt (b := (okW p1)) ?_ ?_
      · intro hB50
        obtain rfl : r47 = 1 := hw49.trans (by rw [hB50]; rfl)
        refine lv_if_eq (tgt := 35) hx hb dX1_canAsk_21 (by decide) (fun c51 => absurd c51 (by decide)) (fun _ => ?_)
        refine lv_iload_n hx hb dX1_canAsk_24 rfl (lv_at hl 2 rfl) ?_
        have hPc := hP.sub (ws' := []) [] rfl
        have hDc := hD.sub (ws' := []) [] (by decide) rfl
        have hFc := va_free (wc := []) hD hS hA [] rfl
        refine va_calli (va_runSN (As := [.int p2]) (rest := []) ⟨hx, hb, hml, hown, hts⟩ (c_isWord l D dA E p2 H.size ) ⟨(va_cnB (host := "TallowIndex") 1 hts (ga_I q345) rfl rfl rfl (hZ.1.2.2.2.1 _ (List.mem_of_getElem? (i := 4) rfl)) (hts _ q346) (by decide +kernel) ⟨(Nat.le_of_ble_eq_true rfl), (Nat.le_of_ble_eq_true rfl)⟩), hts _ q347, trivial⟩ ⟨pb_blind, pb_pre hK hPc hDc hZ hS hFc _⟩ rfl rfl hl.1 rfl (lv_room (Nat.le_of_ble_eq_true rfl)) dX1_canAsk_25 ⟨(Nat.le_of_ble_eq_true rfl), (Nat.le_of_ble_eq_true rfl)⟩) hS (fun q _ h => hFc q h) hFc (fun r u t H1 locs ht hvm hw hB hz1 hk1 hS => ?_)
        refine W.widen (k := 0) (n := 0) (Nat.le_of_ble_eq_true rfl) (Nat.le_of_ble_eq_true rfl) ?_
        obtain ⟨r52, rfl⟩ : ∃ z, z = r := ⟨_, rfl⟩
        obtain ⟨u53, rfl⟩ : ∃ z, z = u := ⟨_, rfl⟩
        have hw54 := hw
        clear hw
        obtain ⟨hP1, hD1⟩ := hB
        rw [ht] at hP1
        obtain ⟨hP, hD⟩ := va_join (wr := []) (w1 := []) hP hD [] [] rfl rfl (by decide) (by decide) hk1 hFc hP1 hD1
        generalize H1 = H at hP hS ⊢
        have hP : va_P D vwCl [] H := hP
        have hD : va_D A [] := hD
        refine bt (b := (okW p2)) ?_ ?_
        · intro hB55
          obtain rfl : r52 = 1 := hw54.trans (by rw [hB55]; rfl)
          refine lv_if_eq (tgt := 35) hx hb dX1_canAsk_28 (by decide) (fun c56 => absurd c56 (by decide)) (fun _ => ?_)
          refine lv_iconst (v := 1) hx hb dX1_canAsk_31 (by decide) ?_
          refine lv_goto (tgt := 36) hx hb dX1_canAsk_32 (by decide) ?_
          refine W.widen (k := 0) (n := 0) (Nat.le_of_ble_eq_true rfl) (Nat.le_of_ble_eq_true rfl) ?_
          have hP9 := hP.sub (ws' := []) [] rfl
          have hD9 := hD.sub (ws' := []) [] (by decide) rfl
          exact W.zret (v := 1) hx hb hr rfl (fun t ht hW => ⟨⟨1, (), rfl, (by simp [okCan, inR, bI, c1, c2, hB50, hB55]), ⟨by rw [ht]; exact hP9, hD9⟩⟩, hS.F ht⟩) hS.2.2 dX1_canAsk_36
        · intro hB55
          obtain rfl : r52 = 0 := hw54.trans (by rw [hB55]; rfl)
          refine lv_if_eq (tgt := 35) hx hb dX1_canAsk_28 (by decide) (fun _ => ?_) (fun c57 => absurd (by decide) c57)
          refine lv_iconst (v := 0) hx hb dX1_canAsk_35 (by decide) ?_
          refine W.widen (k := 0) (n := 0) (Nat.le_of_ble_eq_true rfl) (Nat.le_of_ble_eq_true rfl) ?_
          have hP9 := hP.sub (ws' := []) [] rfl
          have hD9 := hD.sub (ws' := []) [] (by decide) rfl
          exact W.zret (v := 0) hx hb hr rfl (fun t ht hW => ⟨⟨0, (), rfl, (by simp [okCan, inR, bI, c1, c2, hB50, hB55]), ⟨by rw [ht]; exact hP9, hD9⟩⟩, hS.F ht⟩) hS.2.2 dX1_canAsk_36
      · intro hB50
        obtain rfl : r47 = 0 := hw49.trans (by rw [hB50]; rfl)
        refine lv_if_eq (tgt := 35) hx hb dX1_canAsk_21 (by decide) (fun _ => ?_) (fun c58 => absurd (by decide) c58)
        refine lv_iconst (v := 0) hx hb dX1_canAsk_35 (by decide) ?_
        refine W.widen (k := 0) (n := 0) (Nat.le_of_ble_eq_true rfl) (Nat.le_of_ble_eq_true rfl) ?_
        have hP9 := hP.sub (ws' := []) [] rfl
        have hD9 := hD.sub (ws' := []) [] (by decide) rfl
        exact W.zret (v := 0) hx hb hr rfl (fun t ht hW => ⟨⟨0, (), rfl, (by simp [okCan, inR, bI, c1, c2, hB50]), ⟨by rw [ht]; exact hP9, hD9⟩⟩, hS.F ht⟩) hS.2.2 dX1_canAsk_36
  · refine lv_iload_n hx hb dX1_canAsk_6 rfl (lv_at hl 1 rfl) ?_
    have hPc := hP.sub (ws' := []) [] rfl
    have hDc := hD.sub (ws' := []) [] (by decide) rfl
    have hFc := va_free (wc := []) hD hS hA [] rfl
    refine va_calli (va_runSN (As := [.int p1]) (rest := []) ⟨hx, hb, hml, hown, hts⟩ (c_isWord l D dA E p1 s.heap.size ) ⟨(va_cnB (host := "TallowIndex") 1 hts (ga_I q345) rfl rfl rfl (hZ.1.2.2.2.1 _ (List.mem_of_getElem? (i := 4) rfl)) (hts _ q346) (by decide +kernel) ⟨(Nat.le_of_ble_eq_true rfl), (Nat.le_of_ble_eq_true rfl)⟩), hts _ q347, trivial⟩ ⟨pb_blind, pb_pre hK hPc hDc hZ hS hFc _⟩ rfl rfl hl.1 rfl (lv_room (Nat.le_of_ble_eq_true rfl)) dX1_canAsk_7 ⟨(Nat.le_of_ble_eq_true rfl), (Nat.le_of_ble_eq_true rfl)⟩) hS (fun q _ h => hFc q h) hFc (fun r u t H1 locs ht hvm hw hB hz1 hk1 hS => ?_)
    refine W.widen (k := 0) (n := 0) (Nat.le_of_ble_eq_true rfl) (Nat.le_of_ble_eq_true rfl) ?_
    obtain ⟨r59, rfl⟩ : ∃ z, z = r := ⟨_, rfl⟩
    obtain ⟨u60, rfl⟩ : ∃ z, z = u := ⟨_, rfl⟩
    have hw61 := hw
    clear hw
    obtain ⟨hP1, hD1⟩ := hB
    rw [ht] at hP1
    obtain ⟨hP, hD⟩ := va_join (wr := []) (w1 := []) hP hD [] [] rfl rfl (by decide) (by decide) hk1 hFc hP1 hD1
    generalize H1 = H at hP hS ⊢
    have hP : va_P D vwCl [] H := hP
    have hD : va_D A [] := hD
    refine bt (b := (okW p1)) ?_ ?_
    · intro hB62
      obtain rfl : r59 = 1 := hw61.trans (by rw [hB62]; rfl)
      refine W.widen (k := 0) (n := 0) (Nat.le_of_ble_eq_true rfl) (Nat.le_of_ble_eq_true rfl) ?_
      have hP9 := hP.sub (ws' := []) [] rfl
      have hD9 := hD.sub (ws' := []) [] (by decide) rfl
      exact W.zret (v := 1) hx hb hr rfl (fun t ht hW => ⟨⟨1, (), rfl, (by simp [okCan, inR, bI, c1, hB62]), ⟨by rw [ht]; exact hP9, hD9⟩⟩, hS.F ht⟩) hS.2.2 dX1_canAsk_10
    · intro hB62
      obtain rfl : r59 = 0 := hw61.trans (by rw [hB62]; rfl)
      refine W.widen (k := 0) (n := 0) (Nat.le_of_ble_eq_true rfl) (Nat.le_of_ble_eq_true rfl) ?_
      have hP9 := hP.sub (ws' := []) [] rfl
      have hD9 := hD.sub (ws' := []) [] (by decide) rfl
      exact W.zret (v := 0) hx hb hr rfl (fun t ht hW => ⟨⟨0, (), rfl, (by simp [okCan, inR, bI, c1, hB62]), ⟨by rw [ht]; exact hP9, hD9⟩⟩, hS.F ht⟩) hS.2.2 dX1_canAsk_10

set_option maxHeartbeats 4000000 in
set_option maxRecDepth 100000 in
theorem c_canJoin (l : Launch) (D : va_G) (dA : Nat → ClassId) (E : Nat) (p0 : Int32) (sz : Nat)   : Met l yX1_canJoin (wq (.code yX1_canJoin cX1_canJoin 1 (some .boolean))) { frames := 0, cells := 0, slots := 0, locals := 0 } (va_Pc [.int p0] (PcB D dA E [] sz)) (va_Qi (fun (r : Int32) (u : Unit) => r = bI (okJ p0)) (fun u t => va_P D vwCl [] t.heap ∧ va_D (va_A [] sz) []) (va_A [] sz)) 0 0 (va_A [] sz) := by
  refine mb_of (Qc := fun A => va_Qi (fun (r : Int32) (u : Unit) => r = bI (okJ p0)) (fun u t => va_P D vwCl [] t.heap ∧ va_D A []) A) RX1 rfl (by decide) (Nat.le_of_ble_eq_true rfl) ?_
  intro p e s m args below meth c hae hx hb hr hts hown hlocks hml hnm hP hK A hAe hD hZ hS hA ls hl
  have hl : lv_has ls 1 [(0, .int p0)] := hl
  refine lv_iload_n hx hb dX1_canJoin_0 rfl (lv_at hl 0 rfl) ?_
  refine lv_bipush (v := 97) hx hb dX1_canJoin_1 (by decide) ?_
  refine lv_icmp_eq (tgt := 24) hx hb dX1_canJoin_3 (by decide) (fun c1 => ?_) (fun c1 => ?_)
  · refine lv_iconst (v := 1) hx hb dX1_canJoin_24 (by decide) ?_
    refine lv_goto (tgt := 29) hx hb dX1_canJoin_25 (by decide) ?_
    refine W.widen (k := 0) (n := 0) (Nat.le_of_ble_eq_true rfl) (Nat.le_of_ble_eq_true rfl) ?_
    have hP9 := hP.sub (ws' := []) [] rfl
    have hD9 := hD.sub (ws' := []) [] (by decide) rfl
    exact W.zret (v := 1) hx hb hr rfl (fun t ht hW => ⟨⟨1, (), rfl, (by simp [okJ, bI, c1]), ⟨by rw [ht]; exact hP9, hD9⟩⟩, hS.F ht⟩) hS.2.2 dX1_canJoin_29
  · refine lv_iload_n hx hb dX1_canJoin_6 rfl (lv_at hl 0 rfl) ?_
    refine lv_bipush (v := 111) hx hb dX1_canJoin_7 (by decide) ?_
    refine lv_icmp_eq (tgt := 24) hx hb dX1_canJoin_9 (by decide) (fun c2 => ?_) (fun c2 => ?_)
    · refine lv_iconst (v := 1) hx hb dX1_canJoin_24 (by decide) ?_
      refine lv_goto (tgt := 29) hx hb dX1_canJoin_25 (by decide) ?_
      refine W.widen (k := 0) (n := 0) (Nat.le_of_ble_eq_true rfl) (Nat.le_of_ble_eq_true rfl) ?_
      have hP9 := hP.sub (ws' := []) [] rfl
      have hD9 := hD.sub (ws' := []) [] (by decide) rfl
      exact W.zret (v := 1) hx hb hr rfl (fun t ht hW => ⟨⟨1, (), rfl, (by simp [okJ, bI, c1, c2]), ⟨by rw [ht]; exact hP9, hD9⟩⟩, hS.F ht⟩) hS.2.2 dX1_canJoin_29
    · refine lv_iload_n hx hb dX1_canJoin_12 rfl (lv_at hl 0 rfl) ?_
      refine lv_bipush (v := 120) hx hb dX1_canJoin_13 (by decide) ?_
      refine lv_icmp_eq (tgt := 24) hx hb dX1_canJoin_15 (by decide) (fun c3 => ?_) (fun c3 => ?_)
      · refine lv_iconst (v := 1) hx hb dX1_canJoin_24 (by decide) ?_
        refine lv_goto (tgt := 29) hx hb dX1_canJoin_25 (by decide) ?_
        refine W.widen (k := 0) (n := 0) (Nat.le_of_ble_eq_true rfl) (Nat.le_of_ble_eq_true rfl) ?_
        have hP9 := hP.sub (ws' := []) [] rfl
        have hD9 := hD.sub (ws' := []) [] (by decide) rfl
        exact W.zret (v := 1) hx hb hr rfl (fun t ht hW => ⟨⟨1, (), rfl, (by simp [okJ, bI, c1, c2, c3]), ⟨by rw [ht]; exact hP9, hD9⟩⟩, hS.F ht⟩) hS.2.2 dX1_canJoin_29
      · refine lv_iload_n hx hb dX1_canJoin_18 rfl (lv_at hl 0 rfl) ?_
        refine lv_bipush (v := 105) hx hb dX1_canJoin_19 (by decide) ?_
        refine lv_icmp_ne (tgt := 28) hx hb dX1_canJoin_21 (by decide) (fun c4 => ?_) (fun c4 => ?_)
        · refine lv_iconst (v := 0) hx hb dX1_canJoin_28 (by decide) ?_
          refine W.widen (k := 0) (n := 0) (Nat.le_of_ble_eq_true rfl) (Nat.le_of_ble_eq_true rfl) ?_
          have hP9 := hP.sub (ws' := []) [] rfl
          have hD9 := hD.sub (ws' := []) [] (by decide) rfl
          exact W.zret (v := 0) hx hb hr rfl (fun t ht hW => ⟨⟨0, (), rfl, (by simp [okJ, bI, c1, c2, c3, c4]), ⟨by rw [ht]; exact hP9, hD9⟩⟩, hS.F ht⟩) hS.2.2 dX1_canJoin_29
        · refine lv_iconst (v := 1) hx hb dX1_canJoin_24 (by decide) ?_
          refine lv_goto (tgt := 29) hx hb dX1_canJoin_25 (by decide) ?_
          refine W.widen (k := 0) (n := 0) (Nat.le_of_ble_eq_true rfl) (Nat.le_of_ble_eq_true rfl) ?_
          have hP9 := hP.sub (ws' := []) [] rfl
          have hD9 := hD.sub (ws' := []) [] (by decide) rfl
          exact W.zret (v := 1) hx hb hr rfl (fun t ht hW => ⟨⟨1, (), rfl, (by simp [okJ, bI, c1, c2, c3, c4]), ⟨by rw [ht]; exact hP9, hD9⟩⟩, hS.F ht⟩) hS.2.2 dX1_canJoin_29
