/-! CONTRACTS, p1 -/
theorem q149 : (.code yX5_canBe cX5_canBe 3 (some .boolean) : Cond) ∈ WA := WA_of (tb_2 0 rfl) rfl
theorem q150 : (.methodLink RX8 51 yX5_canBe : Cond) ∈ WA := WA_of (tb_1 238 rfl) rfl
theorem q151 : (.static yX5_canBe : Cond) ∈ WA := WA_of (tb_1 239 rfl) rfl
theorem q152 : (.initialized RX5 : Cond) ∈ WA := WA_of (tb_1 9 rfl) rfl
theorem q153 : (.classLink RX8 52 RX5 : Cond) ∈ WA := WA_of (tb_2 91 rfl) rfl
theorem q154 : (.instantiable RX5 3 : Cond) ∈ WA := WA_of (tb_2 92 rfl) rfl
theorem q155 : (.code yX5_init cX5_init 4 none : Cond) ∈ WA := WA_of (tb_2 95 rfl) rfl
theorem q156 : (.methodLink RX8 73 yX5_init : Cond) ∈ WA := WA_of (tb_2 93 rfl) rfl
theorem q157 : (.instanceMethod yX5_init : Cond) ∈ WA := WA_of (tb_2 94 rfl) rfl
theorem q158 : (.selects RJx4a65c yJx4a65c_add_9ea2d yJx4a65c_add_9ea2d : Cond) ∈ WA := WA_of (tb_2 109 rfl) rfl
theorem q159 : (.code yJx4a65c_add_9ea2d cJx4a65c_add_9ea2d 2 (some .boolean) : Cond) ∈ WA := WA_of (tb_2 110 rfl) rfl
theorem q160 : (.methodLink RX8 76 yJx4a65c_add_9ea2d : Cond) ∈ WA := WA_of (tb_2 107 rfl) rfl
theorem q161 : (.instanceMethod yJx4a65c_add_9ea2d : Cond) ∈ WA := WA_of (tb_2 108 rfl) rfl
theorem q162 : (.selects RJx4a65c yJx4a65c_clear_da8c8 yJx4a65c_clear_da8c8 : Cond) ∈ WA := WA_of (tb_1 178 rfl) rfl
theorem q163 : (.code yJx4a65c_clear_da8c8 cJx4a65c_clear_da8c8 4 none : Cond) ∈ WA := WA_of (tb_1 179 rfl) rfl
theorem q164 : (.methodLink RX8 80 yJx4a65c_clear_da8c8 : Cond) ∈ WA := WA_of (tb_1 176 rfl) rfl
theorem q165 : (.instanceMethod yJx4a65c_clear_da8c8 : Cond) ∈ WA := WA_of (tb_1 177 rfl) rfl
theorem q166 : (.code yX8_checkTag cX8_checkTag 1 none : Cond) ∈ WA := WA_of (tb_2 204 rfl) rfl
theorem q167 : (.methodLink RX8 83 yX8_checkTag : Cond) ∈ WA := WA_of (tb_2 202 rfl) rfl
theorem q168 : (.static yX8_checkTag : Cond) ∈ WA := WA_of (tb_2 203 rfl) rfl
theorem q169 : (.fieldLink RX8 89 "TallowIndex" "opened" "LTallowIndex$Document;" : Cond) ∈ WA := WA_of (tb_1 139 rfl) rfl
theorem q170 : (.classLink RX8 97 RX0 : Cond) ∈ WA := WA_of (tb_2 225 rfl) rfl
theorem q171 : (.instantiable RX0 4 : Cond) ∈ WA := WA_of (tb_2 226 rfl) rfl
theorem q172 : (.initialized RX0 : Cond) ∈ WA := WA_of (tb_1 22 rfl) rfl
theorem q173 : (.code yX0_init cX0_init 3 none : Cond) ∈ WA := WA_of (tb_2 229 rfl) rfl
theorem q174 : (.methodLink RX8 99 yX0_init : Cond) ∈ WA := WA_of (tb_2 227 rfl) rfl
theorem q175 : (.instanceMethod yX0_init : Cond) ∈ WA := WA_of (tb_2 228 rfl) rfl
theorem q176 : (.methodLink RX8 102 yX8_isWord : Cond) ∈ WA := WA_of (tb_3 43 rfl) rfl
theorem q177 : (.classLink RX8 68 "java/lang/IllegalStateException" : Cond) ∈ WA := WA_of (tb_2 75 rfl) rfl
theorem q178 : (.initialized "java/lang/IllegalStateException" : Cond) ∈ WA := WA_of (tb_1 14 rfl) rfl
theorem q179 : (.selects RX8 yX8_documentNumbered yX8_documentNumbered : Cond) ∈ WA := WA_of (sb_1 7 rfl) rfl
theorem q180 : (.code yX8_documentNumbered cX8_documentNumbered 2 (some (.object "TallowIndex$Document")) : Cond) ∈ WA := WA_of (tb_3 147 rfl) rfl
theorem q181 : (.methodLink RX8 149 yX8_documentNumbered : Cond) ∈ WA := WA_of (tb_3 144 rfl) rfl
theorem q182 : (.instanceMethod yX8_documentNumbered : Cond) ∈ WA := WA_of (tb_3 146 rfl) rfl
theorem q183 : (.selects RX4 yX4_writeBuffer yX4_writeBuffer : Cond) ∈ WA := WA_of (tb_1 186 rfl) rfl
theorem q184 : (.code yX4_writeBuffer cX4_writeBuffer 3 (some .int) : Cond) ∈ WA := WA_of (tb_1 187 rfl) rfl
theorem q185 : (.methodLink RX8 157 yX4_writeBuffer : Cond) ∈ WA := WA_of (tb_1 184 rfl) rfl
theorem q186 : (.instanceMethod yX4_writeBuffer : Cond) ∈ WA := WA_of (tb_1 185 rfl) rfl
theorem q187 : (.selects RX4 yX4_hasSegment yX4_hasSegment : Cond) ∈ WA := WA_of (tb_3 165 rfl) rfl
theorem q188 : (.code yX4_hasSegment cX4_hasSegment 2 (some .boolean) : Cond) ∈ WA := WA_of (tb_3 166 rfl) rfl
theorem q189 : (.methodLink RX8 163 yX4_hasSegment : Cond) ∈ WA := WA_of (tb_3 163 rfl) rfl
theorem q190 : (.instanceMethod yX4_hasSegment : Cond) ∈ WA := WA_of (tb_3 164 rfl) rfl
theorem q191 : (.selects RX4 yX4_takeOver yX4_takeOver : Cond) ∈ WA := WA_of (tb_1 210 rfl) rfl
theorem q192 : (.code yX4_takeOver cX4_takeOver 2 none : Cond) ∈ WA := WA_of (tb_1 211 rfl) rfl
theorem q193 : (.methodLink RX8 180 yX4_takeOver : Cond) ∈ WA := WA_of (tb_1 208 rfl) rfl
theorem q194 : (.instanceMethod yX4_takeOver : Cond) ∈ WA := WA_of (tb_1 209 rfl) rfl
theorem q195 : (.fieldLink RX8 184 "TallowIndex" "commits" "I" : Cond) ∈ WA := WA_of (tb_1 140 rfl) rfl
theorem q196 : (.selects RX4 yX4_goBackTo yX4_goBackTo : Cond) ∈ WA := WA_of (tb_1 223 rfl) rfl
theorem q197 : (.code yX4_goBackTo cX4_goBackTo 6 (some .int) : Cond) ∈ WA := WA_of (tb_1 224 rfl) rfl
theorem q198 : (.methodLink RX8 187 yX4_goBackTo : Cond) ∈ WA := WA_of (tb_1 221 rfl) rfl
theorem q199 : (.instanceMethod yX4_goBackTo : Cond) ∈ WA := WA_of (tb_1 222 rfl) rfl
theorem q200 : (.selects RX4 yX4_listPresent yX4_listPresent : Cond) ∈ WA := WA_of (tb_3 198 rfl) rfl
theorem q201 : (.code yX4_listPresent cX4_listPresent 4 (some .int) : Cond) ∈ WA := WA_of (tb_3 199 rfl) rfl
theorem q202 : (.methodLink RX8 193 yX4_listPresent : Cond) ∈ WA := WA_of (tb_3 196 rfl) rfl
theorem q203 : (.instanceMethod yX4_listPresent : Cond) ∈ WA := WA_of (tb_3 197 rfl) rfl
theorem q204 : (.classLink RX8 201 RX7 : Cond) ∈ WA := WA_of (tb_3 220 rfl) rfl
theorem q205 : (.instantiable RX7 3 : Cond) ∈ WA := WA_of (tb_3 221 rfl) rfl
theorem q206 : (.initialized RX7 : Cond) ∈ WA := WA_of (tb_1 26 rfl) rfl
theorem q207 : (.fieldLink RX8 203 "TallowIndex" "viewsOpened" "I" : Cond) ∈ WA := WA_of (tb_1 141 rfl) rfl
theorem q208 : (.code yX7_init cX7_init 4 none : Cond) ∈ WA := WA_of (tb_3 224 rfl) rfl
theorem q209 : (.methodLink RX8 206 yX7_init : Cond) ∈ WA := WA_of (tb_3 222 rfl) rfl
theorem q210 : (.instanceMethod yX7_init : Cond) ∈ WA := WA_of (tb_3 223 rfl) rfl
theorem q211 : (.code yX1_canAsk cX1_canAsk 5 (some .boolean) : Cond) ∈ WA := WA_of (tb_4 40 rfl) rfl
theorem q212 : (.methodLink RX8 222 yX1_canAsk : Cond) ∈ WA := WA_of (tb_4 38 rfl) rfl
theorem q213 : (.static yX1_canAsk : Cond) ∈ WA := WA_of (tb_4 39 rfl) rfl
theorem q214 : (.initialized RX1 : Cond) ∈ WA := WA_of (tb_1 27 rfl) rfl
theorem q215 : (.classLink RX8 223 RX1 : Cond) ∈ WA := WA_of (tb_4 45 rfl) rfl
theorem q216 : (.instantiable RX1 6 : Cond) ∈ WA := WA_of (tb_4 46 rfl) rfl
theorem q217 : (.code yX1_init cX1_init 7 none : Cond) ∈ WA := WA_of (tb_4 49 rfl) rfl
theorem q218 : (.methodLink RX8 234 yX1_init : Cond) ∈ WA := WA_of (tb_4 47 rfl) rfl
theorem q219 : (.instanceMethod yX1_init : Cond) ∈ WA := WA_of (tb_4 48 rfl) rfl
theorem q220 : (.code yX1_canJoin cX1_canJoin 1 (some .boolean) : Cond) ∈ WA := WA_of (tb_4 82 rfl) rfl
theorem q221 : (.methodLink RX8 237 yX1_canJoin : Cond) ∈ WA := WA_of (tb_4 80 rfl) rfl
theorem q222 : (.static yX1_canJoin : Cond) ∈ WA := WA_of (tb_4 81 rfl) rfl
theorem q223 : (.selects RX8 yX8_checkQuery yX8_checkQuery : Cond) ∈ WA := WA_of (sb_1 12 rfl) rfl
theorem q224 : (.code yX8_checkQuery cX8_checkQuery 2 none : Cond) ∈ WA := WA_of (tb_4 87 rfl) rfl
theorem q225 : (.methodLink RX8 243 yX8_checkQuery : Cond) ∈ WA := WA_of (tb_4 84 rfl) rfl
theorem q226 : (.instanceMethod yX8_checkQuery : Cond) ∈ WA := WA_of (tb_4 86 rfl) rfl
theorem q227 : (.selects RX8 yX8_find yX8_find : Cond) ∈ WA := WA_of (sb_1 13 rfl) rfl
theorem q228 : (.code yX8_find cX8_find 4 (some (.object "TallowIndex$View")) : Cond) ∈ WA := WA_of (tb_4 100 rfl) rfl
theorem q229 : (.methodLink RX8 251 yX8_find : Cond) ∈ WA := WA_of (tb_4 97 rfl) rfl
theorem q230 : (.instanceMethod yX8_find : Cond) ∈ WA := WA_of (tb_4 99 rfl) rfl
theorem q231 : (.fieldLink RX8 297 "TallowIndex" "bound" "I" : Cond) ∈ WA := WA_of (tb_1 142 rfl) rfl
theorem q232 : (.selects RX4 yX4_inSegments yX4_inSegments : Cond) ∈ WA := WA_of (tb_5 99 rfl) rfl
theorem q233 : (.code yX4_inSegments cX4_inSegments 3 (some .int) : Cond) ∈ WA := WA_of (tb_5 100 rfl) rfl
theorem q234 : (.methodLink RX8 300 yX4_inSegments : Cond) ∈ WA := WA_of (tb_5 97 rfl) rfl
theorem q235 : (.instanceMethod yX4_inSegments : Cond) ∈ WA := WA_of (tb_5 98 rfl) rfl
theorem q236 : (.classLink RX8 303 "java/lang/ArithmeticException" : Cond) ∈ WA := WA_of (tb_5 101 rfl) rfl
theorem q237 : (.initialized "java/lang/ArithmeticException" : Cond) ∈ WA := WA_of (tb_1 29 rfl) rfl
theorem hat0_RX8_72 : ∀ w ∈ (vx_atS RX8 72 "java/lang/IllegalStateException" ["java/lang/RuntimeException", "java/lang/Exception"]).filter goodWord, w ∈ lw_tbl := by decide +kernel
theorem hat_RX8_72 {args : Array Value} {s : State} (hts : ∀ w ∈ WA, w.before args s = true) (hz : ZS s) : ∀ w ∈ vx_atS RX8 72 "java/lang/IllegalStateException" ["java/lang/RuntimeException", "java/lang/Exception"], w.before args s = true := vx_hat (L := vx_atS RX8 72 "java/lang/IllegalStateException" ["java/lang/RuntimeException", "java/lang/Exception"]) (B := [.castable "java/lang/IllegalStateException" "java/lang/IllegalStateException", .declares ⟨"java/lang/RuntimeException", "<init>", "(Ljava/lang/String;)V"⟩, .declares ⟨"java/lang/Exception", "<init>", "(Ljava/lang/String;)V"⟩, .declares ⟨"java/lang/Throwable", "<init>", "(Ljava/lang/String;)V"⟩]) (fun w hw => hts w (WA_of (hat0_RX8_72 w hw) (List.mem_filter.mp hw).2)) (by decide +kernel) (vx_c (va_Nw.use rfl (hz.1 _ (List.mem_of_getElem? (i := 1) rfl))) (vx_c (va_Nw.use rfl (hz.2.1 _ (List.mem_of_getElem? (i := 1) rfl))) (vx_c (va_Nw.use rfl (hz.2.1 _ (List.mem_of_getElem? (i := 3) rfl))) (vx_c (va_Nw.use rfl (hz.2.1 _ (List.mem_of_getElem? (i := 5) rfl))) (vx_n)))))
theorem hgd_RX8_72_68 : ∀ w ∈ Cond.classLink RX8 68 "java/lang/IllegalStateException" :: Cond.initialized "java/lang/IllegalStateException" :: vx_atS RX8 72 "java/lang/IllegalStateException" ["java/lang/RuntimeException", "java/lang/Exception"], vx_ot w = true := by decide +kernel
theorem hat0_RX8_307 : ∀ w ∈ (vx_atS RX8 307 "java/lang/ArithmeticException" ["java/lang/RuntimeException", "java/lang/Exception"]).filter goodWord, w ∈ lw_tbl := by decide +kernel
theorem hat_RX8_307 {args : Array Value} {s : State} (hts : ∀ w ∈ WA, w.before args s = true) (hz : ZS s) : ∀ w ∈ vx_atS RX8 307 "java/lang/ArithmeticException" ["java/lang/RuntimeException", "java/lang/Exception"], w.before args s = true := vx_hat (L := vx_atS RX8 307 "java/lang/ArithmeticException" ["java/lang/RuntimeException", "java/lang/Exception"]) (B := [.castable "java/lang/ArithmeticException" "java/lang/ArithmeticException", .declares ⟨"java/lang/RuntimeException", "<init>", "(Ljava/lang/String;)V"⟩, .declares ⟨"java/lang/Exception", "<init>", "(Ljava/lang/String;)V"⟩, .declares ⟨"java/lang/Throwable", "<init>", "(Ljava/lang/String;)V"⟩]) (fun w hw => hts w (WA_of (hat0_RX8_307 w hw) (List.mem_filter.mp hw).2)) (by decide +kernel) (vx_c (va_Nw.use rfl (hz.1 _ (List.mem_of_getElem? (i := 5) rfl))) (vx_c (va_Nw.use rfl (hz.2.1 _ (List.mem_of_getElem? (i := 1) rfl))) (vx_c (va_Nw.use rfl (hz.2.1 _ (List.mem_of_getElem? (i := 3) rfl))) (vx_c (va_Nw.use rfl (hz.2.1 _ (List.mem_of_getElem? (i := 5) rfl))) (vx_n)))))
theorem hgd_RX8_307_303 : ∀ w ∈ Cond.classLink RX8 303 "java/lang/ArithmeticException" :: Cond.initialized "java/lang/ArithmeticException" :: vx_atS RX8 307 "java/lang/ArithmeticException" ["java/lang/RuntimeException", "java/lang/Exception"], vx_ot w = true := by decide +kernel
theorem nle_lt {x y : Int32} (h : ¬ x ≤ y) : y < x := by
  have e1 : y < x ↔ y.toInt < x.toInt := Int32.lt_iff_toInt_lt
  have e2 : x ≤ y ↔ x.toInt ≤ y.toInt := Int32.le_iff_toInt_le
  exact e1.mpr (by have := mt e2.mpr h; omega)
def okAsk (k a b d w : Int32) : Bool := okCan k a b d && inR 1 9 w
set_option maxHeartbeats 4000000 in
set_option maxRecDepth 100000 in
theorem c_X8_addStep (l : Launch) (hlt : l.stackTraces = false) (D : va_G) (dA : Nat → ClassId) (E : Nat) (a : Nat → Nat) (p0 p1 p2 : Int32) (sz : Nat) (hch : narrow .char (.int p0) = .int p0 ∧ fits .char (.int p0) = true) : vx_Met l yX8_addStep (wq (.code yX8_addStep cX8_addStep 4 (some .int))) { frames := 6, cells := 2, slots := 13, locals := 101 } (va_Pc [.ref (a 0), .int p0, .int p1, .int p2] (PcB D dA E [(a 0, .inr (11, [.ref (a 1), .ref (a 2), .ref (a 3), .ref (a 4), .ref (a 5), .ref (a 10), .ref (a 15), .ref (a 17), .null, .int 0, .int 0, .int 0])), (a 1, .inr (2, [.int 0, .ref E, .int 0]))] sz)) (va_Qi (fun (r : Int32) (u : Unit) => (okStep p0 p1 p2 = true) ∧ r = 1) (fun u t => True) (va_A [(a 0, .inr (11, [.ref (a 1), .ref (a 2), .ref (a 3), .ref (a 4), .ref (a 5), .ref (a 10), .ref (a 15), .ref (a 17), .null, .int 0, .int 0, .int 0])), (a 1, .inr (2, [.int 0, .ref E, .int 0]))] sz)) (vx_X (fun (k : Nat) => (okStep p0 p1 p2 = false) ∧ k = 1) (fun E9 k t => E9 = xN k) (va_A [(a 0, .inr (11, [.ref (a 1), .ref (a 2), .ref (a 3), .ref (a 4), .ref (a 5), .ref (a 10), .ref (a 15), .ref (a 17), .null, .int 0, .int 0, .int 0])), (a 1, .inr (2, [.int 0, .ref E, .int 0]))] sz)) 2 13 (va_A [(a 0, .inr (11, [.ref (a 1), .ref (a 2), .ref (a 3), .ref (a 4), .ref (a 5), .ref (a 10), .ref (a 15), .ref (a 17), .null, .int 0, .int 0, .int 0])), (a 1, .inr (2, [.int 0, .ref E, .int 0]))] sz) := by
  refine mx_of (Qc := fun A => va_Qi (fun (r : Int32) (u : Unit) => (okStep p0 p1 p2 = true) ∧ r = 1) (fun u t => True) A) (XC := fun A => vx_X (fun (k : Nat) => (okStep p0 p1 p2 = false) ∧ k = 1) (fun E9 k t => E9 = xN k) A) RX8 rfl (by decide) (Nat.le_of_ble_eq_true rfl) ?_
  intro p e s m args below meth c hae hx hb hr hts hown hlocks hml hnm htb hP hK A hAe hD hZ hS hA ls hl
  have hl : lv_has ls 4 [(0, .ref (a 0)), (1, .int p0), (2, .int p1), (3, .int p2)] := hl
  refine lv_iload_n hx hb dX8_addStep_0 rfl (lv_at hl 1 rfl) ?_
  refine lv_iload_n hx hb dX8_addStep_1 rfl (lv_at hl 2 rfl) ?_
  refine lv_iload_n hx hb dX8_addStep_2 rfl (lv_at hl 3 rfl) ?_
  have hPc := hP.sub (ws' := []) [] rfl
  have hDc := hD.sub (ws' := []) [] (by decide) rfl
  have hFc := va_free (wc := []) hD hS hA [] rfl
  refine va_calli (va_runS (As := [.int p0, .int p1, .int p2]) (rest := []) ⟨hx, hb, hml, hown, hts⟩ (c_canBe l D dA E p0 p1 p2 s.heap.size ) (va_cwS 3 hts (ga_S q150 q151 q152 q149) rfl rfl rfl (by decide +kernel) ⟨(Nat.le_of_ble_eq_true rfl), (Nat.le_of_ble_eq_true rfl)⟩) ⟨pb_blind, pb_pre hK hPc hDc hZ hS hFc _⟩ rfl rfl hl.1 rfl (lv_room (Nat.le_of_ble_eq_true rfl)) dX8_addStep_3 ⟨(Nat.le_of_ble_eq_true rfl), (Nat.le_of_ble_eq_true rfl)⟩) hS (fun q _ h => hFc q h) hFc (fun r u t H1 locs ht hvm hw hB hz1 hk1 hS => ?_)
  refine W.widen (k := 0) (n := 0) (Nat.le_of_ble_eq_true rfl) (Nat.le_of_ble_eq_true rfl) ?_
  obtain ⟨r1, rfl⟩ : ∃ z, z = r := ⟨_, rfl⟩
  obtain ⟨u2, rfl⟩ : ∃ z, z = u := ⟨_, rfl⟩
  have hw3 := hw
  clear hw
  obtain ⟨hP, hD⟩ := jn_drop (wr := [(a 0, .inr (11, [.ref (a 1), .ref (a 2), .ref (a 3), .ref (a 4), .ref (a 5), .ref (a 10), .ref (a 15), .ref (a 17), .null, .int 0, .int 0, .int 0])), (a 1, .inr (2, [.int 0, .ref E, .int 0]))]) hP hD [] [0, 1] rfl rfl (by decide) (by decide) hk1 hFc
  generalize H1 = H at hP hS ⊢
  have hP : va_P D vwCl [(a 0, .inr (11, [.ref (a 1), .ref (a 2), .ref (a 3), .ref (a 4), .ref (a 5), .ref (a 10), .ref (a 15), .ref (a 17), .null, .int 0, .int 0, .int 0])), (a 1, .inr (2, [.int 0, .ref E, .int 0]))] H := hP
  have hD : va_D A [(a 0, .inr (11, [.ref (a 1), .ref (a 2), .ref (a 3), .ref (a 4), .ref (a 5), .ref (a 10), .ref (a 15), .ref (a 17), .null, .int 0, .int 0, .int 0])), (a 1, .inr (2, [.int 0, .ref E, .int 0]))] := hD
  refine bt (b := (okStep p0 p1 p2)) ?_ ?_
  · intro hB4
    obtain rfl : r1 = 1 := hw3.trans (by rw [hB4]; rfl)
    refine lv_if_ne (tgt := 19) hx hb dX8_addStep_6 (by decide) (fun _ => ?_) (fun c5 => absurd c5 (by decide))
    refine lv_aload_n hx hb dX8_addStep_19 rfl (lv_at hl 0 rfl) ?_
    refine va_get (D := D) (ci := 11) (v := .ref (a 1)) (C := RX8) (T := TX8) (N := 12) hx hb hts inAX8 hown hK hP 0 rfl rfl 0 (by decide) (hts _ q92) (fun _ h9 => h9) rfl dX8_addStep_20 ?_
    have hPc := hP.sub (ws' := [(a 1, .inr (2, [.int 0, .ref E, .int 0]))]) [1] rfl
    have hDc := hD.sub (ws' := [(a 1, .inr (2, [.int 0, .ref E, .int 0]))]) [1] (by decide) rfl
    have hFc := va_free (wc := [(a 1, .inr (2, [.int 0, .ref E, .int 0]))]) hD hS hA [1] rfl
    refine va_calli (va_runV (As := []) (rest := []) ⟨hx, hb, hml, hown, hts⟩ (c_size l D dA E (a 1) 0 (.ref E) 0 H.size ) (cwV 0 hts (ga_V q121 q122 q119 q12 q120) rfl rfl rfl (by decide +kernel) ⟨(Nat.le_of_ble_eq_true rfl), (Nat.le_of_ble_eq_true rfl)⟩) ⟨pb_blind, va_recv hK hPc (ci := 2) (q0 := 0) rfl rfl, pb_pre hK hPc hDc hZ hS hFc _⟩ rfl rfl hl.1 rfl (lv_room (Nat.le_of_ble_eq_true rfl)) dX8_addStep_23 ⟨(Nat.le_of_ble_eq_true rfl), (Nat.le_of_ble_eq_true rfl)⟩) hS (fun q _ h => hFc q h) hFc (fun r u t H1 locs ht hvm hw hB hz1 hk1 hS => ?_)
    refine W.widen (k := 0) (n := 0) (Nat.le_of_ble_eq_true rfl) (Nat.le_of_ble_eq_true rfl) ?_
    obtain ⟨r6, rfl⟩ : ∃ z, z = r := ⟨_, rfl⟩
    obtain ⟨u7, rfl⟩ : ∃ z, z = u := ⟨_, rfl⟩
    have hw8 := hw
    clear hw
    obtain ⟨hP1, hD1⟩ := hB
    rw [ht] at hP1
    obtain ⟨hP, hD⟩ := va_join (wr := [(a 0, .inr (11, [.ref (a 1), .ref (a 2), .ref (a 3), .ref (a 4), .ref (a 5), .ref (a 10), .ref (a 15), .ref (a 17), .null, .int 0, .int 0, .int 0]))]) (w1 := [(a 1, .inr (2, [.int 0, .ref E, .int 0]))]) hP hD [1] [0] rfl rfl (by decide) (by decide) hk1 hFc hP1 hD1
    generalize H1 = H at hP hS ⊢
    have hP : va_P D vwCl [(a 0, .inr (11, [.ref (a 1), .ref (a 2), .ref (a 3), .ref (a 4), .ref (a 5), .ref (a 10), .ref (a 15), .ref (a 17), .null, .int 0, .int 0, .int 0])), (a 1, .inr (2, [.int 0, .ref E, .int 0]))] H := hP
    have hD : va_D A [(a 0, .inr (11, [.ref (a 1), .ref (a 2), .ref (a 3), .ref (a 4), .ref (a 5), .ref (a 10), .ref (a 15), .ref (a 17), .null, .int 0, .int 0, .int 0])), (a 1, .inr (2, [.int 0, .ref E, .int 0]))] := hD
    obtain rfl : r6 = 0 := hw8
    refine lv_bipush (v := 6) hx hb dX8_addStep_26 (by decide) ?_
    refine lv_icmp_lt (tgt := 41) hx hb dX8_addStep_28 (by decide) (fun _ => ?_) (fun c9 => absurd (by decide) c9)
    refine lv_aload_n hx hb dX8_addStep_41 rfl (lv_at hl 0 rfl) ?_
    refine va_get (D := D) (ci := 11) (v := .ref (a 1)) (C := RX8) (T := TX8) (N := 12) hx hb hts inAX8 hown hK hP 0 rfl rfl 0 (by decide) (hts _ q92) (fun _ h9 => h9) rfl dX8_addStep_42 ?_
    refine va_new (ci := 8) (fs := [.int 0, .int 0, .int 0]) (C := RX5) (T := TX5) (N := 3) hx hb hts inAX5 tyX5 tyX5_ok hown (hts _ q153) (hts _ q154) (hts _ q152) hK hP hD hS hA rfl fsNX5 (Nat.le_of_ble_eq_true rfl) (Nat.le_of_ble_eq_true rfl) dX8_addStep_45 (fun q10 H hP hD hS => ?_)
    have hP : va_P D vwCl [(a 0, .inr (11, [.ref (a 1), .ref (a 2), .ref (a 3), .ref (a 4), .ref (a 5), .ref (a 10), .ref (a 15), .ref (a 17), .null, .int 0, .int 0, .int 0])), (a 1, .inr (2, [.int 0, .ref E, .int 0])), (q10, .inr (8, [.int 0, .int 0, .int 0]))] H := hP
    have hD : va_D A [(a 0, .inr (11, [.ref (a 1), .ref (a 2), .ref (a 3), .ref (a 4), .ref (a 5), .ref (a 10), .ref (a 15), .ref (a 17), .null, .int 0, .int 0, .int 0])), (a 1, .inr (2, [.int 0, .ref E, .int 0])), (q10, .inr (8, [.int 0, .int 0, .int 0]))] := hD
    refine W.widen (k := 1) (n := 3) (Nat.le_of_ble_eq_true rfl) (Nat.le_of_ble_eq_true rfl) ?_
    refine lv_dup hx hb dX8_addStep_48 rfl ?_
    refine lv_iload_n hx hb dX8_addStep_49 rfl (lv_at hl 1 rfl) ?_
    refine lv_iload_n hx hb dX8_addStep_50 rfl (lv_at hl 2 rfl) ?_
    refine lv_iload_n hx hb dX8_addStep_51 rfl (lv_at hl 3 rfl) ?_
    have hPc := hP.sub (ws' := [(q10, .inr (8, [.int 0, .int 0, .int 0]))]) [2] rfl
    have hDc := hD.sub (ws' := [(q10, .inr (8, [.int 0, .int 0, .int 0]))]) [2] (by decide) rfl
    have hFc := va_free (wc := [(q10, .inr (8, [.int 0, .int 0, .int 0]))]) hD hS hA [2] rfl
    refine va_callv (va_runI (As := [.int p0, .int p1, .int p2]) (rest := [.ref q10, .ref (a 1)]) ⟨hx, hb, hml, hown, hts⟩ (c_Step_init l D dA E q10 p0 p1 p2 H.size hch) (cwI 3 hts (ga_I q155) rfl rfl rfl (hts _ q152) (hts _ q156) (hts _ q157) rfl (by decide +kernel) ⟨(Nat.le_of_ble_eq_true rfl), (Nat.le_of_ble_eq_true rfl)⟩) ⟨pb_blind, pb_pre hK hPc hDc hZ hS hFc _⟩ rfl rfl hl.1 rfl (lv_room (Nat.le_of_ble_eq_true rfl)) dX8_addStep_52 ⟨(Nat.le_of_ble_eq_true rfl), (Nat.le_of_ble_eq_true rfl)⟩) hS (fun q _ h => hFc q h) hFc (fun u t H1 locs ht hvm hw hB hz1 hk1 hS => ?_)
    refine W.widen (k := 1) (n := 3) (Nat.le_of_ble_eq_true rfl) (Nat.le_of_ble_eq_true rfl) ?_
    obtain ⟨u11, rfl⟩ : ∃ z, z = u := ⟨_, rfl⟩
    have hw12 := hw
    clear hw
    obtain ⟨hP1, hD1⟩ := hB
    rw [ht] at hP1
    obtain ⟨hP, hD⟩ := va_join (wr := [(a 0, .inr (11, [.ref (a 1), .ref (a 2), .ref (a 3), .ref (a 4), .ref (a 5), .ref (a 10), .ref (a 15), .ref (a 17), .null, .int 0, .int 0, .int 0])), (a 1, .inr (2, [.int 0, .ref E, .int 0]))]) (w1 := [(q10, .inr (8, [.int p0, .int p1, .int p2]))]) hP hD [2] [0, 1] rfl rfl (by decide) (by decide) hk1 hFc hP1 hD1
    generalize H1 = H at hP hS ⊢
    have hP : va_P D vwCl [(a 0, .inr (11, [.ref (a 1), .ref (a 2), .ref (a 3), .ref (a 4), .ref (a 5), .ref (a 10), .ref (a 15), .ref (a 17), .null, .int 0, .int 0, .int 0])), (a 1, .inr (2, [.int 0, .ref E, .int 0])), (q10, .inr (8, [.int p0, .int p1, .int p2]))] H := hP
    have hD : va_D A [(a 0, .inr (11, [.ref (a 1), .ref (a 2), .ref (a 3), .ref (a 4), .ref (a 5), .ref (a 10), .ref (a 15), .ref (a 17), .null, .int 0, .int 0, .int 0])), (a 1, .inr (2, [.int 0, .ref E, .int 0])), (q10, .inr (8, [.int p0, .int p1, .int p2]))] := hD
    have hPc := hP.sub (ws' := [(a 1, .inr (2, [.int 0, .ref E, .int 0])), (q10, .inr (8, [.int p0, .int p1, .int p2]))]) [1, 2] rfl
    have hDc := hD.sub (ws' := [(a 1, .inr (2, [.int 0, .ref E, .int 0])), (q10, .inr (8, [.int p0, .int p1, .int p2]))]) [1, 2] (by decide) rfl
    have hFc := va_free (wc := [(a 1, .inr (2, [.int 0, .ref E, .int 0])), (q10, .inr (8, [.int p0, .int p1, .int p2]))]) hD hS hA [1, 2] rfl
    refine va_calli (va_runV (As := [.ref q10]) (rest := []) ⟨hx, hb, hml, hown, hts⟩ (c_add_Step l D dA E (a 1) q10 (.int p0) (.int p1) (.int p2) H.size ) (cwV 1 hts (ga_V q160 q161 q158 q12 q159) rfl rfl rfl (by decide +kernel) ⟨(Nat.le_of_ble_eq_true rfl), (Nat.le_of_ble_eq_true rfl)⟩) ⟨pb_blind, va_recv hK hPc (ci := 2) (q0 := 0) rfl rfl, pb_pre hK hPc hDc hZ hS hFc _⟩ rfl rfl hl.1 rfl (lv_room (Nat.le_of_ble_eq_true rfl)) dX8_addStep_55 ⟨(Nat.le_of_ble_eq_true rfl), (Nat.le_of_ble_eq_true rfl)⟩) hS (fun q _ h => hFc q h) hFc (fun r u t H1 locs ht hvm hw hB hz1 hk1 hS => ?_)
    refine W.widen (k := 2) (n := 13) (Nat.le_of_ble_eq_true rfl) (Nat.le_of_ble_eq_true rfl) ?_
    obtain ⟨r13, rfl⟩ : ∃ z, z = r := ⟨_, rfl⟩
    obtain ⟨u14, rfl⟩ : ∃ z, z = u := ⟨_, rfl⟩
    have hw15 := hw
    clear hw
    obtain ⟨hP1, hD1⟩ := hB
    rw [ht] at hP1
    obtain ⟨hP, hD⟩ := va_join (wr := [(a 0, .inr (11, [.ref (a 1), .ref (a 2), .ref (a 3), .ref (a 4), .ref (a 5), .ref (a 10), .ref (a 15), .ref (a 17), .null, .int 0, .int 0, .int 0]))]) (w1 := [(a 1, .inr (2, [.int 1, .ref u14, .int 1]))]) hP hD [1, 2] [0] rfl rfl (by decide) (by decide) hk1 hFc hP1 hD1
    generalize H1 = H at hP hS ⊢
    have hP : va_P D vwCl [(a 0, .inr (11, [.ref (a 1), .ref (a 2), .ref (a 3), .ref (a 4), .ref (a 5), .ref (a 10), .ref (a 15), .ref (a 17), .null, .int 0, .int 0, .int 0])), (a 1, .inr (2, [.int 1, .ref u14, .int 1]))] H := hP
    have hD : va_D A [(a 0, .inr (11, [.ref (a 1), .ref (a 2), .ref (a 3), .ref (a 4), .ref (a 5), .ref (a 10), .ref (a 15), .ref (a 17), .null, .int 0, .int 0, .int 0])), (a 1, .inr (2, [.int 1, .ref u14, .int 1]))] := hD
    obtain rfl : r13 = 1 := hw15
    refine lv_pop hx hb dX8_addStep_58 rfl ?_
    refine lv_aload_n hx hb dX8_addStep_59 rfl (lv_at hl 0 rfl) ?_
    refine va_get (D := D) (ci := 11) (v := .ref (a 1)) (C := RX8) (T := TX8) (N := 12) hx hb hts inAX8 hown hK hP 0 rfl rfl 0 (by decide) (hts _ q92) (fun _ h9 => h9) rfl dX8_addStep_60 ?_
    have hPc := hP.sub (ws' := [(a 1, .inr (2, [.int 1, .ref u14, .int 1]))]) [1] rfl
    have hDc := hD.sub (ws' := [(a 1, .inr (2, [.int 1, .ref u14, .int 1]))]) [1] (by decide) rfl
    have hFc := va_free (wc := [(a 1, .inr (2, [.int 1, .ref u14, .int 1]))]) hD hS hA [1] rfl
    refine va_calli (va_runV (As := []) (rest := []) ⟨hx, hb, hml, hown, hts⟩ (c_size l D dA E (a 1) 1 (.ref u14) 1 H.size ) (cwV 0 hts (ga_V q121 q122 q119 q12 q120) rfl rfl rfl (by decide +kernel) ⟨(Nat.le_of_ble_eq_true rfl), (Nat.le_of_ble_eq_true rfl)⟩) ⟨pb_blind, va_recv hK hPc (ci := 2) (q0 := 0) rfl rfl, pb_pre hK hPc hDc hZ hS hFc _⟩ rfl rfl hl.1 rfl (lv_room (Nat.le_of_ble_eq_true rfl)) dX8_addStep_63 ⟨(Nat.le_of_ble_eq_true rfl), (Nat.le_of_ble_eq_true rfl)⟩) hS (fun q _ h => hFc q h) hFc (fun r u t H1 locs ht hvm hw hB hz1 hk1 hS => ?_)
    refine W.widen (k := 2) (n := 13) (Nat.le_of_ble_eq_true rfl) (Nat.le_of_ble_eq_true rfl) ?_
    obtain ⟨r16, rfl⟩ : ∃ z, z = r := ⟨_, rfl⟩
    obtain ⟨u17, rfl⟩ : ∃ z, z = u := ⟨_, rfl⟩
    have hw18 := hw
    clear hw
    obtain ⟨hP1, hD1⟩ := hB
    rw [ht] at hP1
    obtain ⟨hP, hD⟩ := va_join (wr := [(a 0, .inr (11, [.ref (a 1), .ref (a 2), .ref (a 3), .ref (a 4), .ref (a 5), .ref (a 10), .ref (a 15), .ref (a 17), .null, .int 0, .int 0, .int 0]))]) (w1 := [(a 1, .inr (2, [.int 1, .ref u14, .int 1]))]) hP hD [1] [0] rfl rfl (by decide) (by decide) hk1 hFc hP1 hD1
    generalize H1 = H at hP hS ⊢
    have hP : va_P D vwCl [(a 0, .inr (11, [.ref (a 1), .ref (a 2), .ref (a 3), .ref (a 4), .ref (a 5), .ref (a 10), .ref (a 15), .ref (a 17), .null, .int 0, .int 0, .int 0])), (a 1, .inr (2, [.int 1, .ref u14, .int 1]))] H := hP
    have hD : va_D A [(a 0, .inr (11, [.ref (a 1), .ref (a 2), .ref (a 3), .ref (a 4), .ref (a 5), .ref (a 10), .ref (a 15), .ref (a 17), .null, .int 0, .int 0, .int 0])), (a 1, .inr (2, [.int 1, .ref u14, .int 1]))] := hD
    obtain rfl : r16 = 1 := hw18
    refine W.widen (k := 2) (n := 13) (Nat.le_of_ble_eq_true rfl) (Nat.le_of_ble_eq_true rfl) ?_
    refine vx_ret ?_
    exact W.iret (v := 1) hx hb hr (fun t ht hW => ⟨⟨1, (), rfl, (⟨(by simp [inR, hB4]), rfl⟩), trivial⟩, hS.F ht⟩) hS.2.2 dX8_addStep_66
  · intro hB4
    obtain rfl : r1 = 0 := hw3.trans (by rw [hB4]; rfl)
    refine lv_if_ne (tgt := 19) hx hb dX8_addStep_6 (by decide) (fun c19 => absurd (by decide) c19) (fun _ => ?_)
    obtain ⟨sa, hstr20⟩ := hZ.1.2.2.2.2.1 ("TallowIndex", 59, "no such kind or word") (List.mem_of_getElem? (i := 0) rfl)
    exact vx_throwS (cls := "java/lang/IllegalArgumentException") (names := ["java/lang/RuntimeException", "java/lang/Exception"]) (own := RX8) hx hb hlt hown hFit_1 hFitN (hts _ q115) (hts _ q116) hstr20 (hat_RX8_61 hts hZ.1) hgd_RX8_61_57 hZ.2.1 hZ.2.2.1 hS (hl.1.trans hml.symm) dX8_addStep_9 dX8_addStep_12 dX8_addStep_13 dX8_addStep_15 dX8_addStep_18 (fun x h => (htb x h).elim) (Nat.le_of_ble_eq_true rfl) (Nat.le_of_ble_eq_true rfl) (Nat.le_of_ble_eq_true rfl) (Nat.le_of_ble_eq_true rfl) hlocks (fun t hal hz hk => ⟨1, (⟨(by simp [inR, hB4]), rfl⟩), rfl, sF_t hS hz hk⟩) hS.2.2 (Nat.le_of_ble_eq_true rfl) (Nat.le_of_ble_eq_true rfl)

set_option maxHeartbeats 4000000 in
set_option maxRecDepth 100000 in
theorem c_X8_dropSteps (l : Launch) (D : va_G) (dA : Nat → ClassId) (E : Nat) (a : Nat → Nat) (sz : Nat)  : Met l yX8_dropSteps (wq (.code yX8_dropSteps cX8_dropSteps 2 (some .int))) { frames := 1, cells := 0, slots := 0, locals := 23 } (va_Pc [.ref (a 0)] (PcB D dA E [(a 0, .inr (11, [.ref (a 1), .ref (a 2), .ref (a 3), .ref (a 4), .ref (a 5), .ref (a 10), .ref (a 15), .ref (a 17), .null, .int 0, .int 0, .int 0])), (a 1, .inr (2, [.int 0, .ref E, .int 0]))] sz)) (va_Qi (fun (r : Int32) (u : Unit) => r = 0) (fun u t => True) (va_A [(a 0, .inr (11, [.ref (a 1), .ref (a 2), .ref (a 3), .ref (a 4), .ref (a 5), .ref (a 10), .ref (a 15), .ref (a 17), .null, .int 0, .int 0, .int 0])), (a 1, .inr (2, [.int 0, .ref E, .int 0]))] sz)) 0 0 (va_A [(a 0, .inr (11, [.ref (a 1), .ref (a 2), .ref (a 3), .ref (a 4), .ref (a 5), .ref (a 10), .ref (a 15), .ref (a 17), .null, .int 0, .int 0, .int 0])), (a 1, .inr (2, [.int 0, .ref E, .int 0]))] sz) := by
  refine mb_of (Qc := fun A => va_Qi (fun (r : Int32) (u : Unit) => r = 0) (fun u t => True) A) RX8 rfl (by decide) (Nat.le_of_ble_eq_true rfl) ?_
  intro p e s m args below meth c hae hx hb hr hts hown hlocks hml hnm hP hK A hAe hD hZ hS hA ls hl
  have hl : lv_has ls 2 [(0, .ref (a 0))] := hl
  refine lv_aload_n hx hb dX8_dropSteps_0 rfl (lv_at hl 0 rfl) ?_
  refine va_get (D := D) (ci := 11) (v := .ref (a 1)) (C := RX8) (T := TX8) (N := 12) hx hb hts inAX8 hown hK hP 0 rfl rfl 0 (by decide) (hts _ q92) (fun _ h9 => h9) rfl dX8_dropSteps_1 ?_
  have hPc := hP.sub (ws' := [(a 1, .inr (2, [.int 0, .ref E, .int 0]))]) [1] rfl
  have hDc := hD.sub (ws' := [(a 1, .inr (2, [.int 0, .ref E, .int 0]))]) [1] (by decide) rfl
  have hFc := va_free (wc := [(a 1, .inr (2, [.int 0, .ref E, .int 0]))]) hD hS hA [1] rfl
  refine va_calli (va_runV (As := []) (rest := []) ⟨hx, hb, hml, hown, hts⟩ (c_size l D dA E (a 1) 0 (.ref E) 0 s.heap.size ) (cwV 0 hts (ga_V q121 q122 q119 q12 q120) rfl rfl rfl (by decide +kernel) ⟨(Nat.le_of_ble_eq_true rfl), (Nat.le_of_ble_eq_true rfl)⟩) ⟨pb_blind, va_recv hK hPc (ci := 2) (q0 := 0) rfl rfl, pb_pre hK hPc hDc hZ hS hFc _⟩ rfl rfl hl.1 rfl (lv_room (Nat.le_of_ble_eq_true rfl)) dX8_dropSteps_4 ⟨(Nat.le_of_ble_eq_true rfl), (Nat.le_of_ble_eq_true rfl)⟩) hS (fun q _ h => hFc q h) hFc (fun r u t H1 locs ht hvm hw hB hz1 hk1 hS => ?_)
  refine W.widen (k := 0) (n := 0) (Nat.le_of_ble_eq_true rfl) (Nat.le_of_ble_eq_true rfl) ?_
  obtain ⟨r1, rfl⟩ : ∃ z, z = r := ⟨_, rfl⟩
  obtain ⟨u2, rfl⟩ : ∃ z, z = u := ⟨_, rfl⟩
  have hw3 := hw
  clear hw
  obtain ⟨hP1, hD1⟩ := hB
  rw [ht] at hP1
  obtain ⟨hP, hD⟩ := va_join (wr := [(a 0, .inr (11, [.ref (a 1), .ref (a 2), .ref (a 3), .ref (a 4), .ref (a 5), .ref (a 10), .ref (a 15), .ref (a 17), .null, .int 0, .int 0, .int 0]))]) (w1 := [(a 1, .inr (2, [.int 0, .ref E, .int 0]))]) hP hD [1] [0] rfl rfl (by decide) (by decide) hk1 hFc hP1 hD1
  generalize H1 = H at hP hS ⊢
  have hP : va_P D vwCl [(a 0, .inr (11, [.ref (a 1), .ref (a 2), .ref (a 3), .ref (a 4), .ref (a 5), .ref (a 10), .ref (a 15), .ref (a 17), .null, .int 0, .int 0, .int 0])), (a 1, .inr (2, [.int 0, .ref E, .int 0]))] H := hP
  have hD : va_D A [(a 0, .inr (11, [.ref (a 1), .ref (a 2), .ref (a 3), .ref (a 4), .ref (a 5), .ref (a 10), .ref (a 15), .ref (a 17), .null, .int 0, .int 0, .int 0])), (a 1, .inr (2, [.int 0, .ref E, .int 0]))] := hD
  obtain rfl : r1 = 0 := hw3
  refine lv_istore_n (lv' := [(1, .int 0), (0, .ref (a 0))]) hx hb dX8_dropSteps_7 rfl hl (by decide) rfl (fun ls hl => ?_)
  refine lv_aload_n hx hb dX8_dropSteps_8 rfl (lv_at hl 1 rfl) ?_
  refine va_get (D := D) (ci := 11) (v := .ref (a 1)) (C := RX8) (T := TX8) (N := 12) hx hb hts inAX8 hown hK hP 0 rfl rfl 0 (by decide) (hts _ q92) (fun _ h9 => h9) rfl dX8_dropSteps_9 ?_
  have hPc := hP.sub (ws' := [(a 1, .inr (2, [.int 0, .ref E, .int 0]))]) [1] rfl
  have hDc := hD.sub (ws' := [(a 1, .inr (2, [.int 0, .ref E, .int 0]))]) [1] (by decide) rfl
  have hFc := va_free (wc := [(a 1, .inr (2, [.int 0, .ref E, .int 0]))]) hD hS hA [1] rfl
  refine va_callv (va_runV (As := []) (rest := []) ⟨hx, hb, hml, hown, hts⟩ (c_clear l D dA E (a 1) H.size ) (cwV 0 hts (ga_V q164 q165 q162 q12 q163) rfl rfl rfl (by decide +kernel) ⟨(Nat.le_of_ble_eq_true rfl), (Nat.le_of_ble_eq_true rfl)⟩) ⟨pb_blind, va_recv hK hPc (ci := 2) (q0 := 0) rfl rfl, pb_pre hK hPc hDc hZ hS hFc _⟩ rfl rfl hl.1 rfl (lv_room (Nat.le_of_ble_eq_true rfl)) dX8_dropSteps_12 ⟨(Nat.le_of_ble_eq_true rfl), (Nat.le_of_ble_eq_true rfl)⟩) hS (fun q _ h => hFc q h) hFc (fun u t H1 locs ht hvm hw hB hz1 hk1 hS => ?_)
  refine W.widen (k := 0) (n := 0) (Nat.le_of_ble_eq_true rfl) (Nat.le_of_ble_eq_true rfl) ?_
  obtain ⟨u4, rfl⟩ : ∃ z, z = u := ⟨_, rfl⟩
  have hw5 := hw
  clear hw
  obtain ⟨hP1, hD1⟩ := hB
  rw [ht] at hP1
  obtain ⟨hP, hD⟩ := va_join (wr := [(a 0, .inr (11, [.ref (a 1), .ref (a 2), .ref (a 3), .ref (a 4), .ref (a 5), .ref (a 10), .ref (a 15), .ref (a 17), .null, .int 0, .int 0, .int 0]))]) (w1 := [(a 1, .inr (2, [.int 1, .ref E, .int 0]))]) hP hD [1] [0] rfl rfl (by decide) (by decide) hk1 hFc hP1 hD1
  generalize H1 = H at hP hS ⊢
  have hP : va_P D vwCl [(a 0, .inr (11, [.ref (a 1), .ref (a 2), .ref (a 3), .ref (a 4), .ref (a 5), .ref (a 10), .ref (a 15), .ref (a 17), .null, .int 0, .int 0, .int 0])), (a 1, .inr (2, [.int 1, .ref E, .int 0]))] H := hP
  have hD : va_D A [(a 0, .inr (11, [.ref (a 1), .ref (a 2), .ref (a 3), .ref (a 4), .ref (a 5), .ref (a 10), .ref (a 15), .ref (a 17), .null, .int 0, .int 0, .int 0])), (a 1, .inr (2, [.int 1, .ref E, .int 0]))] := hD
  refine lv_iload_n hx hb dX8_dropSteps_15 rfl (lv_at hl 0 rfl) ?_
  refine W.widen (k := 0) (n := 0) (Nat.le_of_ble_eq_true rfl) (Nat.le_of_ble_eq_true rfl) ?_
  exact W.iret (v := 0) hx hb hr (fun t ht hW => ⟨⟨0, (), rfl, (rfl), trivial⟩, hS.F ht⟩) hS.2.2 dX8_dropSteps_16

set_option maxHeartbeats 4000000 in
set_option maxRecDepth 100000 in
theorem c_X8_open (l : Launch) (hlt : l.stackTraces = false) (D : va_G) (dA : Nat → ClassId) (E : Nat) (a : Nat → Nat) (p0 p1 : Int32) (sz : Nat)  : vx_Met l yX8_open (wq (.code yX8_open cX8_open 3 (some .int))) { frames := 7, cells := 9, slots := 269, locals := 103 } (va_Pc [.ref (a 0), .int p0, .int p1] (PcB D dA E [(a 0, .inr (11, [.ref (a 1), .ref (a 2), .ref (a 3), .ref (a 4), .ref (a 5), .ref (a 10), .ref (a 15), .ref (a 17), .null, .int 0, .int 0, .int 0])), (a 2, .inr (2, [.int 0, .ref E, .int 0]))] sz)) (va_Qi (fun (r : Int32) (u : Unit) => (inR 0 5 p0 = true ∧ p1 = -1) ∧ r = 0) (fun u t => True) (va_A [(a 0, .inr (11, [.ref (a 1), .ref (a 2), .ref (a 3), .ref (a 4), .ref (a 5), .ref (a 10), .ref (a 15), .ref (a 17), .null, .int 0, .int 0, .int 0])), (a 2, .inr (2, [.int 0, .ref E, .int 0]))] sz)) (vx_X (fun (k : Nat) => ((inR 0 5 p0 = false) ∧ k = 1) ∨ ((inR 0 5 p0 = true ∧ ¬ p1 = -1) ∧ k = 2)) (fun E9 k t => E9 = xN k) (va_A [(a 0, .inr (11, [.ref (a 1), .ref (a 2), .ref (a 3), .ref (a 4), .ref (a 5), .ref (a 10), .ref (a 15), .ref (a 17), .null, .int 0, .int 0, .int 0])), (a 2, .inr (2, [.int 0, .ref E, .int 0]))] sz)) 9 269 (va_A [(a 0, .inr (11, [.ref (a 1), .ref (a 2), .ref (a 3), .ref (a 4), .ref (a 5), .ref (a 10), .ref (a 15), .ref (a 17), .null, .int 0, .int 0, .int 0])), (a 2, .inr (2, [.int 0, .ref E, .int 0]))] sz) := by
  refine mx_of (Qc := fun A => va_Qi (fun (r : Int32) (u : Unit) => (inR 0 5 p0 = true ∧ p1 = -1) ∧ r = 0) (fun u t => True) A) (XC := fun A => vx_X (fun (k : Nat) => ((inR 0 5 p0 = false) ∧ k = 1) ∨ ((inR 0 5 p0 = true ∧ ¬ p1 = -1) ∧ k = 2)) (fun E9 k t => E9 = xN k) A) RX8 rfl (by decide) (Nat.le_of_ble_eq_true rfl) ?_
  intro p e s m args below meth c hae hx hb hr hts hown hlocks hml hnm htb hP hK A hAe hD hZ hS hA ls hl
  have hl : lv_has ls 3 [(0, .ref (a 0)), (1, .int p0), (2, .int p1)] := hl
  refine lv_iload_n hx hb dX8_open_0 rfl (lv_at hl 1 rfl) ?_
  have hPc := hP.sub (ws' := []) [] rfl
  have hDc := hD.sub (ws' := []) [] (by decide) rfl
  have hFc := va_free (wc := []) hD hS hA [] rfl
  refine vx_callv (vx_runS (As := [.int p0]) (rest := []) ⟨hx, hb, hml, hown, hts⟩ (c_checkTag l hlt D dA E p0 s.heap.size ) (va_cwS 1 hts (ga_S q167 q168 q113 q166) rfl rfl rfl (by decide +kernel) ⟨(Nat.le_of_ble_eq_true rfl), (Nat.le_of_ble_eq_true rfl)⟩) ⟨pb_blind, pb_pre hK hPc hDc hZ hS hFc _⟩ rfl rfl hl.1 rfl (lv_room (Nat.le_of_ble_eq_true rfl)) dX8_open_1 ⟨(Nat.le_of_ble_eq_true rfl), (Nat.le_of_ble_eq_true rfl)⟩) hS (fun q _ h => hFc q h) hFc (fun q _ h => hFc q h) (fun E9 ce q9 k t H1 locs ht hvm hpx hBX hz1 hk1 hS hce hcv hcl => ?_) (fun u t H1 locs ht hvm hw hB hz1 hk1 hS => ?_)
  · obtain ⟨hk9, hB9⟩ := hpx
    exact vx_out (fun x h => (htb x h).elim) hlocks hce hcv hcl (fun t1 ht1 hal => ⟨k, (Or.inl (⟨(by simp [hB9]), hk9⟩)), hBX, hS.F ht1⟩) hS.2.2 (Nat.le_of_ble_eq_true rfl) (Nat.le_of_ble_eq_true rfl)
  · refine W.widen (k := 1) (n := 6) (Nat.le_of_ble_eq_true rfl) (Nat.le_of_ble_eq_true rfl) ?_
    obtain ⟨u1, rfl⟩ : ∃ z, z = u := ⟨_, rfl⟩
    have hw2 := hw
    clear hw
    obtain ⟨hP, hD⟩ := jn_drop (wr := [(a 0, .inr (11, [.ref (a 1), .ref (a 2), .ref (a 3), .ref (a 4), .ref (a 5), .ref (a 10), .ref (a 15), .ref (a 17), .null, .int 0, .int 0, .int 0])), (a 2, .inr (2, [.int 0, .ref E, .int 0]))]) hP hD [] [0, 1] rfl rfl (by decide) (by decide) hk1 hFc
    generalize H1 = H at hP hS ⊢
    have hP : va_P D vwCl [(a 0, .inr (11, [.ref (a 1), .ref (a 2), .ref (a 3), .ref (a 4), .ref (a 5), .ref (a 10), .ref (a 15), .ref (a 17), .null, .int 0, .int 0, .int 0])), (a 2, .inr (2, [.int 0, .ref E, .int 0]))] H := hP
    have hD : va_D A [(a 0, .inr (11, [.ref (a 1), .ref (a 2), .ref (a 3), .ref (a 4), .ref (a 5), .ref (a 10), .ref (a 15), .ref (a 17), .null, .int 0, .int 0, .int 0])), (a 2, .inr (2, [.int 0, .ref E, .int 0]))] := hD
    refine lv_iload_n hx hb dX8_open_4 rfl (lv_at hl 2 rfl) ?_
    refine lv_iconst (v := (-1)) hx hb dX8_open_5 (by decide) ?_
    refine lv_icmp_eq (tgt := 14) hx hb dX8_open_6 (by decide) (fun c3 => ?_) (fun c3 => ?_)
    · refine lv_aload_n hx hb dX8_open_14 rfl (lv_at hl 0 rfl) ?_
      refine va_get (D := D) (ci := 11) (v := .null) (C := RX8) (T := TX8) (N := 12) hx hb hts inAX8 hown hK hP 0 rfl rfl 8 (by decide) (hts _ q169) (fun _ h9 => h9) rfl dX8_open_15 ?_
      refine lv_ifnullN (tgt := 31) hx hb dX8_open_18 (by decide) ?_
      refine lv_aload_n hx hb dX8_open_31 rfl (lv_at hl 0 rfl) ?_
      refine va_get (D := D) (ci := 11) (v := .ref (a 2)) (C := RX8) (T := TX8) (N := 12) hx hb hts inAX8 hown hK hP 0 rfl rfl 1 (by decide) (hts _ q93) (fun _ h9 => h9) rfl dX8_open_32 ?_
      have hPc := hP.sub (ws' := [(a 2, .inr (2, [.int 0, .ref E, .int 0]))]) [1] rfl
      have hDc := hD.sub (ws' := [(a 2, .inr (2, [.int 0, .ref E, .int 0]))]) [1] (by decide) rfl
      have hFc := va_free (wc := [(a 2, .inr (2, [.int 0, .ref E, .int 0]))]) hD hS hA [1] rfl
      refine va_calli (va_runV (As := []) (rest := []) ⟨hx, hb, hml, hown, hts⟩ (c_size l D dA E (a 2) 0 (.ref E) 0 H.size ) (cwV 0 hts (ga_V q121 q122 q119 q12 q120) rfl rfl rfl (by decide +kernel) ⟨(Nat.le_of_ble_eq_true rfl), (Nat.le_of_ble_eq_true rfl)⟩) ⟨pb_blind, va_recv hK hPc (ci := 2) (q0 := 0) rfl rfl, pb_pre hK hPc hDc hZ hS hFc _⟩ rfl rfl hl.1 rfl (lv_room (Nat.le_of_ble_eq_true rfl)) dX8_open_35 ⟨(Nat.le_of_ble_eq_true rfl), (Nat.le_of_ble_eq_true rfl)⟩) hS (fun q _ h => hFc q h) hFc (fun r u t H1 locs ht hvm hw hB hz1 hk1 hS => ?_)
      refine W.widen (k := 1) (n := 6) (Nat.le_of_ble_eq_true rfl) (Nat.le_of_ble_eq_true rfl) ?_
      obtain ⟨r4, rfl⟩ : ∃ z, z = r := ⟨_, rfl⟩
      obtain ⟨u5, rfl⟩ : ∃ z, z = u := ⟨_, rfl⟩
      have hw6 := hw
      clear hw
      obtain ⟨hP1, hD1⟩ := hB
      rw [ht] at hP1
      obtain ⟨hP, hD⟩ := va_join (wr := [(a 0, .inr (11, [.ref (a 1), .ref (a 2), .ref (a 3), .ref (a 4), .ref (a 5), .ref (a 10), .ref (a 15), .ref (a 17), .null, .int 0, .int 0, .int 0]))]) (w1 := [(a 2, .inr (2, [.int 0, .ref E, .int 0]))]) hP hD [1] [0] rfl rfl (by decide) (by decide) hk1 hFc hP1 hD1
      generalize H1 = H at hP hS ⊢
      have hP : va_P D vwCl [(a 0, .inr (11, [.ref (a 1), .ref (a 2), .ref (a 3), .ref (a 4), .ref (a 5), .ref (a 10), .ref (a 15), .ref (a 17), .null, .int 0, .int 0, .int 0])), (a 2, .inr (2, [.int 0, .ref E, .int 0]))] H := hP
      have hD : va_D A [(a 0, .inr (11, [.ref (a 1), .ref (a 2), .ref (a 3), .ref (a 4), .ref (a 5), .ref (a 10), .ref (a 15), .ref (a 17), .null, .int 0, .int 0, .int 0])), (a 2, .inr (2, [.int 0, .ref E, .int 0]))] := hD
      obtain rfl : r4 = 0 := hw6
      refine lv_bipush (v := 30) hx hb dX8_open_38 (by decide) ?_
      refine lv_icmp_lt (tgt := 53) hx hb dX8_open_40 (by decide) (fun _ => ?_) (fun c7 => absurd (by decide) c7)
      refine lv_aload_n hx hb dX8_open_53 rfl (lv_at hl 0 rfl) ?_
      refine va_new (ci := 3) (fs := [.int 0, .int 0, .null, .int 0]) (C := RX0) (T := TX0) (N := 4) hx hb hts inAX0 tyX0 tyX0_ok hown (hts _ q170) (hts _ q171) (hts _ q172) hK hP hD hS hA rfl fsNX0 (Nat.le_of_ble_eq_true rfl) (Nat.le_of_ble_eq_true rfl) dX8_open_54 (fun q8 H hP hD hS => ?_)
      have hP : va_P D vwCl [(a 0, .inr (11, [.ref (a 1), .ref (a 2), .ref (a 3), .ref (a 4), .ref (a 5), .ref (a 10), .ref (a 15), .ref (a 17), .null, .int 0, .int 0, .int 0])), (a 2, .inr (2, [.int 0, .ref E, .int 0])), (q8, .inr (3, [.int 0, .int 0, .null, .int 0]))] H := hP
      have hD : va_D A [(a 0, .inr (11, [.ref (a 1), .ref (a 2), .ref (a 3), .ref (a 4), .ref (a 5), .ref (a 10), .ref (a 15), .ref (a 17), .null, .int 0, .int 0, .int 0])), (a 2, .inr (2, [.int 0, .ref E, .int 0])), (q8, .inr (3, [.int 0, .int 0, .null, .int 0]))] := hD
      refine W.widen (k := 2) (n := 10) (Nat.le_of_ble_eq_true rfl) (Nat.le_of_ble_eq_true rfl) ?_
      refine lv_dup hx hb dX8_open_57 rfl ?_
      refine lv_iload_n hx hb dX8_open_58 rfl (lv_at hl 1 rfl) ?_
      refine lv_iload_n hx hb dX8_open_59 rfl (lv_at hl 2 rfl) ?_
      have hPc := hP.sub (ws' := [(q8, .inr (3, [.int 0, .int 0, .null, .int 0]))]) [2] rfl
      have hDc := hD.sub (ws' := [(q8, .inr (3, [.int 0, .int 0, .null, .int 0]))]) [2] (by decide) rfl
      have hFc := va_free (wc := [(q8, .inr (3, [.int 0, .int 0, .null, .int 0]))]) hD hS hA [2] rfl
      refine va_callv (va_runI (As := [.int p0, .int p1]) (rest := [.ref q8, .ref (a 0)]) ⟨hx, hb, hml, hown, hts⟩ (c_Document_init l D dA E q8 p0 p1 H.size ) (cwI 2 hts (ga_I q173) rfl rfl rfl (hts _ q172) (hts _ q174) (hts _ q175) rfl (by decide +kernel) ⟨(Nat.le_of_ble_eq_true rfl), (Nat.le_of_ble_eq_true rfl)⟩) ⟨pb_blind, pb_pre hK hPc hDc hZ hS hFc _⟩ rfl rfl hl.1 rfl (lv_room (Nat.le_of_ble_eq_true rfl)) dX8_open_60 ⟨(Nat.le_of_ble_eq_true rfl), (Nat.le_of_ble_eq_true rfl)⟩) hS (fun q _ h => hFc q h) hFc (fun u t H1 locs ht hvm hw hB hz1 hk1 hS => ?_)
      refine W.widen (k := 9) (n := 269) (Nat.le_of_ble_eq_true rfl) (Nat.le_of_ble_eq_true rfl) ?_
      obtain ⟨u9, rfl⟩ : ∃ z, z = u := ⟨_, rfl⟩
      have hw10 := hw
      clear hw
      obtain ⟨hP, hD⟩ := jn_drop (wr := [(a 0, .inr (11, [.ref (a 1), .ref (a 2), .ref (a 3), .ref (a 4), .ref (a 5), .ref (a 10), .ref (a 15), .ref (a 17), .null, .int 0, .int 0, .int 0])), (a 2, .inr (2, [.int 0, .ref E, .int 0]))]) hP hD [2] [0, 1] rfl rfl (by decide) (by decide) hk1 hFc
      generalize H1 = H at hP hS ⊢
      have hP : va_P D vwCl [(a 0, .inr (11, [.ref (a 1), .ref (a 2), .ref (a 3), .ref (a 4), .ref (a 5), .ref (a 10), .ref (a 15), .ref (a 17), .null, .int 0, .int 0, .int 0])), (a 2, .inr (2, [.int 0, .ref E, .int 0]))] H := hP
      have hD : va_D A [(a 0, .inr (11, [.ref (a 1), .ref (a 2), .ref (a 3), .ref (a 4), .ref (a 5), .ref (a 10), .ref (a 15), .ref (a 17), .null, .int 0, .int 0, .int 0])), (a 2, .inr (2, [.int 0, .ref E, .int 0]))] := hD
      refine va_put (D := D) (ci := 11) (v := .ref q8) (ty := .object "TallowIndex$Document") (C := RX8) (T := TX8) (N := 12) hx hb hts inAX8 tyX8 tyX8_ok nmX8 hown hK hP hD hS 0 rfl rfl 8 (by decide) (hts _ q169) (fun _ h9 => h9) rfl (tyX8_ok 8 (by decide)) rfl rfl (Nat.le_of_ble_eq_true rfl) dX8_open_63 (fun H locs hP hD hS => ?_)
      have hP : va_P D vwCl [(a 0, .inr (11, [.ref (a 1), .ref (a 2), .ref (a 3), .ref (a 4), .ref (a 5), .ref (a 10), .ref (a 15), .ref (a 17), .ref q8, .int 0, .int 0, .int 0])), (a 2, .inr (2, [.int 0, .ref E, .int 0]))] H := hP
      have hD : va_D A [(a 0, .inr (11, [.ref (a 1), .ref (a 2), .ref (a 3), .ref (a 4), .ref (a 5), .ref (a 10), .ref (a 15), .ref (a 17), .ref q8, .int 0, .int 0, .int 0])), (a 2, .inr (2, [.int 0, .ref E, .int 0]))] := hD
      refine lv_aload_n hx hb dX8_open_66 rfl (lv_at hl 0 rfl) ?_
      refine va_get (D := D) (ci := 11) (v := .ref (a 2)) (C := RX8) (T := TX8) (N := 12) hx hb hts inAX8 hown hK hP 0 rfl rfl 1 (by decide) (hts _ q93) (fun _ h9 => h9) rfl dX8_open_67 ?_
      have hPc := hP.sub (ws' := [(a 2, .inr (2, [.int 0, .ref E, .int 0]))]) [1] rfl
      have hDc := hD.sub (ws' := [(a 2, .inr (2, [.int 0, .ref E, .int 0]))]) [1] (by decide) rfl
      have hFc := va_free (wc := [(a 2, .inr (2, [.int 0, .ref E, .int 0]))]) hD hS hA [1] rfl
      refine va_calli (va_runV (As := []) (rest := []) ⟨hx, hb, hml, hown, hts⟩ (c_size l D dA E (a 2) 0 (.ref E) 0 H.size ) (cwV 0 hts (ga_V q121 q122 q119 q12 q120) rfl rfl rfl (by decide +kernel) ⟨(Nat.le_of_ble_eq_true rfl), (Nat.le_of_ble_eq_true rfl)⟩) ⟨pb_blind, va_recv hK hPc (ci := 2) (q0 := 0) rfl rfl, pb_pre hK hPc hDc hZ hS hFc _⟩ rfl rfl hl.1 rfl (lv_room (Nat.le_of_ble_eq_true rfl)) dX8_open_70 ⟨(Nat.le_of_ble_eq_true rfl), (Nat.le_of_ble_eq_true rfl)⟩) hS (fun q _ h => hFc q h) hFc (fun r u t H1 locs ht hvm hw hB hz1 hk1 hS => ?_)
      refine W.widen (k := 9) (n := 269) (Nat.le_of_ble_eq_true rfl) (Nat.le_of_ble_eq_true rfl) ?_
      obtain ⟨r11, rfl⟩ : ∃ z, z = r := ⟨_, rfl⟩
      obtain ⟨u12, rfl⟩ : ∃ z, z = u := ⟨_, rfl⟩
      have hw13 := hw
      clear hw
      obtain ⟨hP1, hD1⟩ := hB
      rw [ht] at hP1
      obtain ⟨hP, hD⟩ := va_join (wr := [(a 0, .inr (11, [.ref (a 1), .ref (a 2), .ref (a 3), .ref (a 4), .ref (a 5), .ref (a 10), .ref (a 15), .ref (a 17), .ref q8, .int 0, .int 0, .int 0]))]) (w1 := [(a 2, .inr (2, [.int 0, .ref E, .int 0]))]) hP hD [1] [0] rfl rfl (by decide) (by decide) hk1 hFc hP1 hD1
      generalize H1 = H at hP hS ⊢
      have hP : va_P D vwCl [(a 0, .inr (11, [.ref (a 1), .ref (a 2), .ref (a 3), .ref (a 4), .ref (a 5), .ref (a 10), .ref (a 15), .ref (a 17), .ref q8, .int 0, .int 0, .int 0])), (a 2, .inr (2, [.int 0, .ref E, .int 0]))] H := hP
      have hD : va_D A [(a 0, .inr (11, [.ref (a 1), .ref (a 2), .ref (a 3), .ref (a 4), .ref (a 5), .ref (a 10), .ref (a 15), .ref (a 17), .ref q8, .int 0, .int 0, .int 0])), (a 2, .inr (2, [.int 0, .ref E, .int 0]))] := hD
      obtain rfl : r11 = 0 := hw13
      refine W.widen (k := 9) (n := 269) (Nat.le_of_ble_eq_true rfl) (Nat.le_of_ble_eq_true rfl) ?_
      refine vx_ret ?_
      exact W.iret (v := 0) hx hb hr (fun t ht hW => ⟨⟨0, (), rfl, (⟨(by simp [hw2, c3]), rfl⟩), trivial⟩, hS.F ht⟩) hS.2.2 dX8_open_73
    · refine lv_aload_n hx hb dX8_open_9 rfl (lv_at hl 0 rfl) ?_
      refine lv_iload_n hx hb dX8_open_10 rfl (lv_at hl 2 rfl) ?_
      have hPc := hP.sub (ws' := [(a 0, .inr (11, [.ref (a 1), .ref (a 2), .ref (a 3), .ref (a 4), .ref (a 5), .ref (a 10), .ref (a 15), .ref (a 17), .null, .int 0, .int 0, .int 0])), (a 2, .inr (2, [.int 0, .ref E, .int 0]))]) [0, 1] rfl
      have hDc := hD.sub (ws' := [(a 0, .inr (11, [.ref (a 1), .ref (a 2), .ref (a 3), .ref (a 4), .ref (a 5), .ref (a 10), .ref (a 15), .ref (a 17), .null, .int 0, .int 0, .int 0])), (a 2, .inr (2, [.int 0, .ref E, .int 0]))]) [0, 1] (by decide) rfl
      have hFc := va_free (wc := [(a 0, .inr (11, [.ref (a 1), .ref (a 2), .ref (a 3), .ref (a 4), .ref (a 5), .ref (a 10), .ref (a 15), .ref (a 17), .null, .int 0, .int 0, .int 0])), (a 2, .inr (2, [.int 0, .ref E, .int 0]))]) hD hS hA [0, 1] rfl
      refine vx_callv (vx_runV (As := [.int p1]) (rest := []) ⟨hx, hb, hml, hown, hts⟩ (c_checkDocument l hlt D dA E a p1 H.size ) (cwV 1 hts (ga_V q125 q126 q123 q113 q124) rfl rfl rfl (by decide +kernel) ⟨(Nat.le_of_ble_eq_true rfl), (Nat.le_of_ble_eq_true rfl)⟩) ⟨pb_blind, va_recv hK hPc (ci := 11) (q0 := 0) rfl rfl, pb_pre hK hPc hDc hZ hS hFc _⟩ rfl rfl hl.1 rfl (lv_room (Nat.le_of_ble_eq_true rfl)) dX8_open_11 ⟨(Nat.le_of_ble_eq_true rfl), (Nat.le_of_ble_eq_true rfl)⟩) hS (fun q _ h => hFc q h) hFc (fun q _ h => hFc q h) (fun E9 ce q9 k t H1 locs ht hvm hpx hBX hz1 hk1 hS hce hcv hcl => ?_) (fun u t H1 locs ht hvm hw hB hz1 hk1 hS => ?_)
      · exact vx_out (fun x h => (htb x h).elim) hlocks hce hcv hcl (fun t1 ht1 hal => ⟨k, (Or.inr (⟨(by simp [hw2, c3]), hpx⟩)), hBX, hS.F ht1⟩) hS.2.2 (Nat.le_of_ble_eq_true rfl) (Nat.le_of_ble_eq_true rfl)
      · exact hw.elim

set_option maxHeartbeats 4000000 in
set_option maxRecDepth 100000 in
theorem c_X8_addWord (l : Launch) (hlt : l.stackTraces = false) (D : va_G) (dA : Nat → ClassId) (E : Nat) (a : Nat → Nat) (p0 : Int32) (sz : Nat)  : vx_Met l yX8_addWord (wq (.code yX8_addWord cX8_addWord 4 (some .int))) { frames := 6, cells := 1, slots := 6, locals := 82 } (va_Pc [.ref (a 0), .int p0] (PcB D dA E [(a 0, .inr (11, [.ref (a 1), .ref (a 2), .ref (a 3), .ref (a 4), .ref (a 5), .ref (a 10), .ref (a 15), .ref (a 17), .null, .int 0, .int 0, .int 0]))] sz)) (va_Qi (fun (r : Int32) (u : Unit) => False) (fun u t => True) (va_A [(a 0, .inr (11, [.ref (a 1), .ref (a 2), .ref (a 3), .ref (a 4), .ref (a 5), .ref (a 10), .ref (a 15), .ref (a 17), .null, .int 0, .int 0, .int 0]))] sz)) (vx_X (fun (k : Nat) => ((okW p0 = false) ∧ k = 1) ∨ ((okW p0 = true) ∧ k = 3)) (fun E9 k t => E9 = xN k) (va_A [(a 0, .inr (11, [.ref (a 1), .ref (a 2), .ref (a 3), .ref (a 4), .ref (a 5), .ref (a 10), .ref (a 15), .ref (a 17), .null, .int 0, .int 0, .int 0]))] sz)) 1 6 (va_A [(a 0, .inr (11, [.ref (a 1), .ref (a 2), .ref (a 3), .ref (a 4), .ref (a 5), .ref (a 10), .ref (a 15), .ref (a 17), .null, .int 0, .int 0, .int 0]))] sz) := by
  refine mx_of (Qc := fun A => va_Qi (fun (r : Int32) (u : Unit) => False) (fun u t => True) A) (XC := fun A => vx_X (fun (k : Nat) => ((okW p0 = false) ∧ k = 1) ∨ ((okW p0 = true) ∧ k = 3)) (fun E9 k t => E9 = xN k) A) RX8 rfl (by decide) (Nat.le_of_ble_eq_true rfl) ?_
  intro p e s m args below meth c hae hx hb hr hts hown hlocks hml hnm htb hP hK A hAe hD hZ hS hA ls hl
  have hl : lv_has ls 4 [(0, .ref (a 0)), (1, .int p0)] := hl
  refine lv_iload_n hx hb dX8_addWord_0 rfl (lv_at hl 1 rfl) ?_
  have hPc := hP.sub (ws' := []) [] rfl
  have hDc := hD.sub (ws' := []) [] (by decide) rfl
  have hFc := va_free (wc := []) hD hS hA [] rfl
  refine va_calli (va_runS (As := [.int p0]) (rest := []) ⟨hx, hb, hml, hown, hts⟩ (c_isWord l D dA E p0 s.heap.size ) (va_cwS 1 hts (ga_S q176 q114 q113 q112) rfl rfl rfl (by decide +kernel) ⟨(Nat.le_of_ble_eq_true rfl), (Nat.le_of_ble_eq_true rfl)⟩) ⟨pb_blind, pb_pre hK hPc hDc hZ hS hFc _⟩ rfl rfl hl.1 rfl (lv_room (Nat.le_of_ble_eq_true rfl)) dX8_addWord_1 ⟨(Nat.le_of_ble_eq_true rfl), (Nat.le_of_ble_eq_true rfl)⟩) hS (fun q _ h => hFc q h) hFc (fun r u t H1 locs ht hvm hw hB hz1 hk1 hS => ?_)
  refine W.widen (k := 0) (n := 0) (Nat.le_of_ble_eq_true rfl) (Nat.le_of_ble_eq_true rfl) ?_
  obtain ⟨r1, rfl⟩ : ∃ z, z = r := ⟨_, rfl⟩
  obtain ⟨u2, rfl⟩ : ∃ z, z = u := ⟨_, rfl⟩
  have hw3 := hw
  clear hw
  obtain ⟨hP, hD⟩ := jn_drop (wr := [(a 0, .inr (11, [.ref (a 1), .ref (a 2), .ref (a 3), .ref (a 4), .ref (a 5), .ref (a 10), .ref (a 15), .ref (a 17), .null, .int 0, .int 0, .int 0]))]) hP hD [] [0] rfl rfl (by decide) (by decide) hk1 hFc
  generalize H1 = H at hP hS ⊢
  have hP : va_P D vwCl [(a 0, .inr (11, [.ref (a 1), .ref (a 2), .ref (a 3), .ref (a 4), .ref (a 5), .ref (a 10), .ref (a 15), .ref (a 17), .null, .int 0, .int 0, .int 0]))] H := hP
  have hD : va_D A [(a 0, .inr (11, [.ref (a 1), .ref (a 2), .ref (a 3), .ref (a 4), .ref (a 5), .ref (a 10), .ref (a 15), .ref (a 17), .null, .int 0, .int 0, .int 0]))] := hD
  refine bt (b := (okW p0)) ?_ ?_
  · intro hB4
    obtain rfl : r1 = 1 := hw3.trans (by rw [hB4]; rfl)
    refine lv_if_ne (tgt := 17) hx hb dX8_addWord_4 (by decide) (fun _ => ?_) (fun c5 => absurd c5 (by decide))
    refine lv_aload_n hx hb dX8_addWord_17 rfl (lv_at hl 0 rfl) ?_
    refine va_get (D := D) (ci := 11) (v := .null) (C := RX8) (T := TX8) (N := 12) hx hb hts inAX8 hown hK hP 0 rfl rfl 8 (by decide) (hts _ q169) (fun _ h9 => h9) rfl dX8_addWord_18 ?_
    refine lv_astore_nN (lv' := [(2, .null), (0, .ref (a 0)), (1, .int p0)]) hx hb dX8_addWord_21 rfl hl (by decide) rfl (fun ls hl => ?_)
    refine lv_aload_nN hx hb dX8_addWord_22 rfl (lv_at hl 0 rfl) ?_
    refine lv_ifnonnullN hx hb dX8_addWord_23 ?_
    obtain ⟨sa, hstr6⟩ := hZ.1.2.2.2.2.1 ("TallowIndex", 108, "no text is open") (List.mem_of_getElem? (i := 7) rfl)
    exact vx_throwS (cls := "java/lang/IllegalStateException") (names := ["java/lang/RuntimeException", "java/lang/Exception"]) (own := RX8) hx hb hlt hown hFit_3 hFitN (hts _ q177) (hts _ q178) hstr6 (hat_RX8_72 hts hZ.1) hgd_RX8_72_68 hZ.2.1 hZ.2.2.1 hS (hl.1.trans hml.symm) dX8_addWord_26 dX8_addWord_29 dX8_addWord_30 dX8_addWord_32 dX8_addWord_35 (fun x h => (htb x h).elim) (Nat.le_of_ble_eq_true rfl) (Nat.le_of_ble_eq_true rfl) (Nat.le_of_ble_eq_true rfl) (Nat.le_of_ble_eq_true rfl) hlocks (fun t hal hz hk => ⟨3, (Or.inr (⟨(by simp [inR, hB4]), rfl⟩)), rfl, sF_t hS hz hk⟩) hS.2.2 (Nat.le_of_ble_eq_true rfl) (Nat.le_of_ble_eq_true rfl)
  · intro hB4
    obtain rfl : r1 = 0 := hw3.trans (by rw [hB4]; rfl)
    refine lv_if_ne (tgt := 17) hx hb dX8_addWord_4 (by decide) (fun c7 => absurd (by decide) c7) (fun _ => ?_)
    obtain ⟨sa, hstr8⟩ := hZ.1.2.2.2.2.1 ("TallowIndex", 106, "no such word") (List.mem_of_getElem? (i := 6) rfl)
    exact vx_throwS (cls := "java/lang/IllegalArgumentException") (names := ["java/lang/RuntimeException", "java/lang/Exception"]) (own := RX8) hx hb hlt hown hFit_1 hFitN (hts _ q115) (hts _ q116) hstr8 (hat_RX8_61 hts hZ.1) hgd_RX8_61_57 hZ.2.1 hZ.2.2.1 hS (hl.1.trans hml.symm) dX8_addWord_7 dX8_addWord_10 dX8_addWord_11 dX8_addWord_13 dX8_addWord_16 (fun x h => (htb x h).elim) (Nat.le_of_ble_eq_true rfl) (Nat.le_of_ble_eq_true rfl) (Nat.le_of_ble_eq_true rfl) (Nat.le_of_ble_eq_true rfl) hlocks (fun t hal hz hk => ⟨1, (Or.inl (⟨(by simp [inR, hB4]), rfl⟩)), rfl, sF_t hS hz hk⟩) hS.2.2 (Nat.le_of_ble_eq_true rfl) (Nat.le_of_ble_eq_true rfl)

set_option maxHeartbeats 4000000 in
set_option maxRecDepth 100000 in
theorem c_X8_close (l : Launch) (hlt : l.stackTraces = false) (D : va_G) (dA : Nat → ClassId) (E : Nat) (a : Nat → Nat) (sz : Nat)  : vx_Met l yX8_close (wq (.code yX8_close cX8_close 3 (some .int))) { frames := 6, cells := 1, slots := 6, locals := 82 } (va_Pc [.ref (a 0)] (PcB D dA E [(a 0, .inr (11, [.ref (a 1), .ref (a 2), .ref (a 3), .ref (a 4), .ref (a 5), .ref (a 10), .ref (a 15), .ref (a 17), .null, .int 0, .int 0, .int 0]))] sz)) (va_Qi (fun (r : Int32) (u : Unit) => False) (fun u t => True) (va_A [(a 0, .inr (11, [.ref (a 1), .ref (a 2), .ref (a 3), .ref (a 4), .ref (a 5), .ref (a 10), .ref (a 15), .ref (a 17), .null, .int 0, .int 0, .int 0]))] sz)) (vx_X (fun (k : Nat) => k = 3) (fun E9 k t => E9 = xN k) (va_A [(a 0, .inr (11, [.ref (a 1), .ref (a 2), .ref (a 3), .ref (a 4), .ref (a 5), .ref (a 10), .ref (a 15), .ref (a 17), .null, .int 0, .int 0, .int 0]))] sz)) 1 6 (va_A [(a 0, .inr (11, [.ref (a 1), .ref (a 2), .ref (a 3), .ref (a 4), .ref (a 5), .ref (a 10), .ref (a 15), .ref (a 17), .null, .int 0, .int 0, .int 0]))] sz) := by
  refine mx_of (Qc := fun A => va_Qi (fun (r : Int32) (u : Unit) => False) (fun u t => True) A) (XC := fun A => vx_X (fun (k : Nat) => k = 3) (fun E9 k t => E9 = xN k) A) RX8 rfl (by decide) (Nat.le_of_ble_eq_true rfl) ?_
  intro p e s m args below meth c hae hx hb hr hts hown hlocks hml hnm htb hP hK A hAe hD hZ hS hA ls hl
  have hl : lv_has ls 3 [(0, .ref (a 0))] := hl
  refine lv_aload_n hx hb dX8_close_0 rfl (lv_at hl 0 rfl) ?_
  refine va_get (D := D) (ci := 11) (v := .null) (C := RX8) (T := TX8) (N := 12) hx hb hts inAX8 hown hK hP 0 rfl rfl 8 (by decide) (hts _ q169) (fun _ h9 => h9) rfl dX8_close_1 ?_
  refine lv_astore_nN (lv' := [(1, .null), (0, .ref (a 0))]) hx hb dX8_close_4 rfl hl (by decide) rfl (fun ls hl => ?_)
  refine lv_aload_nN hx hb dX8_close_5 rfl (lv_at hl 0 rfl) ?_
  refine lv_ifnonnullN hx hb dX8_close_6 ?_
  obtain ⟨sa, hstr1⟩ := hZ.1.2.2.2.2.1 ("TallowIndex", 108, "no text is open") (List.mem_of_getElem? (i := 7) rfl)
  exact vx_throwS (cls := "java/lang/IllegalStateException") (names := ["java/lang/RuntimeException", "java/lang/Exception"]) (own := RX8) hx hb hlt hown hFit_3 hFitN (hts _ q177) (hts _ q178) hstr1 (hat_RX8_72 hts hZ.1) hgd_RX8_72_68 hZ.2.1 hZ.2.2.1 hS (hl.1.trans hml.symm) dX8_close_9 dX8_close_12 dX8_close_13 dX8_close_15 dX8_close_18 (fun x h => (htb x h).elim) (Nat.le_of_ble_eq_true rfl) (Nat.le_of_ble_eq_true rfl) (Nat.le_of_ble_eq_true rfl) (Nat.le_of_ble_eq_true rfl) hlocks (fun t hal hz hk => ⟨3, (rfl), rfl, sF_t hS hz hk⟩) hS.2.2 (Nat.le_of_ble_eq_true rfl) (Nat.le_of_ble_eq_true rfl)

set_option maxHeartbeats 4000000 in
set_option maxRecDepth 100000 in
theorem c_X8_remove (l : Launch) (hlt : l.stackTraces = false) (D : va_G) (dA : Nat → ClassId) (E : Nat) (a : Nat → Nat) (p0 : Int32) (sz : Nat)  : vx_Met l yX8_remove (wq (.code yX8_remove cX8_remove 3 (some .char))) { frames := 7, cells := 1, slots := 6, locals := 103 } (va_Pc [.ref (a 0), .int p0] (PcB D dA E [(a 0, .inr (11, [.ref (a 1), .ref (a 2), .ref (a 3), .ref (a 4), .ref (a 5), .ref (a 10), .ref (a 15), .ref (a 17), .null, .int 0, .int 0, .int 0])), (a 2, .inr (2, [.int 0, .ref E, .int 0]))] sz)) (va_Qi (fun (r : Int32) (u : Unit) => False) (fun u t => True) (va_A [(a 0, .inr (11, [.ref (a 1), .ref (a 2), .ref (a 3), .ref (a 4), .ref (a 5), .ref (a 10), .ref (a 15), .ref (a 17), .null, .int 0, .int 0, .int 0])), (a 2, .inr (2, [.int 0, .ref E, .int 0]))] sz)) (vx_X (fun (k : Nat) => k = 2) (fun E9 k t => E9 = xN k) (va_A [(a 0, .inr (11, [.ref (a 1), .ref (a 2), .ref (a 3), .ref (a 4), .ref (a 5), .ref (a 10), .ref (a 15), .ref (a 17), .null, .int 0, .int 0, .int 0])), (a 2, .inr (2, [.int 0, .ref E, .int 0]))] sz)) 1 6 (va_A [(a 0, .inr (11, [.ref (a 1), .ref (a 2), .ref (a 3), .ref (a 4), .ref (a 5), .ref (a 10), .ref (a 15), .ref (a 17), .null, .int 0, .int 0, .int 0])), (a 2, .inr (2, [.int 0, .ref E, .int 0]))] sz) := by
  refine mx_of (Qc := fun A => va_Qi (fun (r : Int32) (u : Unit) => False) (fun u t => True) A) (XC := fun A => vx_X (fun (k : Nat) => k = 2) (fun E9 k t => E9 = xN k) A) RX8 rfl (by decide) (Nat.le_of_ble_eq_true rfl) ?_
  intro p e s m args below meth c hae hx hb hr hts hown hlocks hml hnm htb hP hK A hAe hD hZ hS hA ls hl
  have hl : lv_has ls 3 [(0, .ref (a 0)), (1, .int p0)] := hl
  refine lv_aload_n hx hb dX8_remove_0 rfl (lv_at hl 0 rfl) ?_
  refine lv_iload_n hx hb dX8_remove_1 rfl (lv_at hl 1 rfl) ?_
  have hPc := hP.sub (ws' := [(a 0, .inr (11, [.ref (a 1), .ref (a 2), .ref (a 3), .ref (a 4), .ref (a 5), .ref (a 10), .ref (a 15), .ref (a 17), .null, .int 0, .int 0, .int 0])), (a 2, .inr (2, [.int 0, .ref E, .int 0]))]) [0, 1] rfl
  have hDc := hD.sub (ws' := [(a 0, .inr (11, [.ref (a 1), .ref (a 2), .ref (a 3), .ref (a 4), .ref (a 5), .ref (a 10), .ref (a 15), .ref (a 17), .null, .int 0, .int 0, .int 0])), (a 2, .inr (2, [.int 0, .ref E, .int 0]))]) [0, 1] (by decide) rfl
  have hFc := va_free (wc := [(a 0, .inr (11, [.ref (a 1), .ref (a 2), .ref (a 3), .ref (a 4), .ref (a 5), .ref (a 10), .ref (a 15), .ref (a 17), .null, .int 0, .int 0, .int 0])), (a 2, .inr (2, [.int 0, .ref E, .int 0]))]) hD hS hA [0, 1] rfl
  refine vx_callv (vx_runV (As := [.int p0]) (rest := []) ⟨hx, hb, hml, hown, hts⟩ (c_checkDocument l hlt D dA E a p0 s.heap.size ) (cwV 1 hts (ga_V q125 q126 q123 q113 q124) rfl rfl rfl (by decide +kernel) ⟨(Nat.le_of_ble_eq_true rfl), (Nat.le_of_ble_eq_true rfl)⟩) ⟨pb_blind, va_recv hK hPc (ci := 11) (q0 := 0) rfl rfl, pb_pre hK hPc hDc hZ hS hFc _⟩ rfl rfl hl.1 rfl (lv_room (Nat.le_of_ble_eq_true rfl)) dX8_remove_2 ⟨(Nat.le_of_ble_eq_true rfl), (Nat.le_of_ble_eq_true rfl)⟩) hS (fun q _ h => hFc q h) hFc (fun q _ h => hFc q h) (fun E9 ce q9 k t H1 locs ht hvm hpx hBX hz1 hk1 hS hce hcv hcl => ?_) (fun u t H1 locs ht hvm hw hB hz1 hk1 hS => ?_)
  · exact vx_out (fun x h => (htb x h).elim) hlocks hce hcv hcl (fun t1 ht1 hal => ⟨k, (hpx), hBX, hS.F ht1⟩) hS.2.2 (Nat.le_of_ble_eq_true rfl) (Nat.le_of_ble_eq_true rfl)
  · exact hw.elim

set_option maxHeartbeats 4000000 in
set_option maxRecDepth 100000 in
theorem c_X8_state (l : Launch) (hlt : l.stackTraces = false) (D : va_G) (dA : Nat → ClassId) (E : Nat) (a : Nat → Nat) (p0 : Int32) (sz : Nat)  : vx_Met l yX8_state (wq (.code yX8_state cX8_state 2 (some .char))) { frames := 7, cells := 1, slots := 6, locals := 103 } (va_Pc [.ref (a 0), .int p0] (PcB D dA E [(a 0, .inr (11, [.ref (a 1), .ref (a 2), .ref (a 3), .ref (a 4), .ref (a 5), .ref (a 10), .ref (a 15), .ref (a 17), .null, .int 0, .int 0, .int 0])), (a 2, .inr (2, [.int 0, .ref E, .int 0]))] sz)) (va_Qi (fun (r : Int32) (u : Unit) => False) (fun u t => True) (va_A [(a 0, .inr (11, [.ref (a 1), .ref (a 2), .ref (a 3), .ref (a 4), .ref (a 5), .ref (a 10), .ref (a 15), .ref (a 17), .null, .int 0, .int 0, .int 0])), (a 2, .inr (2, [.int 0, .ref E, .int 0]))] sz)) (vx_X (fun (k : Nat) => k = 2) (fun E9 k t => E9 = xN k) (va_A [(a 0, .inr (11, [.ref (a 1), .ref (a 2), .ref (a 3), .ref (a 4), .ref (a 5), .ref (a 10), .ref (a 15), .ref (a 17), .null, .int 0, .int 0, .int 0])), (a 2, .inr (2, [.int 0, .ref E, .int 0]))] sz)) 1 6 (va_A [(a 0, .inr (11, [.ref (a 1), .ref (a 2), .ref (a 3), .ref (a 4), .ref (a 5), .ref (a 10), .ref (a 15), .ref (a 17), .null, .int 0, .int 0, .int 0])), (a 2, .inr (2, [.int 0, .ref E, .int 0]))] sz) := by
  refine mx_of (Qc := fun A => va_Qi (fun (r : Int32) (u : Unit) => False) (fun u t => True) A) (XC := fun A => vx_X (fun (k : Nat) => k = 2) (fun E9 k t => E9 = xN k) A) RX8 rfl (by decide) (Nat.le_of_ble_eq_true rfl) ?_
  intro p e s m args below meth c hae hx hb hr hts hown hlocks hml hnm htb hP hK A hAe hD hZ hS hA ls hl
  have hl : lv_has ls 2 [(0, .ref (a 0)), (1, .int p0)] := hl
  refine lv_aload_n hx hb dX8_state_0 rfl (lv_at hl 0 rfl) ?_
  refine lv_iload_n hx hb dX8_state_1 rfl (lv_at hl 1 rfl) ?_
  have hPc := hP.sub (ws' := [(a 0, .inr (11, [.ref (a 1), .ref (a 2), .ref (a 3), .ref (a 4), .ref (a 5), .ref (a 10), .ref (a 15), .ref (a 17), .null, .int 0, .int 0, .int 0])), (a 2, .inr (2, [.int 0, .ref E, .int 0]))]) [0, 1] rfl
  have hDc := hD.sub (ws' := [(a 0, .inr (11, [.ref (a 1), .ref (a 2), .ref (a 3), .ref (a 4), .ref (a 5), .ref (a 10), .ref (a 15), .ref (a 17), .null, .int 0, .int 0, .int 0])), (a 2, .inr (2, [.int 0, .ref E, .int 0]))]) [0, 1] (by decide) rfl
  have hFc := va_free (wc := [(a 0, .inr (11, [.ref (a 1), .ref (a 2), .ref (a 3), .ref (a 4), .ref (a 5), .ref (a 10), .ref (a 15), .ref (a 17), .null, .int 0, .int 0, .int 0])), (a 2, .inr (2, [.int 0, .ref E, .int 0]))]) hD hS hA [0, 1] rfl
  refine vx_callv (vx_runV (As := [.int p0]) (rest := []) ⟨hx, hb, hml, hown, hts⟩ (c_checkDocument l hlt D dA E a p0 s.heap.size ) (cwV 1 hts (ga_V q125 q126 q123 q113 q124) rfl rfl rfl (by decide +kernel) ⟨(Nat.le_of_ble_eq_true rfl), (Nat.le_of_ble_eq_true rfl)⟩) ⟨pb_blind, va_recv hK hPc (ci := 11) (q0 := 0) rfl rfl, pb_pre hK hPc hDc hZ hS hFc _⟩ rfl rfl hl.1 rfl (lv_room (Nat.le_of_ble_eq_true rfl)) dX8_state_2 ⟨(Nat.le_of_ble_eq_true rfl), (Nat.le_of_ble_eq_true rfl)⟩) hS (fun q _ h => hFc q h) hFc (fun q _ h => hFc q h) (fun E9 ce q9 k t H1 locs ht hvm hpx hBX hz1 hk1 hS hce hcv hcl => ?_) (fun u t H1 locs ht hvm hw hB hz1 hk1 hS => ?_)
  · exact vx_out (fun x h => (htb x h).elim) hlocks hce hcv hcl (fun t1 ht1 hal => ⟨k, (hpx), hBX, hS.F ht1⟩) hS.2.2 (Nat.le_of_ble_eq_true rfl) (Nat.le_of_ble_eq_true rfl)
  · exact hw.elim

set_option maxHeartbeats 4000000 in
set_option maxRecDepth 100000 in
theorem c_X8_length (l : Launch) (hlt : l.stackTraces = false) (D : va_G) (dA : Nat → ClassId) (E : Nat) (a : Nat → Nat) (p0 : Int32) (sz : Nat)  : vx_Met l yX8_length (wq (.code yX8_length cX8_length 2 (some .int))) { frames := 8, cells := 1, slots := 6, locals := 124 } (va_Pc [.ref (a 0), .int p0] (PcB D dA E [(a 0, .inr (11, [.ref (a 1), .ref (a 2), .ref (a 3), .ref (a 4), .ref (a 5), .ref (a 10), .ref (a 15), .ref (a 17), .null, .int 0, .int 0, .int 0])), (a 2, .inr (2, [.int 0, .ref E, .int 0]))] sz)) (va_Qi (fun (r : Int32) (u : Unit) => False) (fun u t => True) (va_A [(a 0, .inr (11, [.ref (a 1), .ref (a 2), .ref (a 3), .ref (a 4), .ref (a 5), .ref (a 10), .ref (a 15), .ref (a 17), .null, .int 0, .int 0, .int 0])), (a 2, .inr (2, [.int 0, .ref E, .int 0]))] sz)) (vx_X (fun (k : Nat) => k = 2) (fun E9 k t => E9 = xN k) (va_A [(a 0, .inr (11, [.ref (a 1), .ref (a 2), .ref (a 3), .ref (a 4), .ref (a 5), .ref (a 10), .ref (a 15), .ref (a 17), .null, .int 0, .int 0, .int 0])), (a 2, .inr (2, [.int 0, .ref E, .int 0]))] sz)) 1 6 (va_A [(a 0, .inr (11, [.ref (a 1), .ref (a 2), .ref (a 3), .ref (a 4), .ref (a 5), .ref (a 10), .ref (a 15), .ref (a 17), .null, .int 0, .int 0, .int 0])), (a 2, .inr (2, [.int 0, .ref E, .int 0]))] sz) := by
  refine mx_of (Qc := fun A => va_Qi (fun (r : Int32) (u : Unit) => False) (fun u t => True) A) (XC := fun A => vx_X (fun (k : Nat) => k = 2) (fun E9 k t => E9 = xN k) A) RX8 rfl (by decide) (Nat.le_of_ble_eq_true rfl) ?_
  intro p e s m args below meth c hae hx hb hr hts hown hlocks hml hnm htb hP hK A hAe hD hZ hS hA ls hl
  have hl : lv_has ls 2 [(0, .ref (a 0)), (1, .int p0)] := hl
  refine lv_aload_n hx hb dX8_length_0 rfl (lv_at hl 0 rfl) ?_
  refine lv_iload_n hx hb dX8_length_1 rfl (lv_at hl 1 rfl) ?_
  have hPc := hP.sub (ws' := [(a 0, .inr (11, [.ref (a 1), .ref (a 2), .ref (a 3), .ref (a 4), .ref (a 5), .ref (a 10), .ref (a 15), .ref (a 17), .null, .int 0, .int 0, .int 0])), (a 2, .inr (2, [.int 0, .ref E, .int 0]))]) [0, 1] rfl
  have hDc := hD.sub (ws' := [(a 0, .inr (11, [.ref (a 1), .ref (a 2), .ref (a 3), .ref (a 4), .ref (a 5), .ref (a 10), .ref (a 15), .ref (a 17), .null, .int 0, .int 0, .int 0])), (a 2, .inr (2, [.int 0, .ref E, .int 0]))]) [0, 1] (by decide) rfl
  have hFc := va_free (wc := [(a 0, .inr (11, [.ref (a 1), .ref (a 2), .ref (a 3), .ref (a 4), .ref (a 5), .ref (a 10), .ref (a 15), .ref (a 17), .null, .int 0, .int 0, .int 0])), (a 2, .inr (2, [.int 0, .ref E, .int 0]))]) hD hS hA [0, 1] rfl
  refine vx_callr (vx_runV (As := [.int p0]) (rest := []) ⟨hx, hb, hml, hown, hts⟩ (c_documentNumbered l hlt D dA E a p0 s.heap.size ) (cwV 1 hts (ga_V q181 q182 q179 q113 q180) rfl rfl rfl (by decide +kernel) ⟨(Nat.le_of_ble_eq_true rfl), (Nat.le_of_ble_eq_true rfl)⟩) ⟨pb_blind, va_recv hK hPc (ci := 11) (q0 := 0) rfl rfl, pb_pre hK hPc hDc hZ hS hFc _⟩ rfl rfl hl.1 rfl (lv_room (Nat.le_of_ble_eq_true rfl)) dX8_length_2 ⟨(Nat.le_of_ble_eq_true rfl), (Nat.le_of_ble_eq_true rfl)⟩) hS (fun q _ h => hFc q h) hFc (fun q _ h => hFc q h) (fun E9 ce q9 k t H1 locs ht hvm hpx hBX hz1 hk1 hS hce hcv hcl => ?_) (fun u ra t H1 locs ht hvm hw hB hz1 hk1 hS => ?_)
  · exact vx_out (fun x h => (htb x h).elim) hlocks hce hcv hcl (fun t1 ht1 hal => ⟨k, (hpx), hBX, hS.F ht1⟩) hS.2.2 (Nat.le_of_ble_eq_true rfl) (Nat.le_of_ble_eq_true rfl)
  · exact hw.elim

set_option maxHeartbeats 4000000 in
set_option maxRecDepth 100000 in
theorem c_X8_standing (l : Launch) (hlt : l.stackTraces = false) (D : va_G) (dA : Nat → ClassId) (E : Nat) (a : Nat → Nat) (p0 p1 p2 : Int32) (sz : Nat)  : vx_Met l yX8_standing (wq (.code yX8_standing cX8_standing 4 (some .int))) { frames := 8, cells := 1, slots := 6, locals := 124 } (va_Pc [.ref (a 0), .int p0, .int p1, .int p2] (PcB D dA E [(a 0, .inr (11, [.ref (a 1), .ref (a 2), .ref (a 3), .ref (a 4), .ref (a 5), .ref (a 10), .ref (a 15), .ref (a 17), .null, .int 0, .int 0, .int 0])), (a 2, .inr (2, [.int 0, .ref E, .int 0]))] sz)) (va_Qi (fun (r : Int32) (u : Unit) => False) (fun u t => True) (va_A [(a 0, .inr (11, [.ref (a 1), .ref (a 2), .ref (a 3), .ref (a 4), .ref (a 5), .ref (a 10), .ref (a 15), .ref (a 17), .null, .int 0, .int 0, .int 0])), (a 2, .inr (2, [.int 0, .ref E, .int 0]))] sz)) (vx_X (fun (k : Nat) => k = 2) (fun E9 k t => E9 = xN k) (va_A [(a 0, .inr (11, [.ref (a 1), .ref (a 2), .ref (a 3), .ref (a 4), .ref (a 5), .ref (a 10), .ref (a 15), .ref (a 17), .null, .int 0, .int 0, .int 0])), (a 2, .inr (2, [.int 0, .ref E, .int 0]))] sz)) 1 6 (va_A [(a 0, .inr (11, [.ref (a 1), .ref (a 2), .ref (a 3), .ref (a 4), .ref (a 5), .ref (a 10), .ref (a 15), .ref (a 17), .null, .int 0, .int 0, .int 0])), (a 2, .inr (2, [.int 0, .ref E, .int 0]))] sz) := by
  refine mx_of (Qc := fun A => va_Qi (fun (r : Int32) (u : Unit) => False) (fun u t => True) A) (XC := fun A => vx_X (fun (k : Nat) => k = 2) (fun E9 k t => E9 = xN k) A) RX8 rfl (by decide) (Nat.le_of_ble_eq_true rfl) ?_
  intro p e s m args below meth c hae hx hb hr hts hown hlocks hml hnm htb hP hK A hAe hD hZ hS hA ls hl
  have hl : lv_has ls 4 [(0, .ref (a 0)), (1, .int p0), (2, .int p1), (3, .int p2)] := hl
  refine lv_aload_n hx hb dX8_standing_0 rfl (lv_at hl 0 rfl) ?_
  refine lv_iload_n hx hb dX8_standing_1 rfl (lv_at hl 1 rfl) ?_
  have hPc := hP.sub (ws' := [(a 0, .inr (11, [.ref (a 1), .ref (a 2), .ref (a 3), .ref (a 4), .ref (a 5), .ref (a 10), .ref (a 15), .ref (a 17), .null, .int 0, .int 0, .int 0])), (a 2, .inr (2, [.int 0, .ref E, .int 0]))]) [0, 1] rfl
  have hDc := hD.sub (ws' := [(a 0, .inr (11, [.ref (a 1), .ref (a 2), .ref (a 3), .ref (a 4), .ref (a 5), .ref (a 10), .ref (a 15), .ref (a 17), .null, .int 0, .int 0, .int 0])), (a 2, .inr (2, [.int 0, .ref E, .int 0]))]) [0, 1] (by decide) rfl
  have hFc := va_free (wc := [(a 0, .inr (11, [.ref (a 1), .ref (a 2), .ref (a 3), .ref (a 4), .ref (a 5), .ref (a 10), .ref (a 15), .ref (a 17), .null, .int 0, .int 0, .int 0])), (a 2, .inr (2, [.int 0, .ref E, .int 0]))]) hD hS hA [0, 1] rfl
  refine vx_callr (vx_runV (As := [.int p0]) (rest := []) ⟨hx, hb, hml, hown, hts⟩ (c_documentNumbered l hlt D dA E a p0 s.heap.size ) (cwV 1 hts (ga_V q181 q182 q179 q113 q180) rfl rfl rfl (by decide +kernel) ⟨(Nat.le_of_ble_eq_true rfl), (Nat.le_of_ble_eq_true rfl)⟩) ⟨pb_blind, va_recv hK hPc (ci := 11) (q0 := 0) rfl rfl, pb_pre hK hPc hDc hZ hS hFc _⟩ rfl rfl hl.1 rfl (lv_room (Nat.le_of_ble_eq_true rfl)) dX8_standing_2 ⟨(Nat.le_of_ble_eq_true rfl), (Nat.le_of_ble_eq_true rfl)⟩) hS (fun q _ h => hFc q h) hFc (fun q _ h => hFc q h) (fun E9 ce q9 k t H1 locs ht hvm hpx hBX hz1 hk1 hS hce hcv hcl => ?_) (fun u ra t H1 locs ht hvm hw hB hz1 hk1 hS => ?_)
  · exact vx_out (fun x h => (htb x h).elim) hlocks hce hcv hcl (fun t1 ht1 hal => ⟨k, (hpx), hBX, hS.F ht1⟩) hS.2.2 (Nat.le_of_ble_eq_true rfl) (Nat.le_of_ble_eq_true rfl)
  · exact hw.elim

set_option maxHeartbeats 4000000 in
set_option maxRecDepth 100000 in
theorem c_X8_isOnReplica (l : Launch) (hlt : l.stackTraces = false) (D : va_G) (dA : Nat → ClassId) (E : Nat) (a : Nat → Nat) (p0 : Int32) (sz : Nat)  : vx_Met l yX8_isOnReplica (wq (.code yX8_isOnReplica cX8_isOnReplica 2 (some .boolean))) { frames := 7, cells := 1, slots := 6, locals := 103 } (va_Pc [.ref (a 0), .int p0] (PcB D dA E [(a 0, .inr (11, [.ref (a 1), .ref (a 2), .ref (a 3), .ref (a 4), .ref (a 5), .ref (a 10), .ref (a 15), .ref (a 17), .null, .int 0, .int 0, .int 0])), (a 2, .inr (2, [.int 0, .ref E, .int 0]))] sz)) (va_Qi (fun (r : Int32) (u : Unit) => False) (fun u t => True) (va_A [(a 0, .inr (11, [.ref (a 1), .ref (a 2), .ref (a 3), .ref (a 4), .ref (a 5), .ref (a 10), .ref (a 15), .ref (a 17), .null, .int 0, .int 0, .int 0])), (a 2, .inr (2, [.int 0, .ref E, .int 0]))] sz)) (vx_X (fun (k : Nat) => k = 2) (fun E9 k t => E9 = xN k) (va_A [(a 0, .inr (11, [.ref (a 1), .ref (a 2), .ref (a 3), .ref (a 4), .ref (a 5), .ref (a 10), .ref (a 15), .ref (a 17), .null, .int 0, .int 0, .int 0])), (a 2, .inr (2, [.int 0, .ref E, .int 0]))] sz)) 1 6 (va_A [(a 0, .inr (11, [.ref (a 1), .ref (a 2), .ref (a 3), .ref (a 4), .ref (a 5), .ref (a 10), .ref (a 15), .ref (a 17), .null, .int 0, .int 0, .int 0])), (a 2, .inr (2, [.int 0, .ref E, .int 0]))] sz) := by
  refine mx_of (Qc := fun A => va_Qi (fun (r : Int32) (u : Unit) => False) (fun u t => True) A) (XC := fun A => vx_X (fun (k : Nat) => k = 2) (fun E9 k t => E9 = xN k) A) RX8 rfl (by decide) (Nat.le_of_ble_eq_true rfl) ?_
  intro p e s m args below meth c hae hx hb hr hts hown hlocks hml hnm htb hP hK A hAe hD hZ hS hA ls hl
  have hl : lv_has ls 2 [(0, .ref (a 0)), (1, .int p0)] := hl
  refine lv_aload_n hx hb dX8_isOnReplica_0 rfl (lv_at hl 0 rfl) ?_
  refine lv_iload_n hx hb dX8_isOnReplica_1 rfl (lv_at hl 1 rfl) ?_
  have hPc := hP.sub (ws' := [(a 0, .inr (11, [.ref (a 1), .ref (a 2), .ref (a 3), .ref (a 4), .ref (a 5), .ref (a 10), .ref (a 15), .ref (a 17), .null, .int 0, .int 0, .int 0])), (a 2, .inr (2, [.int 0, .ref E, .int 0]))]) [0, 1] rfl
  have hDc := hD.sub (ws' := [(a 0, .inr (11, [.ref (a 1), .ref (a 2), .ref (a 3), .ref (a 4), .ref (a 5), .ref (a 10), .ref (a 15), .ref (a 17), .null, .int 0, .int 0, .int 0])), (a 2, .inr (2, [.int 0, .ref E, .int 0]))]) [0, 1] (by decide) rfl
  have hFc := va_free (wc := [(a 0, .inr (11, [.ref (a 1), .ref (a 2), .ref (a 3), .ref (a 4), .ref (a 5), .ref (a 10), .ref (a 15), .ref (a 17), .null, .int 0, .int 0, .int 0])), (a 2, .inr (2, [.int 0, .ref E, .int 0]))]) hD hS hA [0, 1] rfl
  refine vx_callv (vx_runV (As := [.int p0]) (rest := []) ⟨hx, hb, hml, hown, hts⟩ (c_checkDocument l hlt D dA E a p0 s.heap.size ) (cwV 1 hts (ga_V q125 q126 q123 q113 q124) rfl rfl rfl (by decide +kernel) ⟨(Nat.le_of_ble_eq_true rfl), (Nat.le_of_ble_eq_true rfl)⟩) ⟨pb_blind, va_recv hK hPc (ci := 11) (q0 := 0) rfl rfl, pb_pre hK hPc hDc hZ hS hFc _⟩ rfl rfl hl.1 rfl (lv_room (Nat.le_of_ble_eq_true rfl)) dX8_isOnReplica_2 ⟨(Nat.le_of_ble_eq_true rfl), (Nat.le_of_ble_eq_true rfl)⟩) hS (fun q _ h => hFc q h) hFc (fun q _ h => hFc q h) (fun E9 ce q9 k t H1 locs ht hvm hpx hBX hz1 hk1 hS hce hcv hcl => ?_) (fun u t H1 locs ht hvm hw hB hz1 hk1 hS => ?_)
  · exact vx_out (fun x h => (htb x h).elim) hlocks hce hcv hcl (fun t1 ht1 hal => ⟨k, (hpx), hBX, hS.F ht1⟩) hS.2.2 (Nat.le_of_ble_eq_true rfl) (Nat.le_of_ble_eq_true rfl)
  · exact hw.elim

set_option maxHeartbeats 4000000 in
set_option maxRecDepth 100000 in
theorem c_X8_click (l : Launch) (hlt : l.stackTraces = false) (D : va_G) (dA : Nat → ClassId) (E : Nat) (a : Nat → Nat) (p0 : Int32) (sz : Nat)  : vx_Met l yX8_click (wq (.code yX8_click cX8_click 3 (some .int))) { frames := 8, cells := 1, slots := 6, locals := 124 } (va_Pc [.ref (a 0), .int p0] (PcB D dA E [(a 0, .inr (11, [.ref (a 1), .ref (a 2), .ref (a 3), .ref (a 4), .ref (a 5), .ref (a 10), .ref (a 15), .ref (a 17), .null, .int 0, .int 0, .int 0])), (a 2, .inr (2, [.int 0, .ref E, .int 0]))] sz)) (va_Qi (fun (r : Int32) (u : Unit) => False) (fun u t => True) (va_A [(a 0, .inr (11, [.ref (a 1), .ref (a 2), .ref (a 3), .ref (a 4), .ref (a 5), .ref (a 10), .ref (a 15), .ref (a 17), .null, .int 0, .int 0, .int 0])), (a 2, .inr (2, [.int 0, .ref E, .int 0]))] sz)) (vx_X (fun (k : Nat) => k = 2) (fun E9 k t => E9 = xN k) (va_A [(a 0, .inr (11, [.ref (a 1), .ref (a 2), .ref (a 3), .ref (a 4), .ref (a 5), .ref (a 10), .ref (a 15), .ref (a 17), .null, .int 0, .int 0, .int 0])), (a 2, .inr (2, [.int 0, .ref E, .int 0]))] sz)) 1 6 (va_A [(a 0, .inr (11, [.ref (a 1), .ref (a 2), .ref (a 3), .ref (a 4), .ref (a 5), .ref (a 10), .ref (a 15), .ref (a 17), .null, .int 0, .int 0, .int 0])), (a 2, .inr (2, [.int 0, .ref E, .int 0]))] sz) := by
  refine mx_of (Qc := fun A => va_Qi (fun (r : Int32) (u : Unit) => False) (fun u t => True) A) (XC := fun A => vx_X (fun (k : Nat) => k = 2) (fun E9 k t => E9 = xN k) A) RX8 rfl (by decide) (Nat.le_of_ble_eq_true rfl) ?_
  intro p e s m args below meth c hae hx hb hr hts hown hlocks hml hnm htb hP hK A hAe hD hZ hS hA ls hl
  have hl : lv_has ls 3 [(0, .ref (a 0)), (1, .int p0)] := hl
  refine lv_aload_n hx hb dX8_click_0 rfl (lv_at hl 0 rfl) ?_
  refine lv_iload_n hx hb dX8_click_1 rfl (lv_at hl 1 rfl) ?_
  have hPc := hP.sub (ws' := [(a 0, .inr (11, [.ref (a 1), .ref (a 2), .ref (a 3), .ref (a 4), .ref (a 5), .ref (a 10), .ref (a 15), .ref (a 17), .null, .int 0, .int 0, .int 0])), (a 2, .inr (2, [.int 0, .ref E, .int 0]))]) [0, 1] rfl
  have hDc := hD.sub (ws' := [(a 0, .inr (11, [.ref (a 1), .ref (a 2), .ref (a 3), .ref (a 4), .ref (a 5), .ref (a 10), .ref (a 15), .ref (a 17), .null, .int 0, .int 0, .int 0])), (a 2, .inr (2, [.int 0, .ref E, .int 0]))]) [0, 1] (by decide) rfl
  have hFc := va_free (wc := [(a 0, .inr (11, [.ref (a 1), .ref (a 2), .ref (a 3), .ref (a 4), .ref (a 5), .ref (a 10), .ref (a 15), .ref (a 17), .null, .int 0, .int 0, .int 0])), (a 2, .inr (2, [.int 0, .ref E, .int 0]))]) hD hS hA [0, 1] rfl
  refine vx_callr (vx_runV (As := [.int p0]) (rest := []) ⟨hx, hb, hml, hown, hts⟩ (c_documentNumbered l hlt D dA E a p0 s.heap.size ) (cwV 1 hts (ga_V q181 q182 q179 q113 q180) rfl rfl rfl (by decide +kernel) ⟨(Nat.le_of_ble_eq_true rfl), (Nat.le_of_ble_eq_true rfl)⟩) ⟨pb_blind, va_recv hK hPc (ci := 11) (q0 := 0) rfl rfl, pb_pre hK hPc hDc hZ hS hFc _⟩ rfl rfl hl.1 rfl (lv_room (Nat.le_of_ble_eq_true rfl)) dX8_click_2 ⟨(Nat.le_of_ble_eq_true rfl), (Nat.le_of_ble_eq_true rfl)⟩) hS (fun q _ h => hFc q h) hFc (fun q _ h => hFc q h) (fun E9 ce q9 k t H1 locs ht hvm hpx hBX hz1 hk1 hS hce hcv hcl => ?_) (fun u ra t H1 locs ht hvm hw hB hz1 hk1 hS => ?_)
  · exact vx_out (fun x h => (htb x h).elim) hlocks hce hcv hcl (fun t1 ht1 hal => ⟨k, (hpx), hBX, hS.F ht1⟩) hS.2.2 (Nat.le_of_ble_eq_true rfl) (Nat.le_of_ble_eq_true rfl)
  · exact hw.elim

set_option maxHeartbeats 4000000 in
set_option maxRecDepth 100000 in
theorem c_X8_write (l : Launch) (D : va_G) (dA : Nat → ClassId) (E : Nat) (a : Nat → Nat) (sz : Nat)  : Met l yX8_write (wq (.code yX8_write cX8_write 1 (some .int))) { frames := 1, cells := 0, slots := 0, locals := 22 } (va_Pc [.ref (a 0)] (PcB D dA E [(a 0, .inr (11, [.ref (a 1), .ref (a 2), .ref (a 3), .ref (a 4), .ref (a 5), .ref (a 10), .ref (a 15), .ref (a 17), .null, .int 0, .int 0, .int 0])), (a 5, .inr (7, [.ref (a 6), .ref (a 8), .int 0, .int 0]))] sz)) (va_Qi (fun (r : Int32) (u : Unit) => r = 0) (fun u t => True) (va_A [(a 0, .inr (11, [.ref (a 1), .ref (a 2), .ref (a 3), .ref (a 4), .ref (a 5), .ref (a 10), .ref (a 15), .ref (a 17), .null, .int 0, .int 0, .int 0])), (a 5, .inr (7, [.ref (a 6), .ref (a 8), .int 0, .int 0]))] sz)) 0 0 (va_A [(a 0, .inr (11, [.ref (a 1), .ref (a 2), .ref (a 3), .ref (a 4), .ref (a 5), .ref (a 10), .ref (a 15), .ref (a 17), .null, .int 0, .int 0, .int 0])), (a 5, .inr (7, [.ref (a 6), .ref (a 8), .int 0, .int 0]))] sz) := by
  refine mb_of (Qc := fun A => va_Qi (fun (r : Int32) (u : Unit) => r = 0) (fun u t => True) A) RX8 rfl (by decide) (Nat.le_of_ble_eq_true rfl) ?_
  intro p e s m args below meth c hae hx hb hr hts hown hlocks hml hnm hP hK A hAe hD hZ hS hA ls hl
  have hl : lv_has ls 1 [(0, .ref (a 0))] := hl
  refine lv_aload_n hx hb dX8_write_0 rfl (lv_at hl 0 rfl) ?_
  refine va_get (D := D) (ci := 11) (v := .ref (a 5)) (C := RX8) (T := TX8) (N := 12) hx hb hts inAX8 hown hK hP 0 rfl rfl 4 (by decide) (hts _ q101) (fun _ h9 => h9) rfl dX8_write_1 ?_
  have hPc := hP.sub (ws' := [(a 5, .inr (7, [.ref (a 6), .ref (a 8), .int 0, .int 0]))]) [1] rfl
  have hDc := hD.sub (ws' := [(a 5, .inr (7, [.ref (a 6), .ref (a 8), .int 0, .int 0]))]) [1] (by decide) rfl
  have hFc := va_free (wc := [(a 5, .inr (7, [.ref (a 6), .ref (a 8), .int 0, .int 0]))]) hD hS hA [1] rfl
  refine va_calli (va_runV (As := []) (rest := []) ⟨hx, hb, hml, hown, hts⟩ (c_writeBuffer l D dA E (a 5) (a 6) (a 8)  s.heap.size ) (cwV 0 hts (ga_V q185 q186 q183 q98 q184) rfl rfl rfl (by decide +kernel) ⟨(Nat.le_of_ble_eq_true rfl), (Nat.le_of_ble_eq_true rfl)⟩) ⟨pb_blind, va_recv hK hPc (ci := 7) (q0 := 0) rfl rfl, pb_pre hK hPc hDc hZ hS hFc _⟩ rfl rfl hl.1 rfl (lv_room (Nat.le_of_ble_eq_true rfl)) dX8_write_4 ⟨(Nat.le_of_ble_eq_true rfl), (Nat.le_of_ble_eq_true rfl)⟩) hS (fun q _ h => hFc q h) hFc (fun r u t H1 locs ht hvm hw hB hz1 hk1 hS => ?_)
  refine W.widen (k := 0) (n := 0) (Nat.le_of_ble_eq_true rfl) (Nat.le_of_ble_eq_true rfl) ?_
  obtain ⟨r1, rfl⟩ : ∃ z, z = r := ⟨_, rfl⟩
  obtain ⟨u2, rfl⟩ : ∃ z, z = u := ⟨_, rfl⟩
  have hw3 := hw
  clear hw
  obtain ⟨hP1, hD1⟩ := hB
  rw [ht] at hP1
  obtain ⟨hP, hD⟩ := va_join (wr := [(a 0, .inr (11, [.ref (a 1), .ref (a 2), .ref (a 3), .ref (a 4), .ref (a 5), .ref (a 10), .ref (a 15), .ref (a 17), .null, .int 0, .int 0, .int 0]))]) (w1 := [(a 5, .inr (7, [.ref (a 6), .ref (a 8), .int 0, .int 0]))]) hP hD [1] [0] rfl rfl (by decide) (by decide) hk1 hFc hP1 hD1
  generalize H1 = H at hP hS ⊢
  have hP : va_P D vwCl [(a 0, .inr (11, [.ref (a 1), .ref (a 2), .ref (a 3), .ref (a 4), .ref (a 5), .ref (a 10), .ref (a 15), .ref (a 17), .null, .int 0, .int 0, .int 0])), (a 5, .inr (7, [.ref (a 6), .ref (a 8), .int 0, .int 0]))] H := hP
  have hD : va_D A [(a 0, .inr (11, [.ref (a 1), .ref (a 2), .ref (a 3), .ref (a 4), .ref (a 5), .ref (a 10), .ref (a 15), .ref (a 17), .null, .int 0, .int 0, .int 0])), (a 5, .inr (7, [.ref (a 6), .ref (a 8), .int 0, .int 0]))] := hD
  obtain rfl : r1 = 0 := hw3
  refine W.widen (k := 0) (n := 0) (Nat.le_of_ble_eq_true rfl) (Nat.le_of_ble_eq_true rfl) ?_
  exact W.iret (v := 0) hx hb hr (fun t ht hW => ⟨⟨0, (), rfl, (rfl), trivial⟩, hS.F ht⟩) hS.2.2 dX8_write_7

set_option maxHeartbeats 4000000 in
set_option maxRecDepth 100000 in
theorem c_X8_segments (l : Launch) (D : va_G) (dA : Nat → ClassId) (E : Nat) (a : Nat → Nat) (sz : Nat)  : Met l yX8_segments (wq (.code yX8_segments cX8_segments 1 (some .int))) { frames := 0, cells := 0, slots := 0, locals := 0 } (va_Pc [.ref (a 0)] (PcB D dA E [(a 0, .inr (11, [.ref (a 1), .ref (a 2), .ref (a 3), .ref (a 4), .ref (a 5), .ref (a 10), .ref (a 15), .ref (a 17), .null, .int 0, .int 0, .int 0])), (a 5, .inr (7, [.ref (a 6), .ref (a 8), .int 0, .int 0]))] sz)) (va_Qi (fun (r : Int32) (u : Unit) => r = 0) (fun u t => True) (va_A [(a 0, .inr (11, [.ref (a 1), .ref (a 2), .ref (a 3), .ref (a 4), .ref (a 5), .ref (a 10), .ref (a 15), .ref (a 17), .null, .int 0, .int 0, .int 0])), (a 5, .inr (7, [.ref (a 6), .ref (a 8), .int 0, .int 0]))] sz)) 0 0 (va_A [(a 0, .inr (11, [.ref (a 1), .ref (a 2), .ref (a 3), .ref (a 4), .ref (a 5), .ref (a 10), .ref (a 15), .ref (a 17), .null, .int 0, .int 0, .int 0])), (a 5, .inr (7, [.ref (a 6), .ref (a 8), .int 0, .int 0]))] sz) := by
  refine mb_of (Qc := fun A => va_Qi (fun (r : Int32) (u : Unit) => r = 0) (fun u t => True) A) RX8 rfl (by decide) (Nat.le_of_ble_eq_true rfl) ?_
  intro p e s m args below meth c hae hx hb hr hts hown hlocks hml hnm hP hK A hAe hD hZ hS hA ls hl
  have hl : lv_has ls 1 [(0, .ref (a 0))] := hl
  refine lv_aload_n hx hb dX8_segments_0 rfl (lv_at hl 0 rfl) ?_
  refine va_get (D := D) (ci := 11) (v := .ref (a 5)) (C := RX8) (T := TX8) (N := 12) hx hb hts inAX8 hown hK hP 0 rfl rfl 4 (by decide) (hts _ q101) (fun _ h9 => h9) rfl dX8_segments_1 ?_
  refine va_getN (D := D) (ci := 7) (v := .int 0) (C := RX4) (T := TX4) (N := 4) hx hb hts inAX4 hown hK hP 1 rfl rfl 3 (by decide) (va_Nw.use rfl (hZ.1.2.2.1 _ (List.mem_of_getElem? (i := 0) rfl))) (fun _ h9 => h9) rfl dX8_segments_4 ?_
  refine W.widen (k := 0) (n := 0) (Nat.le_of_ble_eq_true rfl) (Nat.le_of_ble_eq_true rfl) ?_
  exact W.iret (v := 0) hx hb hr (fun t ht hW => ⟨⟨0, (), rfl, (rfl), trivial⟩, hS.F ht⟩) hS.2.2 dX8_segments_7

set_option maxHeartbeats 4000000 in
set_option maxRecDepth 100000 in
theorem c_X8_size (l : Launch) (hlt : l.stackTraces = false) (D : va_G) (dA : Nat → ClassId) (E : Nat) (a : Nat → Nat) (p0 : Int32) (sz : Nat)  : vx_Met l yX8_size (wq (.code yX8_size cX8_size 2 (some .int))) { frames := 6, cells := 1, slots := 6, locals := 82 } (va_Pc [.ref (a 0), .int p0] (PcB D dA E [(a 0, .inr (11, [.ref (a 1), .ref (a 2), .ref (a 3), .ref (a 4), .ref (a 5), .ref (a 10), .ref (a 15), .ref (a 17), .null, .int 0, .int 0, .int 0])), (a 5, .inr (7, [.ref (a 6), .ref (a 8), .int 0, .int 0]))] sz)) (va_Qi (fun (r : Int32) (u : Unit) => False) (fun u t => True) (va_A [(a 0, .inr (11, [.ref (a 1), .ref (a 2), .ref (a 3), .ref (a 4), .ref (a 5), .ref (a 10), .ref (a 15), .ref (a 17), .null, .int 0, .int 0, .int 0])), (a 5, .inr (7, [.ref (a 6), .ref (a 8), .int 0, .int 0]))] sz)) (vx_X (fun (k : Nat) => k = 2) (fun E9 k t => E9 = xN k) (va_A [(a 0, .inr (11, [.ref (a 1), .ref (a 2), .ref (a 3), .ref (a 4), .ref (a 5), .ref (a 10), .ref (a 15), .ref (a 17), .null, .int 0, .int 0, .int 0])), (a 5, .inr (7, [.ref (a 6), .ref (a 8), .int 0, .int 0]))] sz)) 1 6 (va_A [(a 0, .inr (11, [.ref (a 1), .ref (a 2), .ref (a 3), .ref (a 4), .ref (a 5), .ref (a 10), .ref (a 15), .ref (a 17), .null, .int 0, .int 0, .int 0])), (a 5, .inr (7, [.ref (a 6), .ref (a 8), .int 0, .int 0]))] sz) := by
  refine mx_of (Qc := fun A => va_Qi (fun (r : Int32) (u : Unit) => False) (fun u t => True) A) (XC := fun A => vx_X (fun (k : Nat) => k = 2) (fun E9 k t => E9 = xN k) A) RX8 rfl (by decide) (Nat.le_of_ble_eq_true rfl) ?_
  intro p e s m args below meth c hae hx hb hr hts hown hlocks hml hnm htb hP hK A hAe hD hZ hS hA ls hl
  have hl : lv_has ls 2 [(0, .ref (a 0)), (1, .int p0)] := hl
  refine lv_aload_n hx hb dX8_size_0 rfl (lv_at hl 0 rfl) ?_
  refine va_get (D := D) (ci := 11) (v := .ref (a 5)) (C := RX8) (T := TX8) (N := 12) hx hb hts inAX8 hown hK hP 0 rfl rfl 4 (by decide) (hts _ q101) (fun _ h9 => h9) rfl dX8_size_1 ?_
  refine lv_iload_n hx hb dX8_size_4 rfl (lv_at hl 1 rfl) ?_
  have hPc := hP.sub (ws' := [(a 5, .inr (7, [.ref (a 6), .ref (a 8), .int 0, .int 0]))]) [1] rfl
  have hDc := hD.sub (ws' := [(a 5, .inr (7, [.ref (a 6), .ref (a 8), .int 0, .int 0]))]) [1] (by decide) rfl
  have hFc := va_free (wc := [(a 5, .inr (7, [.ref (a 6), .ref (a 8), .int 0, .int 0]))]) hD hS hA [1] rfl
  refine va_calli (va_runV (As := [.int p0]) (rest := []) ⟨hx, hb, hml, hown, hts⟩ (c_hasSegment l D dA E (a 5) (a 6) (a 8) p0 s.heap.size ) (cwV 1 hts (ga_V q189 q190 q187 q98 q188) rfl rfl rfl (by decide +kernel) ⟨(Nat.le_of_ble_eq_true rfl), (Nat.le_of_ble_eq_true rfl)⟩) ⟨pb_blind, va_recv hK hPc (ci := 7) (q0 := 0) rfl rfl, pb_pre hK hPc hDc hZ hS hFc _⟩ rfl rfl hl.1 rfl (lv_room (Nat.le_of_ble_eq_true rfl)) dX8_size_5 ⟨(Nat.le_of_ble_eq_true rfl), (Nat.le_of_ble_eq_true rfl)⟩) hS (fun q _ h => hFc q h) hFc (fun r u t H1 locs ht hvm hw hB hz1 hk1 hS => ?_)
  refine W.widen (k := 0) (n := 0) (Nat.le_of_ble_eq_true rfl) (Nat.le_of_ble_eq_true rfl) ?_
  obtain ⟨r1, rfl⟩ : ∃ z, z = r := ⟨_, rfl⟩
  obtain ⟨u2, rfl⟩ : ∃ z, z = u := ⟨_, rfl⟩
  have hw3 := hw
  clear hw
  obtain ⟨hP1, hD1⟩ := hB
  rw [ht] at hP1
  obtain ⟨hP, hD⟩ := va_join (wr := [(a 0, .inr (11, [.ref (a 1), .ref (a 2), .ref (a 3), .ref (a 4), .ref (a 5), .ref (a 10), .ref (a 15), .ref (a 17), .null, .int 0, .int 0, .int 0]))]) (w1 := [(a 5, .inr (7, [.ref (a 6), .ref (a 8), .int 0, .int 0]))]) hP hD [1] [0] rfl rfl (by decide) (by decide) hk1 hFc hP1 hD1
  generalize H1 = H at hP hS ⊢
  have hP : va_P D vwCl [(a 0, .inr (11, [.ref (a 1), .ref (a 2), .ref (a 3), .ref (a 4), .ref (a 5), .ref (a 10), .ref (a 15), .ref (a 17), .null, .int 0, .int 0, .int 0])), (a 5, .inr (7, [.ref (a 6), .ref (a 8), .int 0, .int 0]))] H := hP
  have hD : va_D A [(a 0, .inr (11, [.ref (a 1), .ref (a 2), .ref (a 3), .ref (a 4), .ref (a 5), .ref (a 10), .ref (a 15), .ref (a 17), .null, .int 0, .int 0, .int 0])), (a 5, .inr (7, [.ref (a 6), .ref (a 8), .int 0, .int 0]))] := hD
  obtain rfl : r1 = 0 := hw3
  refine lv_if_ne (tgt := 21) hx hb dX8_size_8 (by decide) (fun c4 => absurd (by decide) c4) (fun _ => ?_)
  obtain ⟨sa, hstr5⟩ := hZ.1.2.2.2.2.1 ("TallowIndex", 168, "no such segment") (List.mem_of_getElem? (i := 10) rfl)
  exact vx_throwS (cls := "java/lang/IndexOutOfBoundsException") (names := ["java/lang/RuntimeException", "java/lang/Exception"]) (own := RX8) hx hb hlt hown hFit_2 hFitN (hts _ q117) (hts _ q118) hstr5 (hat_RX8_170 hts hZ.1) hgd_RX8_170_166 hZ.2.1 hZ.2.2.1 hS (hl.1.trans hml.symm) dX8_size_11 dX8_size_14 dX8_size_15 dX8_size_17 dX8_size_20 (fun x h => (htb x h).elim) (Nat.le_of_ble_eq_true rfl) (Nat.le_of_ble_eq_true rfl) (Nat.le_of_ble_eq_true rfl) (Nat.le_of_ble_eq_true rfl) hlocks (fun t hal hz hk => ⟨2, (rfl), rfl, sF_t hS hz hk⟩) hS.2.2 (Nat.le_of_ble_eq_true rfl) (Nat.le_of_ble_eq_true rfl)

set_option maxHeartbeats 4000000 in
set_option maxRecDepth 100000 in
theorem c_X8_merge (l : Launch) (hlt : l.stackTraces = false) (D : va_G) (dA : Nat → ClassId) (E : Nat) (a : Nat → Nat) (p0 : Int32) (sz : Nat)  : vx_Met l yX8_merge (wq (.code yX8_merge cX8_merge 2 (some .int))) { frames := 6, cells := 1, slots := 6, locals := 82 } (va_Pc [.ref (a 0), .int p0] (PcB D dA E [(a 0, .inr (11, [.ref (a 1), .ref (a 2), .ref (a 3), .ref (a 4), .ref (a 5), .ref (a 10), .ref (a 15), .ref (a 17), .null, .int 0, .int 0, .int 0])), (a 5, .inr (7, [.ref (a 6), .ref (a 8), .int 0, .int 0]))] sz)) (va_Qi (fun (r : Int32) (u : Unit) => False) (fun u t => True) (va_A [(a 0, .inr (11, [.ref (a 1), .ref (a 2), .ref (a 3), .ref (a 4), .ref (a 5), .ref (a 10), .ref (a 15), .ref (a 17), .null, .int 0, .int 0, .int 0])), (a 5, .inr (7, [.ref (a 6), .ref (a 8), .int 0, .int 0]))] sz)) (vx_X (fun (k : Nat) => k = 2) (fun E9 k t => E9 = xN k) (va_A [(a 0, .inr (11, [.ref (a 1), .ref (a 2), .ref (a 3), .ref (a 4), .ref (a 5), .ref (a 10), .ref (a 15), .ref (a 17), .null, .int 0, .int 0, .int 0])), (a 5, .inr (7, [.ref (a 6), .ref (a 8), .int 0, .int 0]))] sz)) 1 6 (va_A [(a 0, .inr (11, [.ref (a 1), .ref (a 2), .ref (a 3), .ref (a 4), .ref (a 5), .ref (a 10), .ref (a 15), .ref (a 17), .null, .int 0, .int 0, .int 0])), (a 5, .inr (7, [.ref (a 6), .ref (a 8), .int 0, .int 0]))] sz) := by
  refine mx_of (Qc := fun A => va_Qi (fun (r : Int32) (u : Unit) => False) (fun u t => True) A) (XC := fun A => vx_X (fun (k : Nat) => k = 2) (fun E9 k t => E9 = xN k) A) RX8 rfl (by decide) (Nat.le_of_ble_eq_true rfl) ?_
  intro p e s m args below meth c hae hx hb hr hts hown hlocks hml hnm htb hP hK A hAe hD hZ hS hA ls hl
  have hl : lv_has ls 2 [(0, .ref (a 0)), (1, .int p0)] := hl
  refine lv_aload_n hx hb dX8_merge_0 rfl (lv_at hl 0 rfl) ?_
  refine va_get (D := D) (ci := 11) (v := .ref (a 5)) (C := RX8) (T := TX8) (N := 12) hx hb hts inAX8 hown hK hP 0 rfl rfl 4 (by decide) (hts _ q101) (fun _ h9 => h9) rfl dX8_merge_1 ?_
  refine lv_iload_n hx hb dX8_merge_4 rfl (lv_at hl 1 rfl) ?_
  have hPc := hP.sub (ws' := [(a 5, .inr (7, [.ref (a 6), .ref (a 8), .int 0, .int 0]))]) [1] rfl
  have hDc := hD.sub (ws' := [(a 5, .inr (7, [.ref (a 6), .ref (a 8), .int 0, .int 0]))]) [1] (by decide) rfl
  have hFc := va_free (wc := [(a 5, .inr (7, [.ref (a 6), .ref (a 8), .int 0, .int 0]))]) hD hS hA [1] rfl
  refine va_calli (va_runV (As := [.int p0]) (rest := []) ⟨hx, hb, hml, hown, hts⟩ (c_hasSegment l D dA E (a 5) (a 6) (a 8) p0 s.heap.size ) (cwV 1 hts (ga_V q189 q190 q187 q98 q188) rfl rfl rfl (by decide +kernel) ⟨(Nat.le_of_ble_eq_true rfl), (Nat.le_of_ble_eq_true rfl)⟩) ⟨pb_blind, va_recv hK hPc (ci := 7) (q0 := 0) rfl rfl, pb_pre hK hPc hDc hZ hS hFc _⟩ rfl rfl hl.1 rfl (lv_room (Nat.le_of_ble_eq_true rfl)) dX8_merge_5 ⟨(Nat.le_of_ble_eq_true rfl), (Nat.le_of_ble_eq_true rfl)⟩) hS (fun q _ h => hFc q h) hFc (fun r u t H1 locs ht hvm hw hB hz1 hk1 hS => ?_)
  refine W.widen (k := 0) (n := 0) (Nat.le_of_ble_eq_true rfl) (Nat.le_of_ble_eq_true rfl) ?_
  obtain ⟨r1, rfl⟩ : ∃ z, z = r := ⟨_, rfl⟩
  obtain ⟨u2, rfl⟩ : ∃ z, z = u := ⟨_, rfl⟩
  have hw3 := hw
  clear hw
  obtain ⟨hP1, hD1⟩ := hB
  rw [ht] at hP1
  obtain ⟨hP, hD⟩ := va_join (wr := [(a 0, .inr (11, [.ref (a 1), .ref (a 2), .ref (a 3), .ref (a 4), .ref (a 5), .ref (a 10), .ref (a 15), .ref (a 17), .null, .int 0, .int 0, .int 0]))]) (w1 := [(a 5, .inr (7, [.ref (a 6), .ref (a 8), .int 0, .int 0]))]) hP hD [1] [0] rfl rfl (by decide) (by decide) hk1 hFc hP1 hD1
  generalize H1 = H at hP hS ⊢
  have hP : va_P D vwCl [(a 0, .inr (11, [.ref (a 1), .ref (a 2), .ref (a 3), .ref (a 4), .ref (a 5), .ref (a 10), .ref (a 15), .ref (a 17), .null, .int 0, .int 0, .int 0])), (a 5, .inr (7, [.ref (a 6), .ref (a 8), .int 0, .int 0]))] H := hP
  have hD : va_D A [(a 0, .inr (11, [.ref (a 1), .ref (a 2), .ref (a 3), .ref (a 4), .ref (a 5), .ref (a 10), .ref (a 15), .ref (a 17), .null, .int 0, .int 0, .int 0])), (a 5, .inr (7, [.ref (a 6), .ref (a 8), .int 0, .int 0]))] := hD
  obtain rfl : r1 = 0 := hw3
  refine lv_if_ne (tgt := 21) hx hb dX8_merge_8 (by decide) (fun c4 => absurd (by decide) c4) (fun _ => ?_)
  obtain ⟨sa, hstr5⟩ := hZ.1.2.2.2.2.1 ("TallowIndex", 168, "no such segment") (List.mem_of_getElem? (i := 10) rfl)
  exact vx_throwS (cls := "java/lang/IndexOutOfBoundsException") (names := ["java/lang/RuntimeException", "java/lang/Exception"]) (own := RX8) hx hb hlt hown hFit_2 hFitN (hts _ q117) (hts _ q118) hstr5 (hat_RX8_170 hts hZ.1) hgd_RX8_170_166 hZ.2.1 hZ.2.2.1 hS (hl.1.trans hml.symm) dX8_merge_11 dX8_merge_14 dX8_merge_15 dX8_merge_17 dX8_merge_20 (fun x h => (htb x h).elim) (Nat.le_of_ble_eq_true rfl) (Nat.le_of_ble_eq_true rfl) (Nat.le_of_ble_eq_true rfl) (Nat.le_of_ble_eq_true rfl) hlocks (fun t hal hz hk => ⟨2, (rfl), rfl, sF_t hS hz hk⟩) hS.2.2 (Nat.le_of_ble_eq_true rfl) (Nat.le_of_ble_eq_true rfl)

set_option maxHeartbeats 4000000 in
set_option maxRecDepth 100000 in
theorem c_X8_commit (l : Launch) (D : va_G) (dA : Nat → ClassId) (E : Nat) (a : Nat → Nat) (sz : Nat)  : Met l yX8_commit (wq (.code yX8_commit cX8_commit 1 (some .int))) { frames := 3, cells := 0, slots := 0, locals := 64 } (va_Pc [.ref (a 0)] (PcB D dA E [(a 0, .inr (11, [.ref (a 1), .ref (a 2), .ref (a 3), .ref (a 4), .ref (a 5), .ref (a 10), .ref (a 15), .ref (a 17), .null, .int 0, .int 0, .int 0])), (a 5, .inr (7, [.ref (a 6), .ref (a 8), .int 0, .int 0])), (a 6, .inr (5, [.ref (a 7)])), (a 7, .inl (dA 0, 30, .inl (fun _ => 0))), (a 8, .inr (5, [.ref (a 9)])), (a 9, .inl (dA 0, 30, .inl (fun _ => 0))), (a 10, .inr (7, [.ref (a 11), .ref (a 13), .int 0, .int 0])), (a 11, .inr (5, [.ref (a 12)])), (a 12, .inl (dA 0, 30, .inl (fun _ => 0))), (a 13, .inr (5, [.ref (a 14)])), (a 14, .inl (dA 0, 30, .inl (fun _ => 0)))] sz)) (va_Qi (fun (r : Int32) (u : Unit) => r = 1) (fun u t => True) (va_A [(a 0, .inr (11, [.ref (a 1), .ref (a 2), .ref (a 3), .ref (a 4), .ref (a 5), .ref (a 10), .ref (a 15), .ref (a 17), .null, .int 0, .int 0, .int 0])), (a 5, .inr (7, [.ref (a 6), .ref (a 8), .int 0, .int 0])), (a 6, .inr (5, [.ref (a 7)])), (a 7, .inl (dA 0, 30, .inl (fun _ => 0))), (a 8, .inr (5, [.ref (a 9)])), (a 9, .inl (dA 0, 30, .inl (fun _ => 0))), (a 10, .inr (7, [.ref (a 11), .ref (a 13), .int 0, .int 0])), (a 11, .inr (5, [.ref (a 12)])), (a 12, .inl (dA 0, 30, .inl (fun _ => 0))), (a 13, .inr (5, [.ref (a 14)])), (a 14, .inl (dA 0, 30, .inl (fun _ => 0)))] sz)) 0 0 (va_A [(a 0, .inr (11, [.ref (a 1), .ref (a 2), .ref (a 3), .ref (a 4), .ref (a 5), .ref (a 10), .ref (a 15), .ref (a 17), .null, .int 0, .int 0, .int 0])), (a 5, .inr (7, [.ref (a 6), .ref (a 8), .int 0, .int 0])), (a 6, .inr (5, [.ref (a 7)])), (a 7, .inl (dA 0, 30, .inl (fun _ => 0))), (a 8, .inr (5, [.ref (a 9)])), (a 9, .inl (dA 0, 30, .inl (fun _ => 0))), (a 10, .inr (7, [.ref (a 11), .ref (a 13), .int 0, .int 0])), (a 11, .inr (5, [.ref (a 12)])), (a 12, .inl (dA 0, 30, .inl (fun _ => 0))), (a 13, .inr (5, [.ref (a 14)])), (a 14, .inl (dA 0, 30, .inl (fun _ => 0)))] sz) := by
  refine mb_of (Qc := fun A => va_Qi (fun (r : Int32) (u : Unit) => r = 1) (fun u t => True) A) RX8 rfl (by decide) (Nat.le_of_ble_eq_true rfl) ?_
  intro p e s m args below meth c hae hx hb hr hts hown hlocks hml hnm hP hK A hAe hD hZ hS hA ls hl
  have hl : lv_has ls 1 [(0, .ref (a 0))] := hl
  refine lv_aload_n hx hb dX8_commit_0 rfl (lv_at hl 0 rfl) ?_
  refine va_get (D := D) (ci := 11) (v := .ref (a 5)) (C := RX8) (T := TX8) (N := 12) hx hb hts inAX8 hown hK hP 0 rfl rfl 4 (by decide) (hts _ q101) (fun _ h9 => h9) rfl dX8_commit_1 ?_
  have hPc := hP.sub (ws' := [(a 5, .inr (7, [.ref (a 6), .ref (a 8), .int 0, .int 0]))]) [1] rfl
  have hDc := hD.sub (ws' := [(a 5, .inr (7, [.ref (a 6), .ref (a 8), .int 0, .int 0]))]) [1] (by decide) rfl
  have hFc := va_free (wc := [(a 5, .inr (7, [.ref (a 6), .ref (a 8), .int 0, .int 0]))]) hD hS hA [1] rfl
  refine va_calli (va_runV (As := []) (rest := []) ⟨hx, hb, hml, hown, hts⟩ (c_writeBuffer l D dA E (a 5) (a 6) (a 8)  s.heap.size ) (cwV 0 hts (ga_V q185 q186 q183 q98 q184) rfl rfl rfl (by decide +kernel) ⟨(Nat.le_of_ble_eq_true rfl), (Nat.le_of_ble_eq_true rfl)⟩) ⟨pb_blind, va_recv hK hPc (ci := 7) (q0 := 0) rfl rfl, pb_pre hK hPc hDc hZ hS hFc _⟩ rfl rfl hl.1 rfl (lv_room (Nat.le_of_ble_eq_true rfl)) dX8_commit_4 ⟨(Nat.le_of_ble_eq_true rfl), (Nat.le_of_ble_eq_true rfl)⟩) hS (fun q _ h => hFc q h) hFc (fun r u t H1 locs ht hvm hw hB hz1 hk1 hS => ?_)
  refine W.widen (k := 0) (n := 0) (Nat.le_of_ble_eq_true rfl) (Nat.le_of_ble_eq_true rfl) ?_
  obtain ⟨r1, rfl⟩ : ∃ z, z = r := ⟨_, rfl⟩
  obtain ⟨u2, rfl⟩ : ∃ z, z = u := ⟨_, rfl⟩
  have hw3 := hw
  clear hw
  obtain ⟨hP1, hD1⟩ := hB
  rw [ht] at hP1
  obtain ⟨hP, hD⟩ := va_join (wr := [(a 0, .inr (11, [.ref (a 1), .ref (a 2), .ref (a 3), .ref (a 4), .ref (a 5), .ref (a 10), .ref (a 15), .ref (a 17), .null, .int 0, .int 0, .int 0])), (a 6, .inr (5, [.ref (a 7)])), (a 7, .inl (dA 0, 30, .inl (fun _ => 0))), (a 8, .inr (5, [.ref (a 9)])), (a 9, .inl (dA 0, 30, .inl (fun _ => 0))), (a 10, .inr (7, [.ref (a 11), .ref (a 13), .int 0, .int 0])), (a 11, .inr (5, [.ref (a 12)])), (a 12, .inl (dA 0, 30, .inl (fun _ => 0))), (a 13, .inr (5, [.ref (a 14)])), (a 14, .inl (dA 0, 30, .inl (fun _ => 0)))]) (w1 := [(a 5, .inr (7, [.ref (a 6), .ref (a 8), .int 0, .int 0]))]) hP hD [1] [0, 2, 3, 4, 5, 6, 7, 8, 9, 10] rfl rfl (by decide) (by decide) hk1 hFc hP1 hD1
  generalize H1 = H at hP hS ⊢
  have hP : va_P D vwCl [(a 0, .inr (11, [.ref (a 1), .ref (a 2), .ref (a 3), .ref (a 4), .ref (a 5), .ref (a 10), .ref (a 15), .ref (a 17), .null, .int 0, .int 0, .int 0])), (a 6, .inr (5, [.ref (a 7)])), (a 7, .inl (dA 0, 30, .inl (fun _ => 0))), (a 8, .inr (5, [.ref (a 9)])), (a 9, .inl (dA 0, 30, .inl (fun _ => 0))), (a 10, .inr (7, [.ref (a 11), .ref (a 13), .int 0, .int 0])), (a 11, .inr (5, [.ref (a 12)])), (a 12, .inl (dA 0, 30, .inl (fun _ => 0))), (a 13, .inr (5, [.ref (a 14)])), (a 14, .inl (dA 0, 30, .inl (fun _ => 0))), (a 5, .inr (7, [.ref (a 6), .ref (a 8), .int 0, .int 0]))] H := hP
  have hD : va_D A [(a 0, .inr (11, [.ref (a 1), .ref (a 2), .ref (a 3), .ref (a 4), .ref (a 5), .ref (a 10), .ref (a 15), .ref (a 17), .null, .int 0, .int 0, .int 0])), (a 6, .inr (5, [.ref (a 7)])), (a 7, .inl (dA 0, 30, .inl (fun _ => 0))), (a 8, .inr (5, [.ref (a 9)])), (a 9, .inl (dA 0, 30, .inl (fun _ => 0))), (a 10, .inr (7, [.ref (a 11), .ref (a 13), .int 0, .int 0])), (a 11, .inr (5, [.ref (a 12)])), (a 12, .inl (dA 0, 30, .inl (fun _ => 0))), (a 13, .inr (5, [.ref (a 14)])), (a 14, .inl (dA 0, 30, .inl (fun _ => 0))), (a 5, .inr (7, [.ref (a 6), .ref (a 8), .int 0, .int 0]))] := hD
  obtain rfl : r1 = 0 := hw3
  refine lv_pop hx hb dX8_commit_7 rfl ?_
  refine lv_aload_n hx hb dX8_commit_8 rfl (lv_at hl 0 rfl) ?_
  refine va_get (D := D) (ci := 11) (v := .ref (a 10)) (C := RX8) (T := TX8) (N := 12) hx hb hts inAX8 hown hK hP 0 rfl rfl 5 (by decide) (hts _ q102) (fun _ h9 => h9) rfl dX8_commit_9 ?_
  refine lv_aload_n hx hb dX8_commit_12 rfl (lv_at hl 0 rfl) ?_
  refine va_get (D := D) (ci := 11) (v := .ref (a 5)) (C := RX8) (T := TX8) (N := 12) hx hb hts inAX8 hown hK hP 0 rfl rfl 4 (by decide) (hts _ q101) (fun _ h9 => h9) rfl dX8_commit_13 ?_
  have hPc := hP.sub (ws' := [(a 10, .inr (7, [.ref (a 11), .ref (a 13), .int 0, .int 0])), (a 11, .inr (5, [.ref (a 12)])), (a 12, .inl (dA 0, 30, .inl (fun _ => 0))), (a 13, .inr (5, [.ref (a 14)])), (a 14, .inl (dA 0, 30, .inl (fun _ => 0))), (a 5, .inr (7, [.ref (a 6), .ref (a 8), .int 0, .int 0])), (a 6, .inr (5, [.ref (a 7)])), (a 7, .inl (dA 0, 30, .inl (fun _ => 0))), (a 8, .inr (5, [.ref (a 9)])), (a 9, .inl (dA 0, 30, .inl (fun _ => 0)))]) [5, 6, 7, 8, 9, 10, 1, 2, 3, 4] rfl
  have hDc := hD.sub (ws' := [(a 10, .inr (7, [.ref (a 11), .ref (a 13), .int 0, .int 0])), (a 11, .inr (5, [.ref (a 12)])), (a 12, .inl (dA 0, 30, .inl (fun _ => 0))), (a 13, .inr (5, [.ref (a 14)])), (a 14, .inl (dA 0, 30, .inl (fun _ => 0))), (a 5, .inr (7, [.ref (a 6), .ref (a 8), .int 0, .int 0])), (a 6, .inr (5, [.ref (a 7)])), (a 7, .inl (dA 0, 30, .inl (fun _ => 0))), (a 8, .inr (5, [.ref (a 9)])), (a 9, .inl (dA 0, 30, .inl (fun _ => 0)))]) [5, 6, 7, 8, 9, 10, 1, 2, 3, 4] (by decide) rfl
  have hFc := va_free (wc := [(a 10, .inr (7, [.ref (a 11), .ref (a 13), .int 0, .int 0])), (a 11, .inr (5, [.ref (a 12)])), (a 12, .inl (dA 0, 30, .inl (fun _ => 0))), (a 13, .inr (5, [.ref (a 14)])), (a 14, .inl (dA 0, 30, .inl (fun _ => 0))), (a 5, .inr (7, [.ref (a 6), .ref (a 8), .int 0, .int 0])), (a 6, .inr (5, [.ref (a 7)])), (a 7, .inl (dA 0, 30, .inl (fun _ => 0))), (a 8, .inr (5, [.ref (a 9)])), (a 9, .inl (dA 0, 30, .inl (fun _ => 0)))]) hD hS hA [5, 6, 7, 8, 9, 10, 1, 2, 3, 4] rfl
  refine va_callv (va_runV (As := [.ref (a 5)]) (rest := []) ⟨hx, hb, hml, hown, hts⟩ (c_takeOver l D dA E (a 10) (a 11) (a 12) (a 13) (a 14) (a 5) (a 6) (a 7) (a 8) (a 9) H.size ) (cwV 1 hts (ga_V q193 q194 q191 q98 q192) rfl rfl rfl (by decide +kernel) ⟨(Nat.le_of_ble_eq_true rfl), (Nat.le_of_ble_eq_true rfl)⟩) ⟨pb_blind, va_recv hK hPc (ci := 7) (q0 := 0) rfl rfl, pb_pre hK hPc hDc hZ hS hFc _⟩ rfl rfl hl.1 rfl (lv_room (Nat.le_of_ble_eq_true rfl)) dX8_commit_16 ⟨(Nat.le_of_ble_eq_true rfl), (Nat.le_of_ble_eq_true rfl)⟩) hS (fun q _ h => hFc q h) hFc (fun u t H1 locs ht hvm hw hB hz1 hk1 hS => ?_)
  refine W.widen (k := 0) (n := 0) (Nat.le_of_ble_eq_true rfl) (Nat.le_of_ble_eq_true rfl) ?_
  obtain ⟨u4, rfl⟩ : ∃ z, z = u := ⟨_, rfl⟩
  have hw5 := hw
  clear hw
  obtain ⟨hP, hD⟩ := jn_drop (wr := [(a 0, .inr (11, [.ref (a 1), .ref (a 2), .ref (a 3), .ref (a 4), .ref (a 5), .ref (a 10), .ref (a 15), .ref (a 17), .null, .int 0, .int 0, .int 0]))]) hP hD [5, 6, 7, 8, 9, 10, 1, 2, 3, 4] [0] rfl rfl (by decide) (by decide) hk1 hFc
  generalize H1 = H at hP hS ⊢
  have hP : va_P D vwCl [(a 0, .inr (11, [.ref (a 1), .ref (a 2), .ref (a 3), .ref (a 4), .ref (a 5), .ref (a 10), .ref (a 15), .ref (a 17), .null, .int 0, .int 0, .int 0]))] H := hP
  have hD : va_D A [(a 0, .inr (11, [.ref (a 1), .ref (a 2), .ref (a 3), .ref (a 4), .ref (a 5), .ref (a 10), .ref (a 15), .ref (a 17), .null, .int 0, .int 0, .int 0]))] := hD
  refine lv_aload_n hx hb dX8_commit_19 rfl (lv_at hl 0 rfl) ?_
  refine lv_dup hx hb dX8_commit_20 rfl ?_
  refine va_get (D := D) (ci := 11) (v := .int 0) (C := RX8) (T := TX8) (N := 12) hx hb hts inAX8 hown hK hP 0 rfl rfl 9 (by decide) (hts _ q195) (fun _ h9 => h9) rfl dX8_commit_21 ?_
  refine lv_iconst (v := 1) hx hb dX8_commit_24 (by decide) ?_
  refine lv_iadd hx hb dX8_commit_25 ?_
  refine lv_topi (fun x6 ex6 => ?_)
  replace ex6 : x6 = 1 := ex6.trans (by decide)
  subst ex6
  refine va_put (D := D) (ci := 11) (v := .int 1) (ty := .int) (C := RX8) (T := TX8) (N := 12) hx hb hts inAX8 tyX8 tyX8_ok nmX8 hown hK hP hD hS 0 rfl rfl 9 (by decide) (hts _ q195) (fun _ h9 => h9) rfl (tyX8_ok 9 (by decide)) rfl rfl (Nat.le_of_ble_eq_true rfl) dX8_commit_26 (fun H locs hP hD hS => ?_)
  have hP : va_P D vwCl [(a 0, .inr (11, [.ref (a 1), .ref (a 2), .ref (a 3), .ref (a 4), .ref (a 5), .ref (a 10), .ref (a 15), .ref (a 17), .null, .int 1, .int 0, .int 0]))] H := hP
  have hD : va_D A [(a 0, .inr (11, [.ref (a 1), .ref (a 2), .ref (a 3), .ref (a 4), .ref (a 5), .ref (a 10), .ref (a 15), .ref (a 17), .null, .int 1, .int 0, .int 0]))] := hD
  refine lv_aload_n hx hb dX8_commit_29 rfl (lv_at hl 0 rfl) ?_
  refine va_get (D := D) (ci := 11) (v := .int 1) (C := RX8) (T := TX8) (N := 12) hx hb hts inAX8 hown hK hP 0 rfl rfl 9 (by decide) (hts _ q195) (fun _ h9 => h9) rfl dX8_commit_30 ?_
  refine W.widen (k := 0) (n := 0) (Nat.le_of_ble_eq_true rfl) (Nat.le_of_ble_eq_true rfl) ?_
  exact W.iret (v := 1) hx hb hr (fun t ht hW => ⟨⟨1, (), rfl, (rfl), trivial⟩, hS.F ht⟩) hS.2.2 dX8_commit_33

set_option maxHeartbeats 4000000 in
set_option maxRecDepth 100000 in
theorem c_X8_crash (l : Launch) (D : va_G) (dA : Nat → ClassId) (E : Nat) (a : Nat → Nat) (sz : Nat)  : Met l yX8_crash (wq (.code yX8_crash cX8_crash 1 (some .int))) { frames := 1, cells := 0, slots := 0, locals := 25 } (va_Pc [.ref (a 0)] (PcB D dA E [(a 0, .inr (11, [.ref (a 1), .ref (a 2), .ref (a 3), .ref (a 4), .ref (a 5), .ref (a 10), .ref (a 15), .ref (a 17), .null, .int 0, .int 0, .int 0])), (a 3, .inr (2, [.int 0, .ref E, .int 0])), (a 5, .inr (7, [.ref (a 6), .ref (a 8), .int 0, .int 0])), (a 10, .inr (7, [.ref (a 11), .ref (a 13), .int 0, .int 0]))] sz)) (va_Qi (fun (r : Int32) (u : Unit) => r = 0) (fun u t => True) (va_A [(a 0, .inr (11, [.ref (a 1), .ref (a 2), .ref (a 3), .ref (a 4), .ref (a 5), .ref (a 10), .ref (a 15), .ref (a 17), .null, .int 0, .int 0, .int 0])), (a 3, .inr (2, [.int 0, .ref E, .int 0])), (a 5, .inr (7, [.ref (a 6), .ref (a 8), .int 0, .int 0])), (a 10, .inr (7, [.ref (a 11), .ref (a 13), .int 0, .int 0]))] sz)) 0 0 (va_A [(a 0, .inr (11, [.ref (a 1), .ref (a 2), .ref (a 3), .ref (a 4), .ref (a 5), .ref (a 10), .ref (a 15), .ref (a 17), .null, .int 0, .int 0, .int 0])), (a 3, .inr (2, [.int 0, .ref E, .int 0])), (a 5, .inr (7, [.ref (a 6), .ref (a 8), .int 0, .int 0])), (a 10, .inr (7, [.ref (a 11), .ref (a 13), .int 0, .int 0]))] sz) := by
  refine mb_of (Qc := fun A => va_Qi (fun (r : Int32) (u : Unit) => r = 0) (fun u t => True) A) RX8 rfl (by decide) (Nat.le_of_ble_eq_true rfl) ?_
  intro p e s m args below meth c hae hx hb hr hts hown hlocks hml hnm hP hK A hAe hD hZ hS hA ls hl
  have hl : lv_has ls 1 [(0, .ref (a 0))] := hl
  refine lv_aload_n hx hb dX8_crash_0 rfl (lv_at hl 0 rfl) ?_
  refine lv_null hx hb dX8_crash_1 ?_
  refine va_put (D := D) (ci := 11) (v := .null) (ty := .object "TallowIndex$Document") (C := RX8) (T := TX8) (N := 12) hx hb hts inAX8 tyX8 tyX8_ok nmX8 hown hK hP hD hS 0 rfl rfl 8 (by decide) (hts _ q169) (fun _ h9 => h9) rfl (tyX8_ok 8 (by decide)) rfl rfl (Nat.le_of_ble_eq_true rfl) dX8_crash_2 (fun H locs hP hD hS => ?_)
  have hP : va_P D vwCl [(a 0, .inr (11, [.ref (a 1), .ref (a 2), .ref (a 3), .ref (a 4), .ref (a 5), .ref (a 10), .ref (a 15), .ref (a 17), .null, .int 0, .int 0, .int 0])), (a 3, .inr (2, [.int 0, .ref E, .int 0])), (a 5, .inr (7, [.ref (a 6), .ref (a 8), .int 0, .int 0])), (a 10, .inr (7, [.ref (a 11), .ref (a 13), .int 0, .int 0]))] H := hP
  have hD : va_D A [(a 0, .inr (11, [.ref (a 1), .ref (a 2), .ref (a 3), .ref (a 4), .ref (a 5), .ref (a 10), .ref (a 15), .ref (a 17), .null, .int 0, .int 0, .int 0])), (a 3, .inr (2, [.int 0, .ref E, .int 0])), (a 5, .inr (7, [.ref (a 6), .ref (a 8), .int 0, .int 0])), (a 10, .inr (7, [.ref (a 11), .ref (a 13), .int 0, .int 0]))] := hD
  refine lv_aload_n hx hb dX8_crash_5 rfl (lv_at hl 0 rfl) ?_
  refine va_get (D := D) (ci := 11) (v := .ref (a 3)) (C := RX8) (T := TX8) (N := 12) hx hb hts inAX8 hown hK hP 0 rfl rfl 2 (by decide) (hts _ q94) (fun _ h9 => h9) rfl dX8_crash_6 ?_
  have hPc := hP.sub (ws' := [(a 3, .inr (2, [.int 0, .ref E, .int 0]))]) [1] rfl
  have hDc := hD.sub (ws' := [(a 3, .inr (2, [.int 0, .ref E, .int 0]))]) [1] (by decide) rfl
  have hFc := va_free (wc := [(a 3, .inr (2, [.int 0, .ref E, .int 0]))]) hD hS hA [1] rfl
  refine va_callv (va_runV (As := []) (rest := []) ⟨hx, hb, hml, hown, hts⟩ (c_clear l D dA E (a 3) H.size ) (cwV 0 hts (ga_V q164 q165 q162 q12 q163) rfl rfl rfl (by decide +kernel) ⟨(Nat.le_of_ble_eq_true rfl), (Nat.le_of_ble_eq_true rfl)⟩) ⟨pb_blind, va_recv hK hPc (ci := 2) (q0 := 0) rfl rfl, pb_pre hK hPc hDc hZ hS hFc _⟩ rfl rfl hl.1 rfl (lv_room (Nat.le_of_ble_eq_true rfl)) dX8_crash_9 ⟨(Nat.le_of_ble_eq_true rfl), (Nat.le_of_ble_eq_true rfl)⟩) hS (fun q _ h => hFc q h) hFc (fun u t H1 locs ht hvm hw hB hz1 hk1 hS => ?_)
  refine W.widen (k := 0) (n := 0) (Nat.le_of_ble_eq_true rfl) (Nat.le_of_ble_eq_true rfl) ?_
  obtain ⟨u1, rfl⟩ : ∃ z, z = u := ⟨_, rfl⟩
  have hw2 := hw
  clear hw
  obtain ⟨hP1, hD1⟩ := hB
  rw [ht] at hP1
  obtain ⟨hP, hD⟩ := va_join (wr := [(a 0, .inr (11, [.ref (a 1), .ref (a 2), .ref (a 3), .ref (a 4), .ref (a 5), .ref (a 10), .ref (a 15), .ref (a 17), .null, .int 0, .int 0, .int 0])), (a 5, .inr (7, [.ref (a 6), .ref (a 8), .int 0, .int 0])), (a 10, .inr (7, [.ref (a 11), .ref (a 13), .int 0, .int 0]))]) (w1 := [(a 3, .inr (2, [.int 1, .ref E, .int 0]))]) hP hD [1] [0, 2, 3] rfl rfl (by decide) (by decide) hk1 hFc hP1 hD1
  generalize H1 = H at hP hS ⊢
  have hP : va_P D vwCl [(a 0, .inr (11, [.ref (a 1), .ref (a 2), .ref (a 3), .ref (a 4), .ref (a 5), .ref (a 10), .ref (a 15), .ref (a 17), .null, .int 0, .int 0, .int 0])), (a 5, .inr (7, [.ref (a 6), .ref (a 8), .int 0, .int 0])), (a 10, .inr (7, [.ref (a 11), .ref (a 13), .int 0, .int 0])), (a 3, .inr (2, [.int 1, .ref E, .int 0]))] H := hP
  have hD : va_D A [(a 0, .inr (11, [.ref (a 1), .ref (a 2), .ref (a 3), .ref (a 4), .ref (a 5), .ref (a 10), .ref (a 15), .ref (a 17), .null, .int 0, .int 0, .int 0])), (a 5, .inr (7, [.ref (a 6), .ref (a 8), .int 0, .int 0])), (a 10, .inr (7, [.ref (a 11), .ref (a 13), .int 0, .int 0])), (a 3, .inr (2, [.int 1, .ref E, .int 0]))] := hD
  refine lv_aload_n hx hb dX8_crash_12 rfl (lv_at hl 0 rfl) ?_
  refine va_get (D := D) (ci := 11) (v := .ref (a 5)) (C := RX8) (T := TX8) (N := 12) hx hb hts inAX8 hown hK hP 0 rfl rfl 4 (by decide) (hts _ q101) (fun _ h9 => h9) rfl dX8_crash_13 ?_
  refine lv_aload_n hx hb dX8_crash_16 rfl (lv_at hl 0 rfl) ?_
  refine va_get (D := D) (ci := 11) (v := .ref (a 10)) (C := RX8) (T := TX8) (N := 12) hx hb hts inAX8 hown hK hP 0 rfl rfl 5 (by decide) (hts _ q102) (fun _ h9 => h9) rfl dX8_crash_17 ?_
  have hPc := hP.sub (ws' := [(a 5, .inr (7, [.ref (a 6), .ref (a 8), .int 0, .int 0])), (a 10, .inr (7, [.ref (a 11), .ref (a 13), .int 0, .int 0]))]) [1, 2] rfl
  have hDc := hD.sub (ws' := [(a 5, .inr (7, [.ref (a 6), .ref (a 8), .int 0, .int 0])), (a 10, .inr (7, [.ref (a 11), .ref (a 13), .int 0, .int 0]))]) [1, 2] (by decide) rfl
  have hFc := va_free (wc := [(a 5, .inr (7, [.ref (a 6), .ref (a 8), .int 0, .int 0])), (a 10, .inr (7, [.ref (a 11), .ref (a 13), .int 0, .int 0]))]) hD hS hA [1, 2] rfl
  refine va_calli (va_runV (As := [.ref (a 10)]) (rest := []) ⟨hx, hb, hml, hown, hts⟩ (c_goBackTo l D dA E (a 5) (a 6) (a 8) (a 10) (a 11) (a 13) H.size ) (cwV 1 hts (ga_V q198 q199 q196 q98 q197) rfl rfl rfl (by decide +kernel) ⟨(Nat.le_of_ble_eq_true rfl), (Nat.le_of_ble_eq_true rfl)⟩) ⟨pb_blind, va_recv hK hPc (ci := 7) (q0 := 0) rfl rfl, pb_pre hK hPc hDc hZ hS hFc _⟩ rfl rfl hl.1 rfl (lv_room (Nat.le_of_ble_eq_true rfl)) dX8_crash_20 ⟨(Nat.le_of_ble_eq_true rfl), (Nat.le_of_ble_eq_true rfl)⟩) hS (fun q _ h => hFc q h) hFc (fun r u t H1 locs ht hvm hw hB hz1 hk1 hS => ?_)
  refine W.widen (k := 0) (n := 0) (Nat.le_of_ble_eq_true rfl) (Nat.le_of_ble_eq_true rfl) ?_
  obtain ⟨r3, rfl⟩ : ∃ z, z = r := ⟨_, rfl⟩
  obtain ⟨u4, rfl⟩ : ∃ z, z = u := ⟨_, rfl⟩
  have hw5 := hw
  clear hw
  obtain ⟨hP, hD⟩ := jn_drop (wr := [(a 0, .inr (11, [.ref (a 1), .ref (a 2), .ref (a 3), .ref (a 4), .ref (a 5), .ref (a 10), .ref (a 15), .ref (a 17), .null, .int 0, .int 0, .int 0])), (a 3, .inr (2, [.int 1, .ref E, .int 0]))]) hP hD [1, 2] [0, 3] rfl rfl (by decide) (by decide) hk1 hFc
  generalize H1 = H at hP hS ⊢
  have hP : va_P D vwCl [(a 0, .inr (11, [.ref (a 1), .ref (a 2), .ref (a 3), .ref (a 4), .ref (a 5), .ref (a 10), .ref (a 15), .ref (a 17), .null, .int 0, .int 0, .int 0])), (a 3, .inr (2, [.int 1, .ref E, .int 0]))] H := hP
  have hD : va_D A [(a 0, .inr (11, [.ref (a 1), .ref (a 2), .ref (a 3), .ref (a 4), .ref (a 5), .ref (a 10), .ref (a 15), .ref (a 17), .null, .int 0, .int 0, .int 0])), (a 3, .inr (2, [.int 1, .ref E, .int 0]))] := hD
  obtain rfl : r3 = 0 := hw5
  refine W.widen (k := 0) (n := 0) (Nat.le_of_ble_eq_true rfl) (Nat.le_of_ble_eq_true rfl) ?_
  exact W.iret (v := 0) hx hb hr (fun t ht hW => ⟨⟨0, (), rfl, (rfl), trivial⟩, hS.F ht⟩) hS.2.2 dX8_crash_23

set_option maxHeartbeats 4000000 in
set_option maxRecDepth 100000 in
theorem c_X8_follow (l : Launch) (hlt : l.stackTraces = false) (D : va_G) (dA : Nat → ClassId) (E : Nat) (a : Nat → Nat) (sz : Nat)  : vx_Met l yX8_follow (wq (.code yX8_follow cX8_follow 1 (some .int))) { frames := 6, cells := 1, slots := 6, locals := 82 } (va_Pc [.ref (a 0)] (PcB D dA E [(a 0, .inr (11, [.ref (a 1), .ref (a 2), .ref (a 3), .ref (a 4), .ref (a 5), .ref (a 10), .ref (a 15), .ref (a 17), .null, .int 0, .int 0, .int 0]))] sz)) (va_Qi (fun (r : Int32) (u : Unit) => False) (fun u t => True) (va_A [(a 0, .inr (11, [.ref (a 1), .ref (a 2), .ref (a 3), .ref (a 4), .ref (a 5), .ref (a 10), .ref (a 15), .ref (a 17), .null, .int 0, .int 0, .int 0]))] sz)) (vx_X (fun (k : Nat) => k = 3) (fun E9 k t => E9 = xN k) (va_A [(a 0, .inr (11, [.ref (a 1), .ref (a 2), .ref (a 3), .ref (a 4), .ref (a 5), .ref (a 10), .ref (a 15), .ref (a 17), .null, .int 0, .int 0, .int 0]))] sz)) 1 6 (va_A [(a 0, .inr (11, [.ref (a 1), .ref (a 2), .ref (a 3), .ref (a 4), .ref (a 5), .ref (a 10), .ref (a 15), .ref (a 17), .null, .int 0, .int 0, .int 0]))] sz) := by
  refine mx_of (Qc := fun A => va_Qi (fun (r : Int32) (u : Unit) => False) (fun u t => True) A) (XC := fun A => vx_X (fun (k : Nat) => k = 3) (fun E9 k t => E9 = xN k) A) RX8 rfl (by decide) (Nat.le_of_ble_eq_true rfl) ?_
  intro p e s m args below meth c hae hx hb hr hts hown hlocks hml hnm htb hP hK A hAe hD hZ hS hA ls hl
  have hl : lv_has ls 1 [(0, .ref (a 0))] := hl
  refine lv_aload_n hx hb dX8_follow_0 rfl (lv_at hl 0 rfl) ?_
  refine va_get (D := D) (ci := 11) (v := .int 0) (C := RX8) (T := TX8) (N := 12) hx hb hts inAX8 hown hK hP 0 rfl rfl 9 (by decide) (hts _ q195) (fun _ h9 => h9) rfl dX8_follow_1 ?_
  refine lv_if_ne (tgt := 17) hx hb dX8_follow_4 (by decide) (fun c1 => absurd (by decide) c1) (fun _ => ?_)
  obtain ⟨sa, hstr2⟩ := hZ.1.2.2.2.2.1 ("TallowIndex", 191, "nothing was committed") (List.mem_of_getElem? (i := 12) rfl)
  exact vx_throwS (cls := "java/lang/IllegalStateException") (names := ["java/lang/RuntimeException", "java/lang/Exception"]) (own := RX8) hx hb hlt hown hFit_3 hFitN (hts _ q177) (hts _ q178) hstr2 (hat_RX8_72 hts hZ.1) hgd_RX8_72_68 hZ.2.1 hZ.2.2.1 hS (hl.1.trans hml.symm) dX8_follow_7 dX8_follow_10 dX8_follow_11 dX8_follow_13 dX8_follow_16 (fun x h => (htb x h).elim) (Nat.le_of_ble_eq_true rfl) (Nat.le_of_ble_eq_true rfl) (Nat.le_of_ble_eq_true rfl) (Nat.le_of_ble_eq_true rfl) hlocks (fun t hal hz hk => ⟨3, (rfl), rfl, sF_t hS hz hk⟩) hS.2.2 (Nat.le_of_ble_eq_true rfl) (Nat.le_of_ble_eq_true rfl)

set_option maxHeartbeats 4000000 in
set_option maxRecDepth 100000 in
theorem c_X8_openView (l : Launch) (D : va_G) (dA : Nat → ClassId) (E : Nat) (a : Nat → Nat) (sz : Nat)  : Met l yX8_openView (wq (.code yX8_openView cX8_openView 3 (some .int))) { frames := 5, cells := 4, slots := 44, locals := 101 } (va_Pc [.ref (a 0)] (PcB D dA E [(a 0, .inr (11, [.ref (a 1), .ref (a 2), .ref (a 3), .ref (a 4), .ref (a 5), .ref (a 10), .ref (a 15), .ref (a 17), .null, .int 0, .int 0, .int 0])), (a 3, .inr (2, [.int 0, .ref E, .int 0])), (a 5, .inr (7, [.ref (a 6), .ref (a 8), .int 0, .int 0]))] sz)) (va_Qi (fun (r : Int32) (u : Unit) => r = 0) (fun u t => True) (va_A [(a 0, .inr (11, [.ref (a 1), .ref (a 2), .ref (a 3), .ref (a 4), .ref (a 5), .ref (a 10), .ref (a 15), .ref (a 17), .null, .int 0, .int 0, .int 0])), (a 3, .inr (2, [.int 0, .ref E, .int 0])), (a 5, .inr (7, [.ref (a 6), .ref (a 8), .int 0, .int 0]))] sz)) 4 44 (va_A [(a 0, .inr (11, [.ref (a 1), .ref (a 2), .ref (a 3), .ref (a 4), .ref (a 5), .ref (a 10), .ref (a 15), .ref (a 17), .null, .int 0, .int 0, .int 0])), (a 3, .inr (2, [.int 0, .ref E, .int 0])), (a 5, .inr (7, [.ref (a 6), .ref (a 8), .int 0, .int 0]))] sz) := by
  refine mb_of (Qc := fun A => va_Qi (fun (r : Int32) (u : Unit) => r = 0) (fun u t => True) A) RX8 rfl (by decide) (Nat.le_of_ble_eq_true rfl) ?_
  intro p e s m args below meth c hae hx hb hr hts hown hlocks hml hnm hP hK A hAe hD hZ hS hA ls hl
  have hl : lv_has ls 3 [(0, .ref (a 0))] := hl
  refine lv_aload_n hx hb dX8_openView_0 rfl (lv_at hl 0 rfl) ?_
  refine va_get (D := D) (ci := 11) (v := .ref (a 3)) (C := RX8) (T := TX8) (N := 12) hx hb hts inAX8 hown hK hP 0 rfl rfl 2 (by decide) (hts _ q94) (fun _ h9 => h9) rfl dX8_openView_1 ?_
  have hPc := hP.sub (ws' := [(a 3, .inr (2, [.int 0, .ref E, .int 0]))]) [1] rfl
  have hDc := hD.sub (ws' := [(a 3, .inr (2, [.int 0, .ref E, .int 0]))]) [1] (by decide) rfl
  have hFc := va_free (wc := [(a 3, .inr (2, [.int 0, .ref E, .int 0]))]) hD hS hA [1] rfl
  refine va_calli (va_runV (As := []) (rest := []) ⟨hx, hb, hml, hown, hts⟩ (c_size l D dA E (a 3) 0 (.ref E) 0 s.heap.size ) (cwV 0 hts (ga_V q121 q122 q119 q12 q120) rfl rfl rfl (by decide +kernel) ⟨(Nat.le_of_ble_eq_true rfl), (Nat.le_of_ble_eq_true rfl)⟩) ⟨pb_blind, va_recv hK hPc (ci := 2) (q0 := 0) rfl rfl, pb_pre hK hPc hDc hZ hS hFc _⟩ rfl rfl hl.1 rfl (lv_room (Nat.le_of_ble_eq_true rfl)) dX8_openView_4 ⟨(Nat.le_of_ble_eq_true rfl), (Nat.le_of_ble_eq_true rfl)⟩) hS (fun q _ h => hFc q h) hFc (fun r u t H1 locs ht hvm hw hB hz1 hk1 hS => ?_)
  refine W.widen (k := 0) (n := 0) (Nat.le_of_ble_eq_true rfl) (Nat.le_of_ble_eq_true rfl) ?_
  obtain ⟨r1, rfl⟩ : ∃ z, z = r := ⟨_, rfl⟩
  obtain ⟨u2, rfl⟩ : ∃ z, z = u := ⟨_, rfl⟩
  have hw3 := hw
  clear hw
  obtain ⟨hP1, hD1⟩ := hB
  rw [ht] at hP1
  obtain ⟨hP, hD⟩ := va_join (wr := [(a 0, .inr (11, [.ref (a 1), .ref (a 2), .ref (a 3), .ref (a 4), .ref (a 5), .ref (a 10), .ref (a 15), .ref (a 17), .null, .int 0, .int 0, .int 0])), (a 5, .inr (7, [.ref (a 6), .ref (a 8), .int 0, .int 0]))]) (w1 := [(a 3, .inr (2, [.int 0, .ref E, .int 0]))]) hP hD [1] [0, 2] rfl rfl (by decide) (by decide) hk1 hFc hP1 hD1
  generalize H1 = H at hP hS ⊢
  have hP : va_P D vwCl [(a 0, .inr (11, [.ref (a 1), .ref (a 2), .ref (a 3), .ref (a 4), .ref (a 5), .ref (a 10), .ref (a 15), .ref (a 17), .null, .int 0, .int 0, .int 0])), (a 5, .inr (7, [.ref (a 6), .ref (a 8), .int 0, .int 0])), (a 3, .inr (2, [.int 0, .ref E, .int 0]))] H := hP
  have hD : va_D A [(a 0, .inr (11, [.ref (a 1), .ref (a 2), .ref (a 3), .ref (a 4), .ref (a 5), .ref (a 10), .ref (a 15), .ref (a 17), .null, .int 0, .int 0, .int 0])), (a 5, .inr (7, [.ref (a 6), .ref (a 8), .int 0, .int 0])), (a 3, .inr (2, [.int 0, .ref E, .int 0]))] := hD
  obtain rfl : r1 = 0 := hw3
  refine lv_iconst (v := 4) hx hb dX8_openView_7 (by decide) ?_
  refine lv_icmp_lt (tgt := 21) hx hb dX8_openView_8 (by decide) (fun _ => ?_) (fun c4 => absurd (by decide) c4)
  refine va_new (ci := 5) (fs := [.null]) (C := RX2) (T := TX2) (N := 1) hx hb hts inAX2 tyX2 tyX2_ok hown (hts _ q103) (hts _ q40) (hts _ q41) hK hP hD hS hA rfl fsNX2 (Nat.le_of_ble_eq_true rfl) (Nat.le_of_ble_eq_true rfl) dX8_openView_21 (fun q5 H hP hD hS => ?_)
  have hP : va_P D vwCl [(a 0, .inr (11, [.ref (a 1), .ref (a 2), .ref (a 3), .ref (a 4), .ref (a 5), .ref (a 10), .ref (a 15), .ref (a 17), .null, .int 0, .int 0, .int 0])), (a 5, .inr (7, [.ref (a 6), .ref (a 8), .int 0, .int 0])), (a 3, .inr (2, [.int 0, .ref E, .int 0])), (q5, .inr (5, [.null]))] H := hP
  have hD : va_D A [(a 0, .inr (11, [.ref (a 1), .ref (a 2), .ref (a 3), .ref (a 4), .ref (a 5), .ref (a 10), .ref (a 15), .ref (a 17), .null, .int 0, .int 0, .int 0])), (a 5, .inr (7, [.ref (a 6), .ref (a 8), .int 0, .int 0])), (a 3, .inr (2, [.int 0, .ref E, .int 0])), (q5, .inr (5, [.null]))] := hD
  refine W.widen (k := 1) (n := 1) (Nat.le_of_ble_eq_true rfl) (Nat.le_of_ble_eq_true rfl) ?_
  refine lv_dup hx hb dX8_openView_24 rfl ?_
  refine lv_bipush (v := 30) hx hb dX8_openView_25 (by decide) ?_
  have hPc := hP.sub (ws' := [(q5, .inr (5, [.null]))]) [3] rfl
  have hDc := hD.sub (ws' := [(q5, .inr (5, [.null]))]) [3] (by decide) rfl
  have hFc := va_free (wc := [(q5, .inr (5, [.null]))]) hD hS hA [3] rfl
  refine va_callv (va_runI (As := [.int 30]) (rest := [.ref q5]) ⟨hx, hb, hml, hown, hts⟩ (c_Row_init_30 l D dA E q5 H.size ) (cwI 1 hts (ga_I q42) rfl rfl rfl (hts _ q41) (hts _ q104) (hts _ q44) rfl (by decide +kernel) ⟨(Nat.le_of_ble_eq_true rfl), (Nat.le_of_ble_eq_true rfl)⟩) ⟨pb_blind, pb_pre hK hPc hDc hZ hS hFc _⟩ rfl rfl hl.1 rfl (lv_room (Nat.le_of_ble_eq_true rfl)) dX8_openView_27 ⟨(Nat.le_of_ble_eq_true rfl), (Nat.le_of_ble_eq_true rfl)⟩) hS (fun q _ h => hFc q h) hFc (fun u t H1 locs ht hvm hw hB hz1 hk1 hS => ?_)
  refine W.widen (k := 2) (n := 31) (Nat.le_of_ble_eq_true rfl) (Nat.le_of_ble_eq_true rfl) ?_
  obtain ⟨u6, rfl⟩ : ∃ z, z = u := ⟨_, rfl⟩
  have hw7 := hw
  clear hw
  obtain ⟨hP1, hD1⟩ := hB
  rw [ht] at hP1
  obtain ⟨hP, hD⟩ := va_join (wr := [(a 0, .inr (11, [.ref (a 1), .ref (a 2), .ref (a 3), .ref (a 4), .ref (a 5), .ref (a 10), .ref (a 15), .ref (a 17), .null, .int 0, .int 0, .int 0])), (a 5, .inr (7, [.ref (a 6), .ref (a 8), .int 0, .int 0])), (a 3, .inr (2, [.int 0, .ref E, .int 0]))]) (w1 := [(q5, .inr (5, [.ref u6])), (u6, .inl (dA 0, 30, .inl (fun _ => 0)))]) hP hD [3] [0, 1, 2] rfl rfl (by decide) (by decide) hk1 hFc hP1 hD1
  generalize H1 = H at hP hS ⊢
  have hP : va_P D vwCl [(a 0, .inr (11, [.ref (a 1), .ref (a 2), .ref (a 3), .ref (a 4), .ref (a 5), .ref (a 10), .ref (a 15), .ref (a 17), .null, .int 0, .int 0, .int 0])), (a 5, .inr (7, [.ref (a 6), .ref (a 8), .int 0, .int 0])), (a 3, .inr (2, [.int 0, .ref E, .int 0])), (q5, .inr (5, [.ref u6])), (u6, .inl (dA 0, 30, .inl (fun _ => 0)))] H := hP
  have hD : va_D A [(a 0, .inr (11, [.ref (a 1), .ref (a 2), .ref (a 3), .ref (a 4), .ref (a 5), .ref (a 10), .ref (a 15), .ref (a 17), .null, .int 0, .int 0, .int 0])), (a 5, .inr (7, [.ref (a 6), .ref (a 8), .int 0, .int 0])), (a 3, .inr (2, [.int 0, .ref E, .int 0])), (q5, .inr (5, [.ref u6])), (u6, .inl (dA 0, 30, .inl (fun _ => 0)))] := hD
  refine lv_astore_n (lv' := [(1, .ref q5), (0, .ref (a 0))]) hx hb dX8_openView_30 rfl hl (by decide) rfl (fun ls hl => ?_)
  refine lv_aload_n hx hb dX8_openView_31 rfl (lv_at hl 1 rfl) ?_
  refine va_get (D := D) (ci := 11) (v := .ref (a 5)) (C := RX8) (T := TX8) (N := 12) hx hb hts inAX8 hown hK hP 0 rfl rfl 4 (by decide) (hts _ q101) (fun _ h9 => h9) rfl dX8_openView_32 ?_
  refine lv_aload_n hx hb dX8_openView_35 rfl (lv_at hl 0 rfl) ?_
  have hPc := hP.sub (ws' := [(a 5, .inr (7, [.ref (a 6), .ref (a 8), .int 0, .int 0])), (q5, .inr (5, [.ref u6])), (u6, .inl (dA 0, 30, .inl (fun _ => 0)))]) [1, 3, 4] rfl
  have hDc := hD.sub (ws' := [(a 5, .inr (7, [.ref (a 6), .ref (a 8), .int 0, .int 0])), (q5, .inr (5, [.ref u6])), (u6, .inl (dA 0, 30, .inl (fun _ => 0)))]) [1, 3, 4] (by decide) rfl
  have hFc := va_free (wc := [(a 5, .inr (7, [.ref (a 6), .ref (a 8), .int 0, .int 0])), (q5, .inr (5, [.ref u6])), (u6, .inl (dA 0, 30, .inl (fun _ => 0)))]) hD hS hA [1, 3, 4] rfl
  refine va_calli (va_runV (As := [.ref q5]) (rest := []) ⟨hx, hb, hml, hown, hts⟩ (c_listPresent l D dA E (a 5) (a 6) (a 8) q5 u6 H.size ) (cwV 1 hts (ga_V q202 q203 q200 q98 q201) rfl rfl rfl (by decide +kernel) ⟨(Nat.le_of_ble_eq_true rfl), (Nat.le_of_ble_eq_true rfl)⟩) ⟨pb_blind, va_recv hK hPc (ci := 7) (q0 := 0) rfl rfl, pb_pre hK hPc hDc hZ hS hFc _⟩ rfl rfl hl.1 rfl (lv_room (Nat.le_of_ble_eq_true rfl)) dX8_openView_36 ⟨(Nat.le_of_ble_eq_true rfl), (Nat.le_of_ble_eq_true rfl)⟩) hS (fun q _ h => hFc q h) hFc (fun r u t H1 locs ht hvm hw hB hz1 hk1 hS => ?_)
  refine W.widen (k := 2) (n := 31) (Nat.le_of_ble_eq_true rfl) (Nat.le_of_ble_eq_true rfl) ?_
  obtain ⟨r8, rfl⟩ : ∃ z, z = r := ⟨_, rfl⟩
  obtain ⟨u9, rfl⟩ : ∃ z, z = u := ⟨_, rfl⟩
  have hw10 := hw
  clear hw
  obtain ⟨hP1, hD1⟩ := hB
  rw [ht] at hP1
  obtain ⟨hP, hD⟩ := va_join (wr := [(a 0, .inr (11, [.ref (a 1), .ref (a 2), .ref (a 3), .ref (a 4), .ref (a 5), .ref (a 10), .ref (a 15), .ref (a 17), .null, .int 0, .int 0, .int 0])), (a 3, .inr (2, [.int 0, .ref E, .int 0]))]) (w1 := [(a 5, .inr (7, [.ref (a 6), .ref (a 8), .int 0, .int 0]))]) hP hD [1, 3, 4] [0, 2] rfl rfl (by decide) (by decide) hk1 hFc hP1 hD1
  generalize H1 = H at hP hS ⊢
  have hP : va_P D vwCl [(a 0, .inr (11, [.ref (a 1), .ref (a 2), .ref (a 3), .ref (a 4), .ref (a 5), .ref (a 10), .ref (a 15), .ref (a 17), .null, .int 0, .int 0, .int 0])), (a 3, .inr (2, [.int 0, .ref E, .int 0])), (a 5, .inr (7, [.ref (a 6), .ref (a 8), .int 0, .int 0]))] H := hP
  have hD : va_D A [(a 0, .inr (11, [.ref (a 1), .ref (a 2), .ref (a 3), .ref (a 4), .ref (a 5), .ref (a 10), .ref (a 15), .ref (a 17), .null, .int 0, .int 0, .int 0])), (a 3, .inr (2, [.int 0, .ref E, .int 0])), (a 5, .inr (7, [.ref (a 6), .ref (a 8), .int 0, .int 0]))] := hD
  obtain rfl : r8 = 0 := hw10
  refine lv_istore_n (lv' := [(2, .int 0), (1, .ref q5), (0, .ref (a 0))]) hx hb dX8_openView_39 rfl hl (by decide) rfl (fun ls hl => ?_)
  refine lv_aload_n hx hb dX8_openView_40 rfl (lv_at hl 2 rfl) ?_
  refine va_get (D := D) (ci := 11) (v := .ref (a 3)) (C := RX8) (T := TX8) (N := 12) hx hb hts inAX8 hown hK hP 0 rfl rfl 2 (by decide) (hts _ q94) (fun _ h9 => h9) rfl dX8_openView_41 ?_
  refine va_new (ci := 10) (fs := [.int 0, .null, .int 0]) (C := RX7) (T := TX7) (N := 3) hx hb hts inAX7 tyX7 tyX7_ok hown (hts _ q204) (hts _ q205) (hts _ q206) hK hP hD hS hA rfl fsNX7 (Nat.le_of_ble_eq_true rfl) (Nat.le_of_ble_eq_true rfl) dX8_openView_44 (fun q11 H hP hD hS => ?_)
  have hP : va_P D vwCl [(a 0, .inr (11, [.ref (a 1), .ref (a 2), .ref (a 3), .ref (a 4), .ref (a 5), .ref (a 10), .ref (a 15), .ref (a 17), .null, .int 0, .int 0, .int 0])), (a 3, .inr (2, [.int 0, .ref E, .int 0])), (a 5, .inr (7, [.ref (a 6), .ref (a 8), .int 0, .int 0])), (q11, .inr (10, [.int 0, .null, .int 0]))] H := hP
  have hD : va_D A [(a 0, .inr (11, [.ref (a 1), .ref (a 2), .ref (a 3), .ref (a 4), .ref (a 5), .ref (a 10), .ref (a 15), .ref (a 17), .null, .int 0, .int 0, .int 0])), (a 3, .inr (2, [.int 0, .ref E, .int 0])), (a 5, .inr (7, [.ref (a 6), .ref (a 8), .int 0, .int 0])), (q11, .inr (10, [.int 0, .null, .int 0]))] := hD
  refine W.widen (k := 3) (n := 34) (Nat.le_of_ble_eq_true rfl) (Nat.le_of_ble_eq_true rfl) ?_
  refine lv_dup hx hb dX8_openView_47 rfl ?_
  refine lv_aload_n hx hb dX8_openView_48 rfl (lv_at hl 2 rfl) ?_
  refine va_get (D := D) (ci := 11) (v := .int 0) (C := RX8) (T := TX8) (N := 12) hx hb hts inAX8 hown hK hP 0 rfl rfl 10 (by decide) (hts _ q207) (fun _ h9 => h9) rfl dX8_openView_49 ?_
  refine lv_aload_n hx hb dX8_openView_52 rfl (lv_at hl 1 rfl) ?_
  refine lv_iload_n hx hb dX8_openView_53 rfl (lv_at hl 0 rfl) ?_
  have hPc := hP.sub (ws' := [(q11, .inr (10, [.int 0, .null, .int 0]))]) [3] rfl
  have hDc := hD.sub (ws' := [(q11, .inr (10, [.int 0, .null, .int 0]))]) [3] (by decide) rfl
  have hFc := va_free (wc := [(q11, .inr (10, [.int 0, .null, .int 0]))]) hD hS hA [3] rfl
  refine va_callv (va_runI (As := [.int 0, .ref q5, .int 0]) (rest := [.ref q11, .ref (a 3)]) ⟨hx, hb, hml, hown, hts⟩ (c_View_init l D dA E q11 q5 0 0 H.size ) (cwI 3 hts (ga_I q208) rfl rfl rfl (hts _ q206) (hts _ q209) (hts _ q210) rfl (by decide +kernel) ⟨(Nat.le_of_ble_eq_true rfl), (Nat.le_of_ble_eq_true rfl)⟩) ⟨pb_blind, pb_pre hK hPc hDc hZ hS hFc _⟩ rfl rfl hl.1 rfl (lv_room (Nat.le_of_ble_eq_true rfl)) dX8_openView_54 ⟨(Nat.le_of_ble_eq_true rfl), (Nat.le_of_ble_eq_true rfl)⟩) hS (fun q _ h => hFc q h) hFc (fun u t H1 locs ht hvm hw hB hz1 hk1 hS => ?_)
  refine W.widen (k := 3) (n := 34) (Nat.le_of_ble_eq_true rfl) (Nat.le_of_ble_eq_true rfl) ?_
  obtain ⟨u12, rfl⟩ : ∃ z, z = u := ⟨_, rfl⟩
  have hw13 := hw
  clear hw
  obtain ⟨hP1, hD1⟩ := hB
  rw [ht] at hP1
  obtain ⟨hP, hD⟩ := va_join (wr := [(a 0, .inr (11, [.ref (a 1), .ref (a 2), .ref (a 3), .ref (a 4), .ref (a 5), .ref (a 10), .ref (a 15), .ref (a 17), .null, .int 0, .int 0, .int 0])), (a 3, .inr (2, [.int 0, .ref E, .int 0])), (a 5, .inr (7, [.ref (a 6), .ref (a 8), .int 0, .int 0]))]) (w1 := [(q11, .inr (10, [.int 0, .ref q5, .int 0]))]) hP hD [3] [0, 1, 2] rfl rfl (by decide) (by decide) hk1 hFc hP1 hD1
  generalize H1 = H at hP hS ⊢
  have hP : va_P D vwCl [(a 0, .inr (11, [.ref (a 1), .ref (a 2), .ref (a 3), .ref (a 4), .ref (a 5), .ref (a 10), .ref (a 15), .ref (a 17), .null, .int 0, .int 0, .int 0])), (a 3, .inr (2, [.int 0, .ref E, .int 0])), (a 5, .inr (7, [.ref (a 6), .ref (a 8), .int 0, .int 0])), (q11, .inr (10, [.int 0, .ref q5, .int 0]))] H := hP
  have hD : va_D A [(a 0, .inr (11, [.ref (a 1), .ref (a 2), .ref (a 3), .ref (a 4), .ref (a 5), .ref (a 10), .ref (a 15), .ref (a 17), .null, .int 0, .int 0, .int 0])), (a 3, .inr (2, [.int 0, .ref E, .int 0])), (a 5, .inr (7, [.ref (a 6), .ref (a 8), .int 0, .int 0])), (q11, .inr (10, [.int 0, .ref q5, .int 0]))] := hD
  have hPc := hP.sub (ws' := [(a 3, .inr (2, [.int 0, .ref E, .int 0])), (q11, .inr (10, [.int 0, .ref q5, .int 0]))]) [1, 3] rfl
  have hDc := hD.sub (ws' := [(a 3, .inr (2, [.int 0, .ref E, .int 0])), (q11, .inr (10, [.int 0, .ref q5, .int 0]))]) [1, 3] (by decide) rfl
  have hFc := va_free (wc := [(a 3, .inr (2, [.int 0, .ref E, .int 0])), (q11, .inr (10, [.int 0, .ref q5, .int 0]))]) hD hS hA [1, 3] rfl
  refine va_calli (va_runV (As := [.ref q11]) (rest := []) ⟨hx, hb, hml, hown, hts⟩ (c_add_View l D dA E (a 3) q11 (.int 0) (.ref q5) (.int 0) H.size ) (cwV 1 hts (ga_V q160 q161 q158 q12 q159) rfl rfl rfl (by decide +kernel) ⟨(Nat.le_of_ble_eq_true rfl), (Nat.le_of_ble_eq_true rfl)⟩) ⟨pb_blind, va_recv hK hPc (ci := 2) (q0 := 0) rfl rfl, pb_pre hK hPc hDc hZ hS hFc _⟩ rfl rfl hl.1 rfl (lv_room (Nat.le_of_ble_eq_true rfl)) dX8_openView_57 ⟨(Nat.le_of_ble_eq_true rfl), (Nat.le_of_ble_eq_true rfl)⟩) hS (fun q _ h => hFc q h) hFc (fun r u t H1 locs ht hvm hw hB hz1 hk1 hS => ?_)
  refine W.widen (k := 4) (n := 44) (Nat.le_of_ble_eq_true rfl) (Nat.le_of_ble_eq_true rfl) ?_
  obtain ⟨r14, rfl⟩ : ∃ z, z = r := ⟨_, rfl⟩
  obtain ⟨u15, rfl⟩ : ∃ z, z = u := ⟨_, rfl⟩
  have hw16 := hw
  clear hw
  obtain ⟨hP1, hD1⟩ := hB
  rw [ht] at hP1
  obtain ⟨hP, hD⟩ := va_join (wr := [(a 0, .inr (11, [.ref (a 1), .ref (a 2), .ref (a 3), .ref (a 4), .ref (a 5), .ref (a 10), .ref (a 15), .ref (a 17), .null, .int 0, .int 0, .int 0])), (a 5, .inr (7, [.ref (a 6), .ref (a 8), .int 0, .int 0]))]) (w1 := [(a 3, .inr (2, [.int 1, .ref u15, .int 1]))]) hP hD [1, 3] [0, 2] rfl rfl (by decide) (by decide) hk1 hFc hP1 hD1
  generalize H1 = H at hP hS ⊢
  have hP : va_P D vwCl [(a 0, .inr (11, [.ref (a 1), .ref (a 2), .ref (a 3), .ref (a 4), .ref (a 5), .ref (a 10), .ref (a 15), .ref (a 17), .null, .int 0, .int 0, .int 0])), (a 5, .inr (7, [.ref (a 6), .ref (a 8), .int 0, .int 0])), (a 3, .inr (2, [.int 1, .ref u15, .int 1]))] H := hP
  have hD : va_D A [(a 0, .inr (11, [.ref (a 1), .ref (a 2), .ref (a 3), .ref (a 4), .ref (a 5), .ref (a 10), .ref (a 15), .ref (a 17), .null, .int 0, .int 0, .int 0])), (a 5, .inr (7, [.ref (a 6), .ref (a 8), .int 0, .int 0])), (a 3, .inr (2, [.int 1, .ref u15, .int 1]))] := hD
  obtain rfl : r14 = 1 := hw16
  refine lv_pop hx hb dX8_openView_60 rfl ?_
  refine lv_aload_n hx hb dX8_openView_61 rfl (lv_at hl 2 rfl) ?_
  refine lv_dup hx hb dX8_openView_62 rfl ?_
  refine va_get (D := D) (ci := 11) (v := .int 0) (C := RX8) (T := TX8) (N := 12) hx hb hts inAX8 hown hK hP 0 rfl rfl 10 (by decide) (hts _ q207) (fun _ h9 => h9) rfl dX8_openView_63 ?_
  refine lv_iconst (v := 1) hx hb dX8_openView_66 (by decide) ?_
  refine lv_iadd hx hb dX8_openView_67 ?_
  refine lv_topi (fun x17 ex17 => ?_)
  replace ex17 : x17 = 1 := ex17.trans (by decide)
  subst ex17
  refine va_put (D := D) (ci := 11) (v := .int 1) (ty := .int) (C := RX8) (T := TX8) (N := 12) hx hb hts inAX8 tyX8 tyX8_ok nmX8 hown hK hP hD hS 0 rfl rfl 10 (by decide) (hts _ q207) (fun _ h9 => h9) rfl (tyX8_ok 10 (by decide)) rfl rfl (Nat.le_of_ble_eq_true rfl) dX8_openView_68 (fun H locs hP hD hS => ?_)
  have hP : va_P D vwCl [(a 0, .inr (11, [.ref (a 1), .ref (a 2), .ref (a 3), .ref (a 4), .ref (a 5), .ref (a 10), .ref (a 15), .ref (a 17), .null, .int 0, .int 1, .int 0])), (a 5, .inr (7, [.ref (a 6), .ref (a 8), .int 0, .int 0])), (a 3, .inr (2, [.int 1, .ref u15, .int 1]))] H := hP
  have hD : va_D A [(a 0, .inr (11, [.ref (a 1), .ref (a 2), .ref (a 3), .ref (a 4), .ref (a 5), .ref (a 10), .ref (a 15), .ref (a 17), .null, .int 0, .int 1, .int 0])), (a 5, .inr (7, [.ref (a 6), .ref (a 8), .int 0, .int 0])), (a 3, .inr (2, [.int 1, .ref u15, .int 1]))] := hD
  refine lv_aload_n hx hb dX8_openView_71 rfl (lv_at hl 2 rfl) ?_
  refine va_get (D := D) (ci := 11) (v := .int 1) (C := RX8) (T := TX8) (N := 12) hx hb hts inAX8 hown hK hP 0 rfl rfl 10 (by decide) (hts _ q207) (fun _ h9 => h9) rfl dX8_openView_72 ?_
  refine lv_iconst (v := 1) hx hb dX8_openView_75 (by decide) ?_
  refine lv_isub hx hb dX8_openView_76 ?_
  refine lv_topi (fun x18 ex18 => ?_)
  replace ex18 : x18 = 0 := ex18.trans (by decide)
  subst ex18
  refine W.widen (k := 4) (n := 44) (Nat.le_of_ble_eq_true rfl) (Nat.le_of_ble_eq_true rfl) ?_
  exact W.iret (v := 0) hx hb hr (fun t ht hW => ⟨⟨0, (), rfl, (rfl), trivial⟩, hS.F ht⟩) hS.2.2 dX8_openView_77

set_option maxHeartbeats 4000000 in
set_option maxRecDepth 100000 in
theorem c_X8_closeView (l : Launch) (hlt : l.stackTraces = false) (D : va_G) (dA : Nat → ClassId) (E : Nat) (a : Nat → Nat) (p0 : Int32) (sz : Nat)  : vx_Met l yX8_closeView (wq (.code yX8_closeView cX8_closeView 3 (some .int))) { frames := 6, cells := 1, slots := 6, locals := 82 } (va_Pc [.ref (a 0), .int p0] (PcB D dA E [(a 0, .inr (11, [.ref (a 1), .ref (a 2), .ref (a 3), .ref (a 4), .ref (a 5), .ref (a 10), .ref (a 15), .ref (a 17), .null, .int 0, .int 0, .int 0])), (a 3, .inr (2, [.int 0, .ref E, .int 0]))] sz)) (va_Qi (fun (r : Int32) (u : Unit) => False) (fun u t => True) (va_A [(a 0, .inr (11, [.ref (a 1), .ref (a 2), .ref (a 3), .ref (a 4), .ref (a 5), .ref (a 10), .ref (a 15), .ref (a 17), .null, .int 0, .int 0, .int 0])), (a 3, .inr (2, [.int 0, .ref E, .int 0]))] sz)) (vx_X (fun (k : Nat) => k = 2) (fun E9 k t => E9 = xN k) (va_A [(a 0, .inr (11, [.ref (a 1), .ref (a 2), .ref (a 3), .ref (a 4), .ref (a 5), .ref (a 10), .ref (a 15), .ref (a 17), .null, .int 0, .int 0, .int 0])), (a 3, .inr (2, [.int 0, .ref E, .int 0]))] sz)) 1 6 (va_A [(a 0, .inr (11, [.ref (a 1), .ref (a 2), .ref (a 3), .ref (a 4), .ref (a 5), .ref (a 10), .ref (a 15), .ref (a 17), .null, .int 0, .int 0, .int 0])), (a 3, .inr (2, [.int 0, .ref E, .int 0]))] sz) := by
  refine mx_of (Qc := fun A => va_Qi (fun (r : Int32) (u : Unit) => False) (fun u t => True) A) (XC := fun A => vx_X (fun (k : Nat) => k = 2) (fun E9 k t => E9 = xN k) A) RX8 rfl (by decide) (Nat.le_of_ble_eq_true rfl) ?_
  intro p e s m args below meth c hae hx hb hr hts hown hlocks hml hnm htb hP hK A hAe hD hZ hS hA ls hl
  have hl : lv_has ls 3 [(0, .ref (a 0)), (1, .int p0)] := hl
  refine lv_aload_n hx hb dX8_closeView_0 rfl (lv_at hl 0 rfl) ?_
  refine lv_iload_n hx hb dX8_closeView_1 rfl (lv_at hl 1 rfl) ?_
  have hPc := hP.sub (ws' := [(a 0, .inr (11, [.ref (a 1), .ref (a 2), .ref (a 3), .ref (a 4), .ref (a 5), .ref (a 10), .ref (a 15), .ref (a 17), .null, .int 0, .int 0, .int 0])), (a 3, .inr (2, [.int 0, .ref E, .int 0]))]) [0, 1] rfl
  have hDc := hD.sub (ws' := [(a 0, .inr (11, [.ref (a 1), .ref (a 2), .ref (a 3), .ref (a 4), .ref (a 5), .ref (a 10), .ref (a 15), .ref (a 17), .null, .int 0, .int 0, .int 0])), (a 3, .inr (2, [.int 0, .ref E, .int 0]))]) [0, 1] (by decide) rfl
  have hFc := va_free (wc := [(a 0, .inr (11, [.ref (a 1), .ref (a 2), .ref (a 3), .ref (a 4), .ref (a 5), .ref (a 10), .ref (a 15), .ref (a 17), .null, .int 0, .int 0, .int 0])), (a 3, .inr (2, [.int 0, .ref E, .int 0]))]) hD hS hA [0, 1] rfl
  refine va_calli (va_runV (As := [.int p0]) (rest := []) ⟨hx, hb, hml, hown, hts⟩ (c_slotOf l D dA E a p0 s.heap.size ) (cwV 1 hts (ga_V q129 q130 q127 q113 q128) rfl rfl rfl (by decide +kernel) ⟨(Nat.le_of_ble_eq_true rfl), (Nat.le_of_ble_eq_true rfl)⟩) ⟨pb_blind, va_recv hK hPc (ci := 11) (q0 := 0) rfl rfl, pb_pre hK hPc hDc hZ hS hFc _⟩ rfl rfl hl.1 rfl (lv_room (Nat.le_of_ble_eq_true rfl)) dX8_closeView_2 ⟨(Nat.le_of_ble_eq_true rfl), (Nat.le_of_ble_eq_true rfl)⟩) hS (fun q _ h => hFc q h) hFc (fun r u t H1 locs ht hvm hw hB hz1 hk1 hS => ?_)
  refine W.widen (k := 0) (n := 0) (Nat.le_of_ble_eq_true rfl) (Nat.le_of_ble_eq_true rfl) ?_
  obtain ⟨r1, rfl⟩ : ∃ z, z = r := ⟨_, rfl⟩
  obtain ⟨u2, rfl⟩ : ∃ z, z = u := ⟨_, rfl⟩
  have hw3 := hw
  clear hw
  obtain ⟨hP1, hD1⟩ := hB
  rw [ht] at hP1
  obtain ⟨hP, hD⟩ := va_join (wr := []) (w1 := [(a 0, .inr (11, [.ref (a 1), .ref (a 2), .ref (a 3), .ref (a 4), .ref (a 5), .ref (a 10), .ref (a 15), .ref (a 17), .null, .int 0, .int 0, .int 0])), (a 3, .inr (2, [.int 0, .ref E, .int 0]))]) hP hD [0, 1] [] rfl rfl (by decide) (by decide) hk1 hFc hP1 hD1
  generalize H1 = H at hP hS ⊢
  have hP : va_P D vwCl [(a 0, .inr (11, [.ref (a 1), .ref (a 2), .ref (a 3), .ref (a 4), .ref (a 5), .ref (a 10), .ref (a 15), .ref (a 17), .null, .int 0, .int 0, .int 0])), (a 3, .inr (2, [.int 0, .ref E, .int 0]))] H := hP
  have hD : va_D A [(a 0, .inr (11, [.ref (a 1), .ref (a 2), .ref (a 3), .ref (a 4), .ref (a 5), .ref (a 10), .ref (a 15), .ref (a 17), .null, .int 0, .int 0, .int 0])), (a 3, .inr (2, [.int 0, .ref E, .int 0]))] := hD
  obtain rfl : r1 = (-1) := hw3
  refine lv_istore_n (lv' := [(2, .int ((-1))), (0, .ref (a 0)), (1, .int p0)]) hx hb dX8_closeView_5 rfl hl (by decide) rfl (fun ls hl => ?_)
  refine lv_iload_n hx hb dX8_closeView_6 rfl (lv_at hl 0 rfl) ?_
  refine lv_if_ge (tgt := 20) hx hb dX8_closeView_7 (by decide) (fun c4 => absurd c4 (by decide)) (fun _ => ?_)
  obtain ⟨sa, hstr5⟩ := hZ.1.2.2.2.2.1 ("TallowIndex", 212, "no such open view") (List.mem_of_getElem? (i := 14) rfl)
  exact vx_throwS (cls := "java/lang/IndexOutOfBoundsException") (names := ["java/lang/RuntimeException", "java/lang/Exception"]) (own := RX8) hx hb hlt hown hFit_2 hFitN (hts _ q117) (hts _ q118) hstr5 (hat_RX8_170 hts hZ.1) hgd_RX8_170_166 hZ.2.1 hZ.2.2.1 hS (hl.1.trans hml.symm) dX8_closeView_10 dX8_closeView_13 dX8_closeView_14 dX8_closeView_16 dX8_closeView_19 (fun x h => (htb x h).elim) (Nat.le_of_ble_eq_true rfl) (Nat.le_of_ble_eq_true rfl) (Nat.le_of_ble_eq_true rfl) (Nat.le_of_ble_eq_true rfl) hlocks (fun t hal hz hk => ⟨2, (rfl), rfl, sF_t hS hz hk⟩) hS.2.2 (Nat.le_of_ble_eq_true rfl) (Nat.le_of_ble_eq_true rfl)

set_option maxHeartbeats 4000000 in
set_option maxRecDepth 100000 in
theorem c_X8_seen (l : Launch) (hlt : l.stackTraces = false) (D : va_G) (dA : Nat → ClassId) (E : Nat) (a : Nat → Nat) (p0 : Int32) (sz : Nat)  : vx_Met l yX8_seen (wq (.code yX8_seen cX8_seen 2 (some .int))) { frames := 7, cells := 1, slots := 6, locals := 104 } (va_Pc [.ref (a 0), .int p0] (PcB D dA E [(a 0, .inr (11, [.ref (a 1), .ref (a 2), .ref (a 3), .ref (a 4), .ref (a 5), .ref (a 10), .ref (a 15), .ref (a 17), .null, .int 0, .int 0, .int 0])), (a 3, .inr (2, [.int 0, .ref E, .int 0]))] sz)) (va_Qi (fun (r : Int32) (u : Unit) => False) (fun u t => True) (va_A [(a 0, .inr (11, [.ref (a 1), .ref (a 2), .ref (a 3), .ref (a 4), .ref (a 5), .ref (a 10), .ref (a 15), .ref (a 17), .null, .int 0, .int 0, .int 0])), (a 3, .inr (2, [.int 0, .ref E, .int 0]))] sz)) (vx_X (fun (k : Nat) => k = 2) (fun E9 k t => E9 = xN k) (va_A [(a 0, .inr (11, [.ref (a 1), .ref (a 2), .ref (a 3), .ref (a 4), .ref (a 5), .ref (a 10), .ref (a 15), .ref (a 17), .null, .int 0, .int 0, .int 0])), (a 3, .inr (2, [.int 0, .ref E, .int 0]))] sz)) 1 6 (va_A [(a 0, .inr (11, [.ref (a 1), .ref (a 2), .ref (a 3), .ref (a 4), .ref (a 5), .ref (a 10), .ref (a 15), .ref (a 17), .null, .int 0, .int 0, .int 0])), (a 3, .inr (2, [.int 0, .ref E, .int 0]))] sz) := by
  refine mx_of (Qc := fun A => va_Qi (fun (r : Int32) (u : Unit) => False) (fun u t => True) A) (XC := fun A => vx_X (fun (k : Nat) => k = 2) (fun E9 k t => E9 = xN k) A) RX8 rfl (by decide) (Nat.le_of_ble_eq_true rfl) ?_
  intro p e s m args below meth c hae hx hb hr hts hown hlocks hml hnm htb hP hK A hAe hD hZ hS hA ls hl
  have hl : lv_has ls 2 [(0, .ref (a 0)), (1, .int p0)] := hl
  refine lv_aload_n hx hb dX8_seen_0 rfl (lv_at hl 0 rfl) ?_
  refine lv_iload_n hx hb dX8_seen_1 rfl (lv_at hl 1 rfl) ?_
  have hPc := hP.sub (ws' := [(a 0, .inr (11, [.ref (a 1), .ref (a 2), .ref (a 3), .ref (a 4), .ref (a 5), .ref (a 10), .ref (a 15), .ref (a 17), .null, .int 0, .int 0, .int 0])), (a 3, .inr (2, [.int 0, .ref E, .int 0]))]) [0, 1] rfl
  have hDc := hD.sub (ws' := [(a 0, .inr (11, [.ref (a 1), .ref (a 2), .ref (a 3), .ref (a 4), .ref (a 5), .ref (a 10), .ref (a 15), .ref (a 17), .null, .int 0, .int 0, .int 0])), (a 3, .inr (2, [.int 0, .ref E, .int 0]))]) [0, 1] (by decide) rfl
  have hFc := va_free (wc := [(a 0, .inr (11, [.ref (a 1), .ref (a 2), .ref (a 3), .ref (a 4), .ref (a 5), .ref (a 10), .ref (a 15), .ref (a 17), .null, .int 0, .int 0, .int 0])), (a 3, .inr (2, [.int 0, .ref E, .int 0]))]) hD hS hA [0, 1] rfl
  refine vx_callr (vx_runV (As := [.int p0]) (rest := []) ⟨hx, hb, hml, hown, hts⟩ (c_viewNumbered l hlt D dA E a p0 s.heap.size ) (cwV 1 hts (ga_V q133 q134 q131 q113 q132) rfl rfl rfl (by decide +kernel) ⟨(Nat.le_of_ble_eq_true rfl), (Nat.le_of_ble_eq_true rfl)⟩) ⟨pb_blind, va_recv hK hPc (ci := 11) (q0 := 0) rfl rfl, pb_pre hK hPc hDc hZ hS hFc _⟩ rfl rfl hl.1 rfl (lv_room (Nat.le_of_ble_eq_true rfl)) dX8_seen_2 ⟨(Nat.le_of_ble_eq_true rfl), (Nat.le_of_ble_eq_true rfl)⟩) hS (fun q _ h => hFc q h) hFc (fun q _ h => hFc q h) (fun E9 ce q9 k t H1 locs ht hvm hpx hBX hz1 hk1 hS hce hcv hcl => ?_) (fun u ra t H1 locs ht hvm hw hB hz1 hk1 hS => ?_)
  · exact vx_out (fun x h => (htb x h).elim) hlocks hce hcv hcl (fun t1 ht1 hal => ⟨k, (hpx), hBX, hS.F ht1⟩) hS.2.2 (Nat.le_of_ble_eq_true rfl) (Nat.le_of_ble_eq_true rfl)
  · exact hw.elim

set_option maxHeartbeats 4000000 in
set_option maxRecDepth 100000 in
theorem c_X8_ask (l : Launch) (hlt : l.stackTraces = false) (D : va_G) (dA : Nat → ClassId) (E : Nat) (a : Nat → Nat) (p0 p1 p2 p3 p4 : Int32) (sz : Nat) (hch : narrow .char (.int p0) = .int p0 ∧ fits .char (.int p0) = true) : vx_Met l yX8_ask (wq (.code yX8_ask cX8_ask 6 (some .int))) { frames := 6, cells := 2, slots := 16, locals := 101 } (va_Pc [.ref (a 0), .int p0, .int p1, .int p2, .int p3, .int p4] (PcB D dA E [(a 0, .inr (11, [.ref (a 1), .ref (a 2), .ref (a 3), .ref (a 4), .ref (a 5), .ref (a 10), .ref (a 15), .ref (a 17), .null, .int 0, .int 0, .int 0])), (a 4, .inr (2, [.int 0, .ref E, .int 0]))] sz)) (va_Qi (fun (r : Int32) (u : Unit) => (okAsk p0 p1 p2 p3 p4 = true) ∧ r = 0) (fun u t => True) (va_A [(a 0, .inr (11, [.ref (a 1), .ref (a 2), .ref (a 3), .ref (a 4), .ref (a 5), .ref (a 10), .ref (a 15), .ref (a 17), .null, .int 0, .int 0, .int 0])), (a 4, .inr (2, [.int 0, .ref E, .int 0]))] sz)) (vx_X (fun (k : Nat) => (okAsk p0 p1 p2 p3 p4 = false) ∧ k = 1) (fun E9 k t => E9 = xN k) (va_A [(a 0, .inr (11, [.ref (a 1), .ref (a 2), .ref (a 3), .ref (a 4), .ref (a 5), .ref (a 10), .ref (a 15), .ref (a 17), .null, .int 0, .int 0, .int 0])), (a 4, .inr (2, [.int 0, .ref E, .int 0]))] sz)) 2 16 (va_A [(a 0, .inr (11, [.ref (a 1), .ref (a 2), .ref (a 3), .ref (a 4), .ref (a 5), .ref (a 10), .ref (a 15), .ref (a 17), .null, .int 0, .int 0, .int 0])), (a 4, .inr (2, [.int 0, .ref E, .int 0]))] sz) := by
  refine mx_of (Qc := fun A => va_Qi (fun (r : Int32) (u : Unit) => (okAsk p0 p1 p2 p3 p4 = true) ∧ r = 0) (fun u t => True) A) (XC := fun A => vx_X (fun (k : Nat) => (okAsk p0 p1 p2 p3 p4 = false) ∧ k = 1) (fun E9 k t => E9 = xN k) A) RX8 rfl (by decide) (Nat.le_of_ble_eq_true rfl) ?_
  intro p e s m args below meth c hae hx hb hr hts hown hlocks hml hnm htb hP hK A hAe hD hZ hS hA ls hl
  have hl : lv_has ls 6 [(0, .ref (a 0)), (1, .int p0), (2, .int p1), (3, .int p2), (4, .int p3), (5, .int p4)] := hl
  refine lv_iload_n hx hb dX8_ask_0 rfl (lv_at hl 1 rfl) ?_
  refine lv_iload_n hx hb dX8_ask_1 rfl (lv_at hl 2 rfl) ?_
  refine lv_iload_n hx hb dX8_ask_2 rfl (lv_at hl 3 rfl) ?_
  refine lv_iload hx hb dX8_ask_3 (lv_at hl 4 rfl) ?_
  have hPc := hP.sub (ws' := []) [] rfl
  have hDc := hD.sub (ws' := []) [] (by decide) rfl
  have hFc := va_free (wc := []) hD hS hA [] rfl
  refine va_calli (va_runS (As := [.int p0, .int p1, .int p2, .int p3]) (rest := []) ⟨hx, hb, hml, hown, hts⟩ (c_canAsk l D dA E p0 p1 p2 p3 s.heap.size ) (va_cwS 4 hts (ga_S q212 q213 q214 q211) rfl rfl rfl (by decide +kernel) ⟨(Nat.le_of_ble_eq_true rfl), (Nat.le_of_ble_eq_true rfl)⟩) ⟨pb_blind, pb_pre hK hPc hDc hZ hS hFc _⟩ rfl rfl hl.1 rfl (lv_room (Nat.le_of_ble_eq_true rfl)) dX8_ask_5 ⟨(Nat.le_of_ble_eq_true rfl), (Nat.le_of_ble_eq_true rfl)⟩) hS (fun q _ h => hFc q h) hFc (fun r u t H1 locs ht hvm hw hB hz1 hk1 hS => ?_)
  refine W.widen (k := 0) (n := 0) (Nat.le_of_ble_eq_true rfl) (Nat.le_of_ble_eq_true rfl) ?_
  obtain ⟨r1, rfl⟩ : ∃ z, z = r := ⟨_, rfl⟩
  obtain ⟨u2, rfl⟩ : ∃ z, z = u := ⟨_, rfl⟩
  have hw3 := hw
  clear hw
  obtain ⟨hP, hD⟩ := jn_drop (wr := [(a 0, .inr (11, [.ref (a 1), .ref (a 2), .ref (a 3), .ref (a 4), .ref (a 5), .ref (a 10), .ref (a 15), .ref (a 17), .null, .int 0, .int 0, .int 0])), (a 4, .inr (2, [.int 0, .ref E, .int 0]))]) hP hD [] [0, 1] rfl rfl (by decide) (by decide) hk1 hFc
  generalize H1 = H at hP hS ⊢
  have hP : va_P D vwCl [(a 0, .inr (11, [.ref (a 1), .ref (a 2), .ref (a 3), .ref (a 4), .ref (a 5), .ref (a 10), .ref (a 15), .ref (a 17), .null, .int 0, .int 0, .int 0])), (a 4, .inr (2, [.int 0, .ref E, .int 0]))] H := hP
  have hD : va_D A [(a 0, .inr (11, [.ref (a 1), .ref (a 2), .ref (a 3), .ref (a 4), .ref (a 5), .ref (a 10), .ref (a 15), .ref (a 17), .null, .int 0, .int 0, .int 0])), (a 4, .inr (2, [.int 0, .ref E, .int 0]))] := hD
  refine bt (b := (okCan p0 p1 p2 p3)) ?_ ?_
  · intro hB4
    obtain rfl : r1 = 1 := hw3.trans (by rw [hB4]; rfl)
    refine lv_if_ne (tgt := 21) hx hb dX8_ask_8 (by decide) (fun _ => ?_) (fun c5 => absurd c5 (by decide))
    refine lv_iload hx hb dX8_ask_21 (lv_at hl 5 rfl) ?_
    refine lv_iconst (v := 1) hx hb dX8_ask_23 (by decide) ?_
    refine lv_icmp_lt (tgt := 34) hx hb dX8_ask_24 (by decide) (fun c6 => ?_) (fun c6 => ?_)
    · obtain ⟨sa, hstr7⟩ := hZ.1.2.2.2.2.1 ("TallowIndex", 230, "no such weight") (List.mem_of_getElem? (i := 16) rfl)
      exact vx_throwS (cls := "java/lang/IllegalArgumentException") (names := ["java/lang/RuntimeException", "java/lang/Exception"]) (own := RX8) hx hb hlt hown hFit_1 hFitN (hts _ q115) (hts _ q116) hstr7 (hat_RX8_61 hts hZ.1) hgd_RX8_61_57 hZ.2.1 hZ.2.2.1 hS (hl.1.trans hml.symm) dX8_ask_34 dX8_ask_37 dX8_ask_38 dX8_ask_40 dX8_ask_43 (fun x h => (htb x h).elim) (Nat.le_of_ble_eq_true rfl) (Nat.le_of_ble_eq_true rfl) (Nat.le_of_ble_eq_true rfl) (Nat.le_of_ble_eq_true rfl) hlocks (fun t hal hz hk => ⟨1, (⟨(by simp [okAsk, inR, hB4, c6]), rfl⟩), rfl, sF_t hS hz hk⟩) hS.2.2 (Nat.le_of_ble_eq_true rfl) (Nat.le_of_ble_eq_true rfl)
    · refine lv_iload hx hb dX8_ask_27 (lv_at hl 5 rfl) ?_
      refine lv_bipush (v := 9) hx hb dX8_ask_29 (by decide) ?_
      refine lv_icmp_le (tgt := 44) hx hb dX8_ask_31 (by decide) (fun c8 => ?_) (fun c8 => ?_)
      · refine lv_aload_n hx hb dX8_ask_44 rfl (lv_at hl 0 rfl) ?_
        refine va_get (D := D) (ci := 11) (v := .ref (a 4)) (C := RX8) (T := TX8) (N := 12) hx hb hts inAX8 hown hK hP 0 rfl rfl 3 (by decide) (hts _ q95) (fun _ h9 => h9) rfl dX8_ask_45 ?_
        have hPc := hP.sub (ws' := [(a 4, .inr (2, [.int 0, .ref E, .int 0]))]) [1] rfl
        have hDc := hD.sub (ws' := [(a 4, .inr (2, [.int 0, .ref E, .int 0]))]) [1] (by decide) rfl
        have hFc := va_free (wc := [(a 4, .inr (2, [.int 0, .ref E, .int 0]))]) hD hS hA [1] rfl
        refine va_calli (va_runV (As := []) (rest := []) ⟨hx, hb, hml, hown, hts⟩ (c_size l D dA E (a 4) 0 (.ref E) 0 H.size ) (cwV 0 hts (ga_V q121 q122 q119 q12 q120) rfl rfl rfl (by decide +kernel) ⟨(Nat.le_of_ble_eq_true rfl), (Nat.le_of_ble_eq_true rfl)⟩) ⟨pb_blind, va_recv hK hPc (ci := 2) (q0 := 0) rfl rfl, pb_pre hK hPc hDc hZ hS hFc _⟩ rfl rfl hl.1 rfl (lv_room (Nat.le_of_ble_eq_true rfl)) dX8_ask_48 ⟨(Nat.le_of_ble_eq_true rfl), (Nat.le_of_ble_eq_true rfl)⟩) hS (fun q _ h => hFc q h) hFc (fun r u t H1 locs ht hvm hw hB hz1 hk1 hS => ?_)
        refine W.widen (k := 0) (n := 0) (Nat.le_of_ble_eq_true rfl) (Nat.le_of_ble_eq_true rfl) ?_
        obtain ⟨r9, rfl⟩ : ∃ z, z = r := ⟨_, rfl⟩
        obtain ⟨u10, rfl⟩ : ∃ z, z = u := ⟨_, rfl⟩
        have hw11 := hw
        clear hw
        obtain ⟨hP1, hD1⟩ := hB
        rw [ht] at hP1
        obtain ⟨hP, hD⟩ := va_join (wr := [(a 0, .inr (11, [.ref (a 1), .ref (a 2), .ref (a 3), .ref (a 4), .ref (a 5), .ref (a 10), .ref (a 15), .ref (a 17), .null, .int 0, .int 0, .int 0]))]) (w1 := [(a 4, .inr (2, [.int 0, .ref E, .int 0]))]) hP hD [1] [0] rfl rfl (by decide) (by decide) hk1 hFc hP1 hD1
        generalize H1 = H at hP hS ⊢
        have hP : va_P D vwCl [(a 0, .inr (11, [.ref (a 1), .ref (a 2), .ref (a 3), .ref (a 4), .ref (a 5), .ref (a 10), .ref (a 15), .ref (a 17), .null, .int 0, .int 0, .int 0])), (a 4, .inr (2, [.int 0, .ref E, .int 0]))] H := hP
        have hD : va_D A [(a 0, .inr (11, [.ref (a 1), .ref (a 2), .ref (a 3), .ref (a 4), .ref (a 5), .ref (a 10), .ref (a 15), .ref (a 17), .null, .int 0, .int 0, .int 0])), (a 4, .inr (2, [.int 0, .ref E, .int 0]))] := hD
        obtain rfl : r9 = 0 := hw11
        refine lv_bipush (v := 40) hx hb dX8_ask_51 (by decide) ?_
        refine lv_icmp_lt (tgt := 66) hx hb dX8_ask_53 (by decide) (fun _ => ?_) (fun c12 => absurd (by decide) c12)
        refine lv_aload_n hx hb dX8_ask_66 rfl (lv_at hl 0 rfl) ?_
        refine va_get (D := D) (ci := 11) (v := .ref (a 4)) (C := RX8) (T := TX8) (N := 12) hx hb hts inAX8 hown hK hP 0 rfl rfl 3 (by decide) (hts _ q95) (fun _ h9 => h9) rfl dX8_ask_67 ?_
        refine va_new (ci := 4) (fs := [.int 0, .int 0, .int 0, .int 0, .int 0, .int 0]) (C := RX1) (T := TX1) (N := 6) hx hb hts inAX1 tyX1 tyX1_ok hown (hts _ q215) (hts _ q216) (hts _ q214) hK hP hD hS hA rfl fsNX1 (Nat.le_of_ble_eq_true rfl) (Nat.le_of_ble_eq_true rfl) dX8_ask_70 (fun q13 H hP hD hS => ?_)
        have hP : va_P D vwCl [(a 0, .inr (11, [.ref (a 1), .ref (a 2), .ref (a 3), .ref (a 4), .ref (a 5), .ref (a 10), .ref (a 15), .ref (a 17), .null, .int 0, .int 0, .int 0])), (a 4, .inr (2, [.int 0, .ref E, .int 0])), (q13, .inr (4, [.int 0, .int 0, .int 0, .int 0, .int 0, .int 0]))] H := hP
        have hD : va_D A [(a 0, .inr (11, [.ref (a 1), .ref (a 2), .ref (a 3), .ref (a 4), .ref (a 5), .ref (a 10), .ref (a 15), .ref (a 17), .null, .int 0, .int 0, .int 0])), (a 4, .inr (2, [.int 0, .ref E, .int 0])), (q13, .inr (4, [.int 0, .int 0, .int 0, .int 0, .int 0, .int 0]))] := hD
        refine W.widen (k := 1) (n := 6) (Nat.le_of_ble_eq_true rfl) (Nat.le_of_ble_eq_true rfl) ?_
        refine lv_dup hx hb dX8_ask_73 rfl ?_
        refine lv_iload_n hx hb dX8_ask_74 rfl (lv_at hl 1 rfl) ?_
        refine lv_iload_n hx hb dX8_ask_75 rfl (lv_at hl 2 rfl) ?_
        refine lv_iload_n hx hb dX8_ask_76 rfl (lv_at hl 3 rfl) ?_
        refine lv_iload hx hb dX8_ask_77 (lv_at hl 4 rfl) ?_
        refine lv_iload hx hb dX8_ask_79 (lv_at hl 5 rfl) ?_
        refine lv_iconst (v := 1) hx hb dX8_ask_81 (by decide) ?_
        have hPc := hP.sub (ws' := [(q13, .inr (4, [.int 0, .int 0, .int 0, .int 0, .int 0, .int 0]))]) [2] rfl
        have hDc := hD.sub (ws' := [(q13, .inr (4, [.int 0, .int 0, .int 0, .int 0, .int 0, .int 0]))]) [2] (by decide) rfl
        have hFc := va_free (wc := [(q13, .inr (4, [.int 0, .int 0, .int 0, .int 0, .int 0, .int 0]))]) hD hS hA [2] rfl
        refine va_callv (va_runI (As := [.int p0, .int p1, .int p2, .int p3, .int p4, .int 1]) (rest := [.ref q13, .ref (a 4)]) ⟨hx, hb, hml, hown, hts⟩ (c_Query_init l D dA E q13 p0 p1 p2 p3 p4 1 H.size hch) (cwI 6 hts (ga_I q217) rfl rfl rfl (hts _ q214) (hts _ q218) (hts _ q219) rfl (by decide +kernel) ⟨(Nat.le_of_ble_eq_true rfl), (Nat.le_of_ble_eq_true rfl)⟩) ⟨pb_blind, pb_pre hK hPc hDc hZ hS hFc _⟩ rfl rfl hl.1 rfl (lv_room (Nat.le_of_ble_eq_true rfl)) dX8_ask_82 ⟨(Nat.le_of_ble_eq_true rfl), (Nat.le_of_ble_eq_true rfl)⟩) hS (fun q _ h => hFc q h) hFc (fun u t H1 locs ht hvm hw hB hz1 hk1 hS => ?_)
        refine W.widen (k := 1) (n := 6) (Nat.le_of_ble_eq_true rfl) (Nat.le_of_ble_eq_true rfl) ?_
        obtain ⟨u14, rfl⟩ : ∃ z, z = u := ⟨_, rfl⟩
        have hw15 := hw
        clear hw
        obtain ⟨hP1, hD1⟩ := hB
        rw [ht] at hP1
        obtain ⟨hP, hD⟩ := va_join (wr := [(a 0, .inr (11, [.ref (a 1), .ref (a 2), .ref (a 3), .ref (a 4), .ref (a 5), .ref (a 10), .ref (a 15), .ref (a 17), .null, .int 0, .int 0, .int 0])), (a 4, .inr (2, [.int 0, .ref E, .int 0]))]) (w1 := [(q13, .inr (4, [.int p0, .int p1, .int p2, .int p3, .int p4, .int 1]))]) hP hD [2] [0, 1] rfl rfl (by decide) (by decide) hk1 hFc hP1 hD1
        generalize H1 = H at hP hS ⊢
        have hP : va_P D vwCl [(a 0, .inr (11, [.ref (a 1), .ref (a 2), .ref (a 3), .ref (a 4), .ref (a 5), .ref (a 10), .ref (a 15), .ref (a 17), .null, .int 0, .int 0, .int 0])), (a 4, .inr (2, [.int 0, .ref E, .int 0])), (q13, .inr (4, [.int p0, .int p1, .int p2, .int p3, .int p4, .int 1]))] H := hP
        have hD : va_D A [(a 0, .inr (11, [.ref (a 1), .ref (a 2), .ref (a 3), .ref (a 4), .ref (a 5), .ref (a 10), .ref (a 15), .ref (a 17), .null, .int 0, .int 0, .int 0])), (a 4, .inr (2, [.int 0, .ref E, .int 0])), (q13, .inr (4, [.int p0, .int p1, .int p2, .int p3, .int p4, .int 1]))] := hD
        have hPc := hP.sub (ws' := [(a 4, .inr (2, [.int 0, .ref E, .int 0])), (q13, .inr (4, [.int p0, .int p1, .int p2, .int p3, .int p4, .int 1]))]) [1, 2] rfl
        have hDc := hD.sub (ws' := [(a 4, .inr (2, [.int 0, .ref E, .int 0])), (q13, .inr (4, [.int p0, .int p1, .int p2, .int p3, .int p4, .int 1]))]) [1, 2] (by decide) rfl
        have hFc := va_free (wc := [(a 4, .inr (2, [.int 0, .ref E, .int 0])), (q13, .inr (4, [.int p0, .int p1, .int p2, .int p3, .int p4, .int 1]))]) hD hS hA [1, 2] rfl
        refine va_calli (va_runV (As := [.ref q13]) (rest := []) ⟨hx, hb, hml, hown, hts⟩ (c_add_Query l D dA E (a 4) q13 (.int p0) (.int p1) (.int p2) (.int p3) (.int p4) (.int 1) H.size ) (cwV 1 hts (ga_V q160 q161 q158 q12 q159) rfl rfl rfl (by decide +kernel) ⟨(Nat.le_of_ble_eq_true rfl), (Nat.le_of_ble_eq_true rfl)⟩) ⟨pb_blind, va_recv hK hPc (ci := 2) (q0 := 0) rfl rfl, pb_pre hK hPc hDc hZ hS hFc _⟩ rfl rfl hl.1 rfl (lv_room (Nat.le_of_ble_eq_true rfl)) dX8_ask_85 ⟨(Nat.le_of_ble_eq_true rfl), (Nat.le_of_ble_eq_true rfl)⟩) hS (fun q _ h => hFc q h) hFc (fun r u t H1 locs ht hvm hw hB hz1 hk1 hS => ?_)
        refine W.widen (k := 2) (n := 16) (Nat.le_of_ble_eq_true rfl) (Nat.le_of_ble_eq_true rfl) ?_
        obtain ⟨r16, rfl⟩ : ∃ z, z = r := ⟨_, rfl⟩
        obtain ⟨u17, rfl⟩ : ∃ z, z = u := ⟨_, rfl⟩
        have hw18 := hw
        clear hw
        obtain ⟨hP1, hD1⟩ := hB
        rw [ht] at hP1
        obtain ⟨hP, hD⟩ := va_join (wr := [(a 0, .inr (11, [.ref (a 1), .ref (a 2), .ref (a 3), .ref (a 4), .ref (a 5), .ref (a 10), .ref (a 15), .ref (a 17), .null, .int 0, .int 0, .int 0]))]) (w1 := [(a 4, .inr (2, [.int 1, .ref u17, .int 1]))]) hP hD [1, 2] [0] rfl rfl (by decide) (by decide) hk1 hFc hP1 hD1
        generalize H1 = H at hP hS ⊢
        have hP : va_P D vwCl [(a 0, .inr (11, [.ref (a 1), .ref (a 2), .ref (a 3), .ref (a 4), .ref (a 5), .ref (a 10), .ref (a 15), .ref (a 17), .null, .int 0, .int 0, .int 0])), (a 4, .inr (2, [.int 1, .ref u17, .int 1]))] H := hP
        have hD : va_D A [(a 0, .inr (11, [.ref (a 1), .ref (a 2), .ref (a 3), .ref (a 4), .ref (a 5), .ref (a 10), .ref (a 15), .ref (a 17), .null, .int 0, .int 0, .int 0])), (a 4, .inr (2, [.int 1, .ref u17, .int 1]))] := hD
        obtain rfl : r16 = 1 := hw18
        refine lv_pop hx hb dX8_ask_88 rfl ?_
        refine lv_aload_n hx hb dX8_ask_89 rfl (lv_at hl 0 rfl) ?_
        refine va_get (D := D) (ci := 11) (v := .ref (a 4)) (C := RX8) (T := TX8) (N := 12) hx hb hts inAX8 hown hK hP 0 rfl rfl 3 (by decide) (hts _ q95) (fun _ h9 => h9) rfl dX8_ask_90 ?_
        have hPc := hP.sub (ws' := [(a 4, .inr (2, [.int 1, .ref u17, .int 1]))]) [1] rfl
        have hDc := hD.sub (ws' := [(a 4, .inr (2, [.int 1, .ref u17, .int 1]))]) [1] (by decide) rfl
        have hFc := va_free (wc := [(a 4, .inr (2, [.int 1, .ref u17, .int 1]))]) hD hS hA [1] rfl
        refine va_calli (va_runV (As := []) (rest := []) ⟨hx, hb, hml, hown, hts⟩ (c_size l D dA E (a 4) 1 (.ref u17) 1 H.size ) (cwV 0 hts (ga_V q121 q122 q119 q12 q120) rfl rfl rfl (by decide +kernel) ⟨(Nat.le_of_ble_eq_true rfl), (Nat.le_of_ble_eq_true rfl)⟩) ⟨pb_blind, va_recv hK hPc (ci := 2) (q0 := 0) rfl rfl, pb_pre hK hPc hDc hZ hS hFc _⟩ rfl rfl hl.1 rfl (lv_room (Nat.le_of_ble_eq_true rfl)) dX8_ask_93 ⟨(Nat.le_of_ble_eq_true rfl), (Nat.le_of_ble_eq_true rfl)⟩) hS (fun q _ h => hFc q h) hFc (fun r u t H1 locs ht hvm hw hB hz1 hk1 hS => ?_)
        refine W.widen (k := 2) (n := 16) (Nat.le_of_ble_eq_true rfl) (Nat.le_of_ble_eq_true rfl) ?_
        obtain ⟨r19, rfl⟩ : ∃ z, z = r := ⟨_, rfl⟩
        obtain ⟨u20, rfl⟩ : ∃ z, z = u := ⟨_, rfl⟩
        have hw21 := hw
        clear hw
        obtain ⟨hP1, hD1⟩ := hB
        rw [ht] at hP1
        obtain ⟨hP, hD⟩ := va_join (wr := [(a 0, .inr (11, [.ref (a 1), .ref (a 2), .ref (a 3), .ref (a 4), .ref (a 5), .ref (a 10), .ref (a 15), .ref (a 17), .null, .int 0, .int 0, .int 0]))]) (w1 := [(a 4, .inr (2, [.int 1, .ref u17, .int 1]))]) hP hD [1] [0] rfl rfl (by decide) (by decide) hk1 hFc hP1 hD1
        generalize H1 = H at hP hS ⊢
        have hP : va_P D vwCl [(a 0, .inr (11, [.ref (a 1), .ref (a 2), .ref (a 3), .ref (a 4), .ref (a 5), .ref (a 10), .ref (a 15), .ref (a 17), .null, .int 0, .int 0, .int 0])), (a 4, .inr (2, [.int 1, .ref u17, .int 1]))] H := hP
        have hD : va_D A [(a 0, .inr (11, [.ref (a 1), .ref (a 2), .ref (a 3), .ref (a 4), .ref (a 5), .ref (a 10), .ref (a 15), .ref (a 17), .null, .int 0, .int 0, .int 0])), (a 4, .inr (2, [.int 1, .ref u17, .int 1]))] := hD
        obtain rfl : r19 = 1 := hw21
        refine lv_iconst (v := 1) hx hb dX8_ask_96 (by decide) ?_
        refine lv_isub hx hb dX8_ask_97 ?_
        refine lv_topi (fun x22 ex22 => ?_)
        replace ex22 : x22 = 0 := ex22.trans (by decide)
        subst ex22
        refine W.widen (k := 2) (n := 16) (Nat.le_of_ble_eq_true rfl) (Nat.le_of_ble_eq_true rfl) ?_
        refine vx_ret ?_
        exact W.iret (v := 0) hx hb hr (fun t ht hW => ⟨⟨0, (), rfl, (⟨(by simp [okAsk, inR, hB4, c6, c8]), rfl⟩), trivial⟩, hS.F ht⟩) hS.2.2 dX8_ask_98
      · obtain ⟨sa, hstr23⟩ := hZ.1.2.2.2.2.1 ("TallowIndex", 230, "no such weight") (List.mem_of_getElem? (i := 16) rfl)
        exact vx_throwS (cls := "java/lang/IllegalArgumentException") (names := ["java/lang/RuntimeException", "java/lang/Exception"]) (own := RX8) hx hb hlt hown hFit_1 hFitN (hts _ q115) (hts _ q116) hstr23 (hat_RX8_61 hts hZ.1) hgd_RX8_61_57 hZ.2.1 hZ.2.2.1 hS (hl.1.trans hml.symm) dX8_ask_34 dX8_ask_37 dX8_ask_38 dX8_ask_40 dX8_ask_43 (fun x h => (htb x h).elim) (Nat.le_of_ble_eq_true rfl) (Nat.le_of_ble_eq_true rfl) (Nat.le_of_ble_eq_true rfl) (Nat.le_of_ble_eq_true rfl) hlocks (fun t hal hz hk => ⟨1, (⟨(by simp [okAsk, inR, hB4, c6, nle_lt c8]), rfl⟩), rfl, sF_t hS hz hk⟩) hS.2.2 (Nat.le_of_ble_eq_true rfl) (Nat.le_of_ble_eq_true rfl)
  · intro hB4
    obtain rfl : r1 = 0 := hw3.trans (by rw [hB4]; rfl)
    refine lv_if_ne (tgt := 21) hx hb dX8_ask_8 (by decide) (fun c24 => absurd (by decide) c24) (fun _ => ?_)
    obtain ⟨sa, hstr25⟩ := hZ.1.2.2.2.2.1 ("TallowIndex", 228, "no such kind, word or distance") (List.mem_of_getElem? (i := 15) rfl)
    exact vx_throwS (cls := "java/lang/IllegalArgumentException") (names := ["java/lang/RuntimeException", "java/lang/Exception"]) (own := RX8) hx hb hlt hown hFit_1 hFitN (hts _ q115) (hts _ q116) hstr25 (hat_RX8_61 hts hZ.1) hgd_RX8_61_57 hZ.2.1 hZ.2.2.1 hS (hl.1.trans hml.symm) dX8_ask_11 dX8_ask_14 dX8_ask_15 dX8_ask_17 dX8_ask_20 (fun x h => (htb x h).elim) (Nat.le_of_ble_eq_true rfl) (Nat.le_of_ble_eq_true rfl) (Nat.le_of_ble_eq_true rfl) (Nat.le_of_ble_eq_true rfl) hlocks (fun t hal hz hk => ⟨1, (⟨(by simp [okAsk, inR, hB4]), rfl⟩), rfl, sF_t hS hz hk⟩) hS.2.2 (Nat.le_of_ble_eq_true rfl) (Nat.le_of_ble_eq_true rfl)

set_option maxHeartbeats 4000000 in
set_option maxRecDepth 100000 in
theorem c_X8_join (l : Launch) (hlt : l.stackTraces = false) (D : va_G) (dA : Nat → ClassId) (E : Nat) (a : Nat → Nat) (p0 p1 p2 : Int32) (sz : Nat) (hch : narrow .char (.int p0) = .int p0 ∧ fits .char (.int p0) = true) : vx_Met l yX8_join (wq (.code yX8_join cX8_join 5 (some .int))) { frames := 7, cells := 1, slots := 6, locals := 103 } (va_Pc [.ref (a 0), .int p0, .int p1, .int p2] (PcB D dA E [(a 0, .inr (11, [.ref (a 1), .ref (a 2), .ref (a 3), .ref (a 4), .ref (a 5), .ref (a 10), .ref (a 15), .ref (a 17), .null, .int 0, .int 0, .int 0])), (a 4, .inr (2, [.int 0, .ref E, .int 0]))] sz)) (va_Qi (fun (r : Int32) (u : Unit) => False) (fun u t => True) (va_A [(a 0, .inr (11, [.ref (a 1), .ref (a 2), .ref (a 3), .ref (a 4), .ref (a 5), .ref (a 10), .ref (a 15), .ref (a 17), .null, .int 0, .int 0, .int 0])), (a 4, .inr (2, [.int 0, .ref E, .int 0]))] sz)) (vx_X (fun (k : Nat) => ((okJ p0 = false) ∧ k = 1) ∨ ((okJ p0 = true) ∧ k = 2)) (fun E9 k t => E9 = xN k) (va_A [(a 0, .inr (11, [.ref (a 1), .ref (a 2), .ref (a 3), .ref (a 4), .ref (a 5), .ref (a 10), .ref (a 15), .ref (a 17), .null, .int 0, .int 0, .int 0])), (a 4, .inr (2, [.int 0, .ref E, .int 0]))] sz)) 1 6 (va_A [(a 0, .inr (11, [.ref (a 1), .ref (a 2), .ref (a 3), .ref (a 4), .ref (a 5), .ref (a 10), .ref (a 15), .ref (a 17), .null, .int 0, .int 0, .int 0])), (a 4, .inr (2, [.int 0, .ref E, .int 0]))] sz) := by
  refine mx_of (Qc := fun A => va_Qi (fun (r : Int32) (u : Unit) => False) (fun u t => True) A) (XC := fun A => vx_X (fun (k : Nat) => ((okJ p0 = false) ∧ k = 1) ∨ ((okJ p0 = true) ∧ k = 2)) (fun E9 k t => E9 = xN k) A) RX8 rfl (by decide) (Nat.le_of_ble_eq_true rfl) ?_
  intro p e s m args below meth c hae hx hb hr hts hown hlocks hml hnm htb hP hK A hAe hD hZ hS hA ls hl
  have hl : lv_has ls 5 [(0, .ref (a 0)), (1, .int p0), (2, .int p1), (3, .int p2)] := hl
  refine lv_iload_n hx hb dX8_join_0 rfl (lv_at hl 1 rfl) ?_
  have hPc := hP.sub (ws' := []) [] rfl
  have hDc := hD.sub (ws' := []) [] (by decide) rfl
  have hFc := va_free (wc := []) hD hS hA [] rfl
  refine va_calli (va_runS (As := [.int p0]) (rest := []) ⟨hx, hb, hml, hown, hts⟩ (c_canJoin l D dA E p0 s.heap.size ) (va_cwS 1 hts (ga_S q221 q222 q214 q220) rfl rfl rfl (by decide +kernel) ⟨(Nat.le_of_ble_eq_true rfl), (Nat.le_of_ble_eq_true rfl)⟩) ⟨pb_blind, pb_pre hK hPc hDc hZ hS hFc _⟩ rfl rfl hl.1 rfl (lv_room (Nat.le_of_ble_eq_true rfl)) dX8_join_1 ⟨(Nat.le_of_ble_eq_true rfl), (Nat.le_of_ble_eq_true rfl)⟩) hS (fun q _ h => hFc q h) hFc (fun r u t H1 locs ht hvm hw hB hz1 hk1 hS => ?_)
  refine W.widen (k := 0) (n := 0) (Nat.le_of_ble_eq_true rfl) (Nat.le_of_ble_eq_true rfl) ?_
  obtain ⟨r1, rfl⟩ : ∃ z, z = r := ⟨_, rfl⟩
  obtain ⟨u2, rfl⟩ : ∃ z, z = u := ⟨_, rfl⟩
  have hw3 := hw
  clear hw
  obtain ⟨hP, hD⟩ := jn_drop (wr := [(a 0, .inr (11, [.ref (a 1), .ref (a 2), .ref (a 3), .ref (a 4), .ref (a 5), .ref (a 10), .ref (a 15), .ref (a 17), .null, .int 0, .int 0, .int 0])), (a 4, .inr (2, [.int 0, .ref E, .int 0]))]) hP hD [] [0, 1] rfl rfl (by decide) (by decide) hk1 hFc
  generalize H1 = H at hP hS ⊢
  have hP : va_P D vwCl [(a 0, .inr (11, [.ref (a 1), .ref (a 2), .ref (a 3), .ref (a 4), .ref (a 5), .ref (a 10), .ref (a 15), .ref (a 17), .null, .int 0, .int 0, .int 0])), (a 4, .inr (2, [.int 0, .ref E, .int 0]))] H := hP
  have hD : va_D A [(a 0, .inr (11, [.ref (a 1), .ref (a 2), .ref (a 3), .ref (a 4), .ref (a 5), .ref (a 10), .ref (a 15), .ref (a 17), .null, .int 0, .int 0, .int 0])), (a 4, .inr (2, [.int 0, .ref E, .int 0]))] := hD
  refine bt (b := (okJ p0)) ?_ ?_
  · intro hB4
    obtain rfl : r1 = 1 := hw3.trans (by rw [hB4]; rfl)
    refine lv_if_ne (tgt := 17) hx hb dX8_join_4 (by decide) (fun _ => ?_) (fun c5 => absurd c5 (by decide))
    refine lv_aload_n hx hb dX8_join_17 rfl (lv_at hl 0 rfl) ?_
    refine lv_iload_n hx hb dX8_join_18 rfl (lv_at hl 2 rfl) ?_
    have hPc := hP.sub (ws' := [(a 0, .inr (11, [.ref (a 1), .ref (a 2), .ref (a 3), .ref (a 4), .ref (a 5), .ref (a 10), .ref (a 15), .ref (a 17), .null, .int 0, .int 0, .int 0])), (a 4, .inr (2, [.int 0, .ref E, .int 0]))]) [0, 1] rfl
    have hDc := hD.sub (ws' := [(a 0, .inr (11, [.ref (a 1), .ref (a 2), .ref (a 3), .ref (a 4), .ref (a 5), .ref (a 10), .ref (a 15), .ref (a 17), .null, .int 0, .int 0, .int 0])), (a 4, .inr (2, [.int 0, .ref E, .int 0]))]) [0, 1] (by decide) rfl
    have hFc := va_free (wc := [(a 0, .inr (11, [.ref (a 1), .ref (a 2), .ref (a 3), .ref (a 4), .ref (a 5), .ref (a 10), .ref (a 15), .ref (a 17), .null, .int 0, .int 0, .int 0])), (a 4, .inr (2, [.int 0, .ref E, .int 0]))]) hD hS hA [0, 1] rfl
    refine vx_callv (vx_runV (As := [.int p1]) (rest := []) ⟨hx, hb, hml, hown, hts⟩ (c_checkQuery l hlt D dA E a p1 H.size ) (cwV 1 hts (ga_V q225 q226 q223 q113 q224) rfl rfl rfl (by decide +kernel) ⟨(Nat.le_of_ble_eq_true rfl), (Nat.le_of_ble_eq_true rfl)⟩) ⟨pb_blind, va_recv hK hPc (ci := 11) (q0 := 0) rfl rfl, pb_pre hK hPc hDc hZ hS hFc _⟩ rfl rfl hl.1 rfl (lv_room (Nat.le_of_ble_eq_true rfl)) dX8_join_19 ⟨(Nat.le_of_ble_eq_true rfl), (Nat.le_of_ble_eq_true rfl)⟩) hS (fun q _ h => hFc q h) hFc (fun q _ h => hFc q h) (fun E9 ce q9 k t H1 locs ht hvm hpx hBX hz1 hk1 hS hce hcv hcl => ?_) (fun u t H1 locs ht hvm hw hB hz1 hk1 hS => ?_)
    · exact vx_out (fun x h => (htb x h).elim) hlocks hce hcv hcl (fun t1 ht1 hal => ⟨k, (Or.inr (⟨(by simp [inR, hB4]), hpx⟩)), hBX, hS.F ht1⟩) hS.2.2 (Nat.le_of_ble_eq_true rfl) (Nat.le_of_ble_eq_true rfl)
    · exact hw.elim
  · intro hB4
    obtain rfl : r1 = 0 := hw3.trans (by rw [hB4]; rfl)
    refine lv_if_ne (tgt := 17) hx hb dX8_join_4 (by decide) (fun c6 => absurd (by decide) c6) (fun _ => ?_)
    obtain ⟨sa, hstr7⟩ := hZ.1.2.2.2.2.1 ("TallowIndex", 241, "no such kind") (List.mem_of_getElem? (i := 18) rfl)
    exact vx_throwS (cls := "java/lang/IllegalArgumentException") (names := ["java/lang/RuntimeException", "java/lang/Exception"]) (own := RX8) hx hb hlt hown hFit_1 hFitN (hts _ q115) (hts _ q116) hstr7 (hat_RX8_61 hts hZ.1) hgd_RX8_61_57 hZ.2.1 hZ.2.2.1 hS (hl.1.trans hml.symm) dX8_join_7 dX8_join_10 dX8_join_11 dX8_join_13 dX8_join_16 (fun x h => (htb x h).elim) (Nat.le_of_ble_eq_true rfl) (Nat.le_of_ble_eq_true rfl) (Nat.le_of_ble_eq_true rfl) (Nat.le_of_ble_eq_true rfl) hlocks (fun t hal hz hk => ⟨1, (Or.inl (⟨(by simp [inR, hB4]), rfl⟩)), rfl, sF_t hS hz hk⟩) hS.2.2 (Nat.le_of_ble_eq_true rfl) (Nat.le_of_ble_eq_true rfl)

set_option maxHeartbeats 4000000 in
set_option maxRecDepth 100000 in
theorem c_X8_hits (l : Launch) (hlt : l.stackTraces = false) (D : va_G) (dA : Nat → ClassId) (E : Nat) (a : Nat → Nat) (p0 p1 : Int32) (sz : Nat)  : vx_Met l yX8_hits (wq (.code yX8_hits cX8_hits 3 (some .int))) { frames := 8, cells := 1, slots := 6, locals := 127 } (va_Pc [.ref (a 0), .int p0, .int p1] (PcB D dA E [(a 0, .inr (11, [.ref (a 1), .ref (a 2), .ref (a 3), .ref (a 4), .ref (a 5), .ref (a 10), .ref (a 15), .ref (a 17), .null, .int 0, .int 0, .int 0])), (a 3, .inr (2, [.int 0, .ref E, .int 0]))] sz)) (va_Qi (fun (r : Int32) (u : Unit) => False) (fun u t => True) (va_A [(a 0, .inr (11, [.ref (a 1), .ref (a 2), .ref (a 3), .ref (a 4), .ref (a 5), .ref (a 10), .ref (a 15), .ref (a 17), .null, .int 0, .int 0, .int 0])), (a 3, .inr (2, [.int 0, .ref E, .int 0]))] sz)) (vx_X (fun (k : Nat) => k = 2) (fun E9 k t => E9 = xN k) (va_A [(a 0, .inr (11, [.ref (a 1), .ref (a 2), .ref (a 3), .ref (a 4), .ref (a 5), .ref (a 10), .ref (a 15), .ref (a 17), .null, .int 0, .int 0, .int 0])), (a 3, .inr (2, [.int 0, .ref E, .int 0]))] sz)) 1 6 (va_A [(a 0, .inr (11, [.ref (a 1), .ref (a 2), .ref (a 3), .ref (a 4), .ref (a 5), .ref (a 10), .ref (a 15), .ref (a 17), .null, .int 0, .int 0, .int 0])), (a 3, .inr (2, [.int 0, .ref E, .int 0]))] sz) := by
  refine mx_of (Qc := fun A => va_Qi (fun (r : Int32) (u : Unit) => False) (fun u t => True) A) (XC := fun A => vx_X (fun (k : Nat) => k = 2) (fun E9 k t => E9 = xN k) A) RX8 rfl (by decide) (Nat.le_of_ble_eq_true rfl) ?_
  intro p e s m args below meth c hae hx hb hr hts hown hlocks hml hnm htb hP hK A hAe hD hZ hS hA ls hl
  have hl : lv_has ls 3 [(0, .ref (a 0)), (1, .int p0), (2, .int p1)] := hl
  refine lv_aload_n hx hb dX8_hits_0 rfl (lv_at hl 0 rfl) ?_
  refine lv_iload_n hx hb dX8_hits_1 rfl (lv_at hl 1 rfl) ?_
  refine lv_iload_n hx hb dX8_hits_2 rfl (lv_at hl 2 rfl) ?_
  have hPc := hP.sub (ws' := [(a 0, .inr (11, [.ref (a 1), .ref (a 2), .ref (a 3), .ref (a 4), .ref (a 5), .ref (a 10), .ref (a 15), .ref (a 17), .null, .int 0, .int 0, .int 0])), (a 3, .inr (2, [.int 0, .ref E, .int 0]))]) [0, 1] rfl
  have hDc := hD.sub (ws' := [(a 0, .inr (11, [.ref (a 1), .ref (a 2), .ref (a 3), .ref (a 4), .ref (a 5), .ref (a 10), .ref (a 15), .ref (a 17), .null, .int 0, .int 0, .int 0])), (a 3, .inr (2, [.int 0, .ref E, .int 0]))]) [0, 1] (by decide) rfl
  have hFc := va_free (wc := [(a 0, .inr (11, [.ref (a 1), .ref (a 2), .ref (a 3), .ref (a 4), .ref (a 5), .ref (a 10), .ref (a 15), .ref (a 17), .null, .int 0, .int 0, .int 0])), (a 3, .inr (2, [.int 0, .ref E, .int 0]))]) hD hS hA [0, 1] rfl
  refine vx_callr (vx_runV (As := [.int p0, .int p1]) (rest := []) ⟨hx, hb, hml, hown, hts⟩ (c_find l hlt D dA E a p0 p1 s.heap.size ) (cwV 2 hts (ga_V q229 q230 q227 q113 q228) rfl rfl rfl (by decide +kernel) ⟨(Nat.le_of_ble_eq_true rfl), (Nat.le_of_ble_eq_true rfl)⟩) ⟨pb_blind, va_recv hK hPc (ci := 11) (q0 := 0) rfl rfl, pb_pre hK hPc hDc hZ hS hFc _⟩ rfl rfl hl.1 rfl (lv_room (Nat.le_of_ble_eq_true rfl)) dX8_hits_3 ⟨(Nat.le_of_ble_eq_true rfl), (Nat.le_of_ble_eq_true rfl)⟩) hS (fun q _ h => hFc q h) hFc (fun q _ h => hFc q h) (fun E9 ce q9 k t H1 locs ht hvm hpx hBX hz1 hk1 hS hce hcv hcl => ?_) (fun u ra t H1 locs ht hvm hw hB hz1 hk1 hS => ?_)
  · exact vx_out (fun x h => (htb x h).elim) hlocks hce hcv hcl (fun t1 ht1 hal => ⟨k, (hpx), hBX, hS.F ht1⟩) hS.2.2 (Nat.le_of_ble_eq_true rfl) (Nat.le_of_ble_eq_true rfl)
  · exact hw.elim

set_option maxHeartbeats 4000000 in
set_option maxRecDepth 100000 in
theorem c_X8_hit (l : Launch) (hlt : l.stackTraces = false) (D : va_G) (dA : Nat → ClassId) (E : Nat) (a : Nat → Nat) (p0 p1 p2 : Int32) (sz : Nat)  : vx_Met l yX8_hit (wq (.code yX8_hit cX8_hit 4 (some .int))) { frames := 8, cells := 1, slots := 6, locals := 127 } (va_Pc [.ref (a 0), .int p0, .int p1, .int p2] (PcB D dA E [(a 0, .inr (11, [.ref (a 1), .ref (a 2), .ref (a 3), .ref (a 4), .ref (a 5), .ref (a 10), .ref (a 15), .ref (a 17), .null, .int 0, .int 0, .int 0])), (a 3, .inr (2, [.int 0, .ref E, .int 0]))] sz)) (va_Qi (fun (r : Int32) (u : Unit) => False) (fun u t => True) (va_A [(a 0, .inr (11, [.ref (a 1), .ref (a 2), .ref (a 3), .ref (a 4), .ref (a 5), .ref (a 10), .ref (a 15), .ref (a 17), .null, .int 0, .int 0, .int 0])), (a 3, .inr (2, [.int 0, .ref E, .int 0]))] sz)) (vx_X (fun (k : Nat) => k = 2) (fun E9 k t => E9 = xN k) (va_A [(a 0, .inr (11, [.ref (a 1), .ref (a 2), .ref (a 3), .ref (a 4), .ref (a 5), .ref (a 10), .ref (a 15), .ref (a 17), .null, .int 0, .int 0, .int 0])), (a 3, .inr (2, [.int 0, .ref E, .int 0]))] sz)) 1 6 (va_A [(a 0, .inr (11, [.ref (a 1), .ref (a 2), .ref (a 3), .ref (a 4), .ref (a 5), .ref (a 10), .ref (a 15), .ref (a 17), .null, .int 0, .int 0, .int 0])), (a 3, .inr (2, [.int 0, .ref E, .int 0]))] sz) := by
  refine mx_of (Qc := fun A => va_Qi (fun (r : Int32) (u : Unit) => False) (fun u t => True) A) (XC := fun A => vx_X (fun (k : Nat) => k = 2) (fun E9 k t => E9 = xN k) A) RX8 rfl (by decide) (Nat.le_of_ble_eq_true rfl) ?_
  intro p e s m args below meth c hae hx hb hr hts hown hlocks hml hnm htb hP hK A hAe hD hZ hS hA ls hl
  have hl : lv_has ls 4 [(0, .ref (a 0)), (1, .int p0), (2, .int p1), (3, .int p2)] := hl
  refine lv_aload_n hx hb dX8_hit_0 rfl (lv_at hl 0 rfl) ?_
  refine lv_iload_n hx hb dX8_hit_1 rfl (lv_at hl 1 rfl) ?_
  refine lv_iload_n hx hb dX8_hit_2 rfl (lv_at hl 2 rfl) ?_
  have hPc := hP.sub (ws' := [(a 0, .inr (11, [.ref (a 1), .ref (a 2), .ref (a 3), .ref (a 4), .ref (a 5), .ref (a 10), .ref (a 15), .ref (a 17), .null, .int 0, .int 0, .int 0])), (a 3, .inr (2, [.int 0, .ref E, .int 0]))]) [0, 1] rfl
  have hDc := hD.sub (ws' := [(a 0, .inr (11, [.ref (a 1), .ref (a 2), .ref (a 3), .ref (a 4), .ref (a 5), .ref (a 10), .ref (a 15), .ref (a 17), .null, .int 0, .int 0, .int 0])), (a 3, .inr (2, [.int 0, .ref E, .int 0]))]) [0, 1] (by decide) rfl
  have hFc := va_free (wc := [(a 0, .inr (11, [.ref (a 1), .ref (a 2), .ref (a 3), .ref (a 4), .ref (a 5), .ref (a 10), .ref (a 15), .ref (a 17), .null, .int 0, .int 0, .int 0])), (a 3, .inr (2, [.int 0, .ref E, .int 0]))]) hD hS hA [0, 1] rfl
  refine vx_callr (vx_runV (As := [.int p0, .int p1]) (rest := []) ⟨hx, hb, hml, hown, hts⟩ (c_find l hlt D dA E a p0 p1 s.heap.size ) (cwV 2 hts (ga_V q229 q230 q227 q113 q228) rfl rfl rfl (by decide +kernel) ⟨(Nat.le_of_ble_eq_true rfl), (Nat.le_of_ble_eq_true rfl)⟩) ⟨pb_blind, va_recv hK hPc (ci := 11) (q0 := 0) rfl rfl, pb_pre hK hPc hDc hZ hS hFc _⟩ rfl rfl hl.1 rfl (lv_room (Nat.le_of_ble_eq_true rfl)) dX8_hit_3 ⟨(Nat.le_of_ble_eq_true rfl), (Nat.le_of_ble_eq_true rfl)⟩) hS (fun q _ h => hFc q h) hFc (fun q _ h => hFc q h) (fun E9 ce q9 k t H1 locs ht hvm hpx hBX hz1 hk1 hS hce hcv hcl => ?_) (fun u ra t H1 locs ht hvm hw hB hz1 hk1 hS => ?_)
  · exact vx_out (fun x h => (htb x h).elim) hlocks hce hcv hcl (fun t1 ht1 hal => ⟨k, (hpx), hBX, hS.F ht1⟩) hS.2.2 (Nat.le_of_ble_eq_true rfl) (Nat.le_of_ble_eq_true rfl)
  · exact hw.elim

set_option maxHeartbeats 4000000 in
set_option maxRecDepth 100000 in
theorem c_X8_score (l : Launch) (hlt : l.stackTraces = false) (D : va_G) (dA : Nat → ClassId) (E : Nat) (a : Nat → Nat) (p0 p1 p2 : Int32) (sz : Nat)  : vx_Met l yX8_score (wq (.code yX8_score cX8_score 4 (some .long))) { frames := 8, cells := 1, slots := 6, locals := 127 } (va_Pc [.ref (a 0), .int p0, .int p1, .int p2] (PcB D dA E [(a 0, .inr (11, [.ref (a 1), .ref (a 2), .ref (a 3), .ref (a 4), .ref (a 5), .ref (a 10), .ref (a 15), .ref (a 17), .null, .int 0, .int 0, .int 0])), (a 3, .inr (2, [.int 0, .ref E, .int 0]))] sz)) (va_Ql (fun (r : Int64) (u : Unit) => False) (fun u t => True) (va_A [(a 0, .inr (11, [.ref (a 1), .ref (a 2), .ref (a 3), .ref (a 4), .ref (a 5), .ref (a 10), .ref (a 15), .ref (a 17), .null, .int 0, .int 0, .int 0])), (a 3, .inr (2, [.int 0, .ref E, .int 0]))] sz)) (vx_X (fun (k : Nat) => k = 2) (fun E9 k t => E9 = xN k) (va_A [(a 0, .inr (11, [.ref (a 1), .ref (a 2), .ref (a 3), .ref (a 4), .ref (a 5), .ref (a 10), .ref (a 15), .ref (a 17), .null, .int 0, .int 0, .int 0])), (a 3, .inr (2, [.int 0, .ref E, .int 0]))] sz)) 1 6 (va_A [(a 0, .inr (11, [.ref (a 1), .ref (a 2), .ref (a 3), .ref (a 4), .ref (a 5), .ref (a 10), .ref (a 15), .ref (a 17), .null, .int 0, .int 0, .int 0])), (a 3, .inr (2, [.int 0, .ref E, .int 0]))] sz) := by
  refine mx_of (Qc := fun A => va_Ql (fun (r : Int64) (u : Unit) => False) (fun u t => True) A) (XC := fun A => vx_X (fun (k : Nat) => k = 2) (fun E9 k t => E9 = xN k) A) RX8 rfl (by decide) (Nat.le_of_ble_eq_true rfl) ?_
  intro p e s m args below meth c hae hx hb hr hts hown hlocks hml hnm htb hP hK A hAe hD hZ hS hA ls hl
  have hl : lv_has ls 4 [(0, .ref (a 0)), (1, .int p0), (2, .int p1), (3, .int p2)] := hl
  refine lv_aload_n hx hb dX8_score_0 rfl (lv_at hl 0 rfl) ?_
  refine lv_iload_n hx hb dX8_score_1 rfl (lv_at hl 1 rfl) ?_
  refine lv_iload_n hx hb dX8_score_2 rfl (lv_at hl 2 rfl) ?_
  have hPc := hP.sub (ws' := [(a 0, .inr (11, [.ref (a 1), .ref (a 2), .ref (a 3), .ref (a 4), .ref (a 5), .ref (a 10), .ref (a 15), .ref (a 17), .null, .int 0, .int 0, .int 0])), (a 3, .inr (2, [.int 0, .ref E, .int 0]))]) [0, 1] rfl
  have hDc := hD.sub (ws' := [(a 0, .inr (11, [.ref (a 1), .ref (a 2), .ref (a 3), .ref (a 4), .ref (a 5), .ref (a 10), .ref (a 15), .ref (a 17), .null, .int 0, .int 0, .int 0])), (a 3, .inr (2, [.int 0, .ref E, .int 0]))]) [0, 1] (by decide) rfl
  have hFc := va_free (wc := [(a 0, .inr (11, [.ref (a 1), .ref (a 2), .ref (a 3), .ref (a 4), .ref (a 5), .ref (a 10), .ref (a 15), .ref (a 17), .null, .int 0, .int 0, .int 0])), (a 3, .inr (2, [.int 0, .ref E, .int 0]))]) hD hS hA [0, 1] rfl
  refine vx_callr (vx_runV (As := [.int p0, .int p1]) (rest := []) ⟨hx, hb, hml, hown, hts⟩ (c_find l hlt D dA E a p0 p1 s.heap.size ) (cwV 2 hts (ga_V q229 q230 q227 q113 q228) rfl rfl rfl (by decide +kernel) ⟨(Nat.le_of_ble_eq_true rfl), (Nat.le_of_ble_eq_true rfl)⟩) ⟨pb_blind, va_recv hK hPc (ci := 11) (q0 := 0) rfl rfl, pb_pre hK hPc hDc hZ hS hFc _⟩ rfl rfl hl.1 rfl (lv_room (Nat.le_of_ble_eq_true rfl)) dX8_score_3 ⟨(Nat.le_of_ble_eq_true rfl), (Nat.le_of_ble_eq_true rfl)⟩) hS (fun q _ h => hFc q h) hFc (fun q _ h => hFc q h) (fun E9 ce q9 k t H1 locs ht hvm hpx hBX hz1 hk1 hS hce hcv hcl => ?_) (fun u ra t H1 locs ht hvm hw hB hz1 hk1 hS => ?_)
  · exact vx_out (fun x h => (htb x h).elim) hlocks hce hcv hcl (fun t1 ht1 hal => ⟨k, (hpx), hBX, hS.F ht1⟩) hS.2.2 (Nat.le_of_ble_eq_true rfl) (Nat.le_of_ble_eq_true rfl)
  · exact hw.elim

set_option maxHeartbeats 4000000 in
set_option maxRecDepth 100000 in
theorem c_X8_scoreAlone (l : Launch) (hlt : l.stackTraces = false) (D : va_G) (dA : Nat → ClassId) (E : Nat) (a : Nat → Nat) (p0 p1 p2 : Int32) (sz : Nat)  : vx_Met l yX8_scoreAlone (wq (.code yX8_scoreAlone cX8_scoreAlone 4 (some .long))) { frames := 8, cells := 1, slots := 6, locals := 127 } (va_Pc [.ref (a 0), .int p0, .int p1, .int p2] (PcB D dA E [(a 0, .inr (11, [.ref (a 1), .ref (a 2), .ref (a 3), .ref (a 4), .ref (a 5), .ref (a 10), .ref (a 15), .ref (a 17), .null, .int 0, .int 0, .int 0])), (a 3, .inr (2, [.int 0, .ref E, .int 0]))] sz)) (va_Ql (fun (r : Int64) (u : Unit) => False) (fun u t => True) (va_A [(a 0, .inr (11, [.ref (a 1), .ref (a 2), .ref (a 3), .ref (a 4), .ref (a 5), .ref (a 10), .ref (a 15), .ref (a 17), .null, .int 0, .int 0, .int 0])), (a 3, .inr (2, [.int 0, .ref E, .int 0]))] sz)) (vx_X (fun (k : Nat) => k = 2) (fun E9 k t => E9 = xN k) (va_A [(a 0, .inr (11, [.ref (a 1), .ref (a 2), .ref (a 3), .ref (a 4), .ref (a 5), .ref (a 10), .ref (a 15), .ref (a 17), .null, .int 0, .int 0, .int 0])), (a 3, .inr (2, [.int 0, .ref E, .int 0]))] sz)) 1 6 (va_A [(a 0, .inr (11, [.ref (a 1), .ref (a 2), .ref (a 3), .ref (a 4), .ref (a 5), .ref (a 10), .ref (a 15), .ref (a 17), .null, .int 0, .int 0, .int 0])), (a 3, .inr (2, [.int 0, .ref E, .int 0]))] sz) := by
  refine mx_of (Qc := fun A => va_Ql (fun (r : Int64) (u : Unit) => False) (fun u t => True) A) (XC := fun A => vx_X (fun (k : Nat) => k = 2) (fun E9 k t => E9 = xN k) A) RX8 rfl (by decide) (Nat.le_of_ble_eq_true rfl) ?_
  intro p e s m args below meth c hae hx hb hr hts hown hlocks hml hnm htb hP hK A hAe hD hZ hS hA ls hl
  have hl : lv_has ls 4 [(0, .ref (a 0)), (1, .int p0), (2, .int p1), (3, .int p2)] := hl
  refine lv_aload_n hx hb dX8_scoreAlone_0 rfl (lv_at hl 0 rfl) ?_
  refine lv_iload_n hx hb dX8_scoreAlone_1 rfl (lv_at hl 1 rfl) ?_
  refine lv_iload_n hx hb dX8_scoreAlone_2 rfl (lv_at hl 2 rfl) ?_
  have hPc := hP.sub (ws' := [(a 0, .inr (11, [.ref (a 1), .ref (a 2), .ref (a 3), .ref (a 4), .ref (a 5), .ref (a 10), .ref (a 15), .ref (a 17), .null, .int 0, .int 0, .int 0])), (a 3, .inr (2, [.int 0, .ref E, .int 0]))]) [0, 1] rfl
  have hDc := hD.sub (ws' := [(a 0, .inr (11, [.ref (a 1), .ref (a 2), .ref (a 3), .ref (a 4), .ref (a 5), .ref (a 10), .ref (a 15), .ref (a 17), .null, .int 0, .int 0, .int 0])), (a 3, .inr (2, [.int 0, .ref E, .int 0]))]) [0, 1] (by decide) rfl
  have hFc := va_free (wc := [(a 0, .inr (11, [.ref (a 1), .ref (a 2), .ref (a 3), .ref (a 4), .ref (a 5), .ref (a 10), .ref (a 15), .ref (a 17), .null, .int 0, .int 0, .int 0])), (a 3, .inr (2, [.int 0, .ref E, .int 0]))]) hD hS hA [0, 1] rfl
  refine vx_callr (vx_runV (As := [.int p0, .int p1]) (rest := []) ⟨hx, hb, hml, hown, hts⟩ (c_find l hlt D dA E a p0 p1 s.heap.size ) (cwV 2 hts (ga_V q229 q230 q227 q113 q228) rfl rfl rfl (by decide +kernel) ⟨(Nat.le_of_ble_eq_true rfl), (Nat.le_of_ble_eq_true rfl)⟩) ⟨pb_blind, va_recv hK hPc (ci := 11) (q0 := 0) rfl rfl, pb_pre hK hPc hDc hZ hS hFc _⟩ rfl rfl hl.1 rfl (lv_room (Nat.le_of_ble_eq_true rfl)) dX8_scoreAlone_3 ⟨(Nat.le_of_ble_eq_true rfl), (Nat.le_of_ble_eq_true rfl)⟩) hS (fun q _ h => hFc q h) hFc (fun q _ h => hFc q h) (fun E9 ce q9 k t H1 locs ht hvm hpx hBX hz1 hk1 hS hce hcv hcl => ?_) (fun u ra t H1 locs ht hvm hw hB hz1 hk1 hS => ?_)
  · exact vx_out (fun x h => (htb x h).elim) hlocks hce hcv hcl (fun t1 ht1 hal => ⟨k, (hpx), hBX, hS.F ht1⟩) hS.2.2 (Nat.le_of_ble_eq_true rfl) (Nat.le_of_ble_eq_true rfl)
  · exact hw.elim

set_option maxHeartbeats 4000000 in
set_option maxRecDepth 100000 in
theorem c_X8_tagged (l : Launch) (hlt : l.stackTraces = false) (D : va_G) (dA : Nat → ClassId) (E : Nat) (a : Nat → Nat) (p0 p1 p2 : Int32) (sz : Nat)  : vx_Met l yX8_tagged (wq (.code yX8_tagged cX8_tagged 6 (some .int))) { frames := 8, cells := 1, slots := 6, locals := 127 } (va_Pc [.ref (a 0), .int p0, .int p1, .int p2] (PcB D dA E [(a 0, .inr (11, [.ref (a 1), .ref (a 2), .ref (a 3), .ref (a 4), .ref (a 5), .ref (a 10), .ref (a 15), .ref (a 17), .null, .int 0, .int 0, .int 0])), (a 3, .inr (2, [.int 0, .ref E, .int 0]))] sz)) (va_Qi (fun (r : Int32) (u : Unit) => False) (fun u t => True) (va_A [(a 0, .inr (11, [.ref (a 1), .ref (a 2), .ref (a 3), .ref (a 4), .ref (a 5), .ref (a 10), .ref (a 15), .ref (a 17), .null, .int 0, .int 0, .int 0])), (a 3, .inr (2, [.int 0, .ref E, .int 0]))] sz)) (vx_X (fun (k : Nat) => k = 2) (fun E9 k t => E9 = xN k) (va_A [(a 0, .inr (11, [.ref (a 1), .ref (a 2), .ref (a 3), .ref (a 4), .ref (a 5), .ref (a 10), .ref (a 15), .ref (a 17), .null, .int 0, .int 0, .int 0])), (a 3, .inr (2, [.int 0, .ref E, .int 0]))] sz)) 1 6 (va_A [(a 0, .inr (11, [.ref (a 1), .ref (a 2), .ref (a 3), .ref (a 4), .ref (a 5), .ref (a 10), .ref (a 15), .ref (a 17), .null, .int 0, .int 0, .int 0])), (a 3, .inr (2, [.int 0, .ref E, .int 0]))] sz) := by
  refine mx_of (Qc := fun A => va_Qi (fun (r : Int32) (u : Unit) => False) (fun u t => True) A) (XC := fun A => vx_X (fun (k : Nat) => k = 2) (fun E9 k t => E9 = xN k) A) RX8 rfl (by decide) (Nat.le_of_ble_eq_true rfl) ?_
  intro p e s m args below meth c hae hx hb hr hts hown hlocks hml hnm htb hP hK A hAe hD hZ hS hA ls hl
  have hl : lv_has ls 6 [(0, .ref (a 0)), (1, .int p0), (2, .int p1), (3, .int p2)] := hl
  refine lv_aload_n hx hb dX8_tagged_0 rfl (lv_at hl 0 rfl) ?_
  refine lv_iload_n hx hb dX8_tagged_1 rfl (lv_at hl 1 rfl) ?_
  refine lv_iload_n hx hb dX8_tagged_2 rfl (lv_at hl 2 rfl) ?_
  have hPc := hP.sub (ws' := [(a 0, .inr (11, [.ref (a 1), .ref (a 2), .ref (a 3), .ref (a 4), .ref (a 5), .ref (a 10), .ref (a 15), .ref (a 17), .null, .int 0, .int 0, .int 0])), (a 3, .inr (2, [.int 0, .ref E, .int 0]))]) [0, 1] rfl
  have hDc := hD.sub (ws' := [(a 0, .inr (11, [.ref (a 1), .ref (a 2), .ref (a 3), .ref (a 4), .ref (a 5), .ref (a 10), .ref (a 15), .ref (a 17), .null, .int 0, .int 0, .int 0])), (a 3, .inr (2, [.int 0, .ref E, .int 0]))]) [0, 1] (by decide) rfl
  have hFc := va_free (wc := [(a 0, .inr (11, [.ref (a 1), .ref (a 2), .ref (a 3), .ref (a 4), .ref (a 5), .ref (a 10), .ref (a 15), .ref (a 17), .null, .int 0, .int 0, .int 0])), (a 3, .inr (2, [.int 0, .ref E, .int 0]))]) hD hS hA [0, 1] rfl
  refine vx_callr (vx_runV (As := [.int p0, .int p1]) (rest := []) ⟨hx, hb, hml, hown, hts⟩ (c_find l hlt D dA E a p0 p1 s.heap.size ) (cwV 2 hts (ga_V q229 q230 q227 q113 q228) rfl rfl rfl (by decide +kernel) ⟨(Nat.le_of_ble_eq_true rfl), (Nat.le_of_ble_eq_true rfl)⟩) ⟨pb_blind, va_recv hK hPc (ci := 11) (q0 := 0) rfl rfl, pb_pre hK hPc hDc hZ hS hFc _⟩ rfl rfl hl.1 rfl (lv_room (Nat.le_of_ble_eq_true rfl)) dX8_tagged_3 ⟨(Nat.le_of_ble_eq_true rfl), (Nat.le_of_ble_eq_true rfl)⟩) hS (fun q _ h => hFc q h) hFc (fun q _ h => hFc q h) (fun E9 ce q9 k t H1 locs ht hvm hpx hBX hz1 hk1 hS hce hcv hcl => ?_) (fun u ra t H1 locs ht hvm hw hB hz1 hk1 hS => ?_)
  · exact vx_out (fun x h => (htb x h).elim) hlocks hce hcv hcl (fun t1 ht1 hal => ⟨k, (hpx), hBX, hS.F ht1⟩) hS.2.2 (Nat.le_of_ble_eq_true rfl) (Nat.le_of_ble_eq_true rfl)
  · exact hw.elim

set_option maxHeartbeats 4000000 in
set_option maxRecDepth 100000 in
theorem c_X8_firstTagged (l : Launch) (hlt : l.stackTraces = false) (D : va_G) (dA : Nat → ClassId) (E : Nat) (a : Nat → Nat) (p0 p1 p2 : Int32) (sz : Nat)  : vx_Met l yX8_firstTagged (wq (.code yX8_firstTagged cX8_firstTagged 5 (some .int))) { frames := 8, cells := 1, slots := 6, locals := 127 } (va_Pc [.ref (a 0), .int p0, .int p1, .int p2] (PcB D dA E [(a 0, .inr (11, [.ref (a 1), .ref (a 2), .ref (a 3), .ref (a 4), .ref (a 5), .ref (a 10), .ref (a 15), .ref (a 17), .null, .int 0, .int 0, .int 0])), (a 3, .inr (2, [.int 0, .ref E, .int 0]))] sz)) (va_Qi (fun (r : Int32) (u : Unit) => False) (fun u t => True) (va_A [(a 0, .inr (11, [.ref (a 1), .ref (a 2), .ref (a 3), .ref (a 4), .ref (a 5), .ref (a 10), .ref (a 15), .ref (a 17), .null, .int 0, .int 0, .int 0])), (a 3, .inr (2, [.int 0, .ref E, .int 0]))] sz)) (vx_X (fun (k : Nat) => k = 2) (fun E9 k t => E9 = xN k) (va_A [(a 0, .inr (11, [.ref (a 1), .ref (a 2), .ref (a 3), .ref (a 4), .ref (a 5), .ref (a 10), .ref (a 15), .ref (a 17), .null, .int 0, .int 0, .int 0])), (a 3, .inr (2, [.int 0, .ref E, .int 0]))] sz)) 1 6 (va_A [(a 0, .inr (11, [.ref (a 1), .ref (a 2), .ref (a 3), .ref (a 4), .ref (a 5), .ref (a 10), .ref (a 15), .ref (a 17), .null, .int 0, .int 0, .int 0])), (a 3, .inr (2, [.int 0, .ref E, .int 0]))] sz) := by
  refine mx_of (Qc := fun A => va_Qi (fun (r : Int32) (u : Unit) => False) (fun u t => True) A) (XC := fun A => vx_X (fun (k : Nat) => k = 2) (fun E9 k t => E9 = xN k) A) RX8 rfl (by decide) (Nat.le_of_ble_eq_true rfl) ?_
  intro p e s m args below meth c hae hx hb hr hts hown hlocks hml hnm htb hP hK A hAe hD hZ hS hA ls hl
  have hl : lv_has ls 5 [(0, .ref (a 0)), (1, .int p0), (2, .int p1), (3, .int p2)] := hl
  refine lv_aload_n hx hb dX8_firstTagged_0 rfl (lv_at hl 0 rfl) ?_
  refine lv_iload_n hx hb dX8_firstTagged_1 rfl (lv_at hl 1 rfl) ?_
  refine lv_iload_n hx hb dX8_firstTagged_2 rfl (lv_at hl 2 rfl) ?_
  have hPc := hP.sub (ws' := [(a 0, .inr (11, [.ref (a 1), .ref (a 2), .ref (a 3), .ref (a 4), .ref (a 5), .ref (a 10), .ref (a 15), .ref (a 17), .null, .int 0, .int 0, .int 0])), (a 3, .inr (2, [.int 0, .ref E, .int 0]))]) [0, 1] rfl
  have hDc := hD.sub (ws' := [(a 0, .inr (11, [.ref (a 1), .ref (a 2), .ref (a 3), .ref (a 4), .ref (a 5), .ref (a 10), .ref (a 15), .ref (a 17), .null, .int 0, .int 0, .int 0])), (a 3, .inr (2, [.int 0, .ref E, .int 0]))]) [0, 1] (by decide) rfl
  have hFc := va_free (wc := [(a 0, .inr (11, [.ref (a 1), .ref (a 2), .ref (a 3), .ref (a 4), .ref (a 5), .ref (a 10), .ref (a 15), .ref (a 17), .null, .int 0, .int 0, .int 0])), (a 3, .inr (2, [.int 0, .ref E, .int 0]))]) hD hS hA [0, 1] rfl
  refine vx_callr (vx_runV (As := [.int p0, .int p1]) (rest := []) ⟨hx, hb, hml, hown, hts⟩ (c_find l hlt D dA E a p0 p1 s.heap.size ) (cwV 2 hts (ga_V q229 q230 q227 q113 q228) rfl rfl rfl (by decide +kernel) ⟨(Nat.le_of_ble_eq_true rfl), (Nat.le_of_ble_eq_true rfl)⟩) ⟨pb_blind, va_recv hK hPc (ci := 11) (q0 := 0) rfl rfl, pb_pre hK hPc hDc hZ hS hFc _⟩ rfl rfl hl.1 rfl (lv_room (Nat.le_of_ble_eq_true rfl)) dX8_firstTagged_3 ⟨(Nat.le_of_ble_eq_true rfl), (Nat.le_of_ble_eq_true rfl)⟩) hS (fun q _ h => hFc q h) hFc (fun q _ h => hFc q h) (fun E9 ce q9 k t H1 locs ht hvm hpx hBX hz1 hk1 hS hce hcv hcl => ?_) (fun u ra t H1 locs ht hvm hw hB hz1 hk1 hS => ?_)
  · exact vx_out (fun x h => (htb x h).elim) hlocks hce hcv hcl (fun t1 ht1 hal => ⟨k, (hpx), hBX, hS.F ht1⟩) hS.2.2 (Nat.le_of_ble_eq_true rfl) (Nat.le_of_ble_eq_true rfl)
  · exact hw.elim

set_option maxHeartbeats 4000000 in
set_option maxRecDepth 100000 in
theorem c_X8_wholes (l : Launch) (hlt : l.stackTraces = false) (D : va_G) (dA : Nat → ClassId) (E : Nat) (a : Nat → Nat) (p0 p1 : Int32) (sz : Nat)  : vx_Met l yX8_wholes (wq (.code yX8_wholes cX8_wholes 6 (some .int))) { frames := 8, cells := 1, slots := 6, locals := 127 } (va_Pc [.ref (a 0), .int p0, .int p1] (PcB D dA E [(a 0, .inr (11, [.ref (a 1), .ref (a 2), .ref (a 3), .ref (a 4), .ref (a 5), .ref (a 10), .ref (a 15), .ref (a 17), .null, .int 0, .int 0, .int 0])), (a 3, .inr (2, [.int 0, .ref E, .int 0]))] sz)) (va_Qi (fun (r : Int32) (u : Unit) => False) (fun u t => True) (va_A [(a 0, .inr (11, [.ref (a 1), .ref (a 2), .ref (a 3), .ref (a 4), .ref (a 5), .ref (a 10), .ref (a 15), .ref (a 17), .null, .int 0, .int 0, .int 0])), (a 3, .inr (2, [.int 0, .ref E, .int 0]))] sz)) (vx_X (fun (k : Nat) => k = 2) (fun E9 k t => E9 = xN k) (va_A [(a 0, .inr (11, [.ref (a 1), .ref (a 2), .ref (a 3), .ref (a 4), .ref (a 5), .ref (a 10), .ref (a 15), .ref (a 17), .null, .int 0, .int 0, .int 0])), (a 3, .inr (2, [.int 0, .ref E, .int 0]))] sz)) 1 6 (va_A [(a 0, .inr (11, [.ref (a 1), .ref (a 2), .ref (a 3), .ref (a 4), .ref (a 5), .ref (a 10), .ref (a 15), .ref (a 17), .null, .int 0, .int 0, .int 0])), (a 3, .inr (2, [.int 0, .ref E, .int 0]))] sz) := by
  refine mx_of (Qc := fun A => va_Qi (fun (r : Int32) (u : Unit) => False) (fun u t => True) A) (XC := fun A => vx_X (fun (k : Nat) => k = 2) (fun E9 k t => E9 = xN k) A) RX8 rfl (by decide) (Nat.le_of_ble_eq_true rfl) ?_
  intro p e s m args below meth c hae hx hb hr hts hown hlocks hml hnm htb hP hK A hAe hD hZ hS hA ls hl
  have hl : lv_has ls 6 [(0, .ref (a 0)), (1, .int p0), (2, .int p1)] := hl
  refine lv_aload_n hx hb dX8_wholes_0 rfl (lv_at hl 0 rfl) ?_
  refine lv_iload_n hx hb dX8_wholes_1 rfl (lv_at hl 1 rfl) ?_
  refine lv_iload_n hx hb dX8_wholes_2 rfl (lv_at hl 2 rfl) ?_
  have hPc := hP.sub (ws' := [(a 0, .inr (11, [.ref (a 1), .ref (a 2), .ref (a 3), .ref (a 4), .ref (a 5), .ref (a 10), .ref (a 15), .ref (a 17), .null, .int 0, .int 0, .int 0])), (a 3, .inr (2, [.int 0, .ref E, .int 0]))]) [0, 1] rfl
  have hDc := hD.sub (ws' := [(a 0, .inr (11, [.ref (a 1), .ref (a 2), .ref (a 3), .ref (a 4), .ref (a 5), .ref (a 10), .ref (a 15), .ref (a 17), .null, .int 0, .int 0, .int 0])), (a 3, .inr (2, [.int 0, .ref E, .int 0]))]) [0, 1] (by decide) rfl
  have hFc := va_free (wc := [(a 0, .inr (11, [.ref (a 1), .ref (a 2), .ref (a 3), .ref (a 4), .ref (a 5), .ref (a 10), .ref (a 15), .ref (a 17), .null, .int 0, .int 0, .int 0])), (a 3, .inr (2, [.int 0, .ref E, .int 0]))]) hD hS hA [0, 1] rfl
  refine vx_callr (vx_runV (As := [.int p0, .int p1]) (rest := []) ⟨hx, hb, hml, hown, hts⟩ (c_find l hlt D dA E a p0 p1 s.heap.size ) (cwV 2 hts (ga_V q229 q230 q227 q113 q228) rfl rfl rfl (by decide +kernel) ⟨(Nat.le_of_ble_eq_true rfl), (Nat.le_of_ble_eq_true rfl)⟩) ⟨pb_blind, va_recv hK hPc (ci := 11) (q0 := 0) rfl rfl, pb_pre hK hPc hDc hZ hS hFc _⟩ rfl rfl hl.1 rfl (lv_room (Nat.le_of_ble_eq_true rfl)) dX8_wholes_3 ⟨(Nat.le_of_ble_eq_true rfl), (Nat.le_of_ble_eq_true rfl)⟩) hS (fun q _ h => hFc q h) hFc (fun q _ h => hFc q h) (fun E9 ce q9 k t H1 locs ht hvm hpx hBX hz1 hk1 hS hce hcv hcl => ?_) (fun u ra t H1 locs ht hvm hw hB hz1 hk1 hS => ?_)
  · exact vx_out (fun x h => (htb x h).elim) hlocks hce hcv hcl (fun t1 ht1 hal => ⟨k, (hpx), hBX, hS.F ht1⟩) hS.2.2 (Nat.le_of_ble_eq_true rfl) (Nat.le_of_ble_eq_true rfl)
  · exact hw.elim

set_option maxHeartbeats 4000000 in
set_option maxRecDepth 100000 in
theorem c_X8_wholeScore (l : Launch) (hlt : l.stackTraces = false) (D : va_G) (dA : Nat → ClassId) (E : Nat) (a : Nat → Nat) (p0 p1 p2 : Int32) (sz : Nat)  : vx_Met l yX8_wholeScore (wq (.code yX8_wholeScore cX8_wholeScore 5 (some .long))) { frames := 8, cells := 1, slots := 6, locals := 127 } (va_Pc [.ref (a 0), .int p0, .int p1, .int p2] (PcB D dA E [(a 0, .inr (11, [.ref (a 1), .ref (a 2), .ref (a 3), .ref (a 4), .ref (a 5), .ref (a 10), .ref (a 15), .ref (a 17), .null, .int 0, .int 0, .int 0])), (a 3, .inr (2, [.int 0, .ref E, .int 0]))] sz)) (va_Ql (fun (r : Int64) (u : Unit) => False) (fun u t => True) (va_A [(a 0, .inr (11, [.ref (a 1), .ref (a 2), .ref (a 3), .ref (a 4), .ref (a 5), .ref (a 10), .ref (a 15), .ref (a 17), .null, .int 0, .int 0, .int 0])), (a 3, .inr (2, [.int 0, .ref E, .int 0]))] sz)) (vx_X (fun (k : Nat) => k = 2) (fun E9 k t => E9 = xN k) (va_A [(a 0, .inr (11, [.ref (a 1), .ref (a 2), .ref (a 3), .ref (a 4), .ref (a 5), .ref (a 10), .ref (a 15), .ref (a 17), .null, .int 0, .int 0, .int 0])), (a 3, .inr (2, [.int 0, .ref E, .int 0]))] sz)) 1 6 (va_A [(a 0, .inr (11, [.ref (a 1), .ref (a 2), .ref (a 3), .ref (a 4), .ref (a 5), .ref (a 10), .ref (a 15), .ref (a 17), .null, .int 0, .int 0, .int 0])), (a 3, .inr (2, [.int 0, .ref E, .int 0]))] sz) := by
  refine mx_of (Qc := fun A => va_Ql (fun (r : Int64) (u : Unit) => False) (fun u t => True) A) (XC := fun A => vx_X (fun (k : Nat) => k = 2) (fun E9 k t => E9 = xN k) A) RX8 rfl (by decide) (Nat.le_of_ble_eq_true rfl) ?_
  intro p e s m args below meth c hae hx hb hr hts hown hlocks hml hnm htb hP hK A hAe hD hZ hS hA ls hl
  have hl : lv_has ls 5 [(0, .ref (a 0)), (1, .int p0), (2, .int p1), (3, .int p2)] := hl
  refine lv_aload_n hx hb dX8_wholeScore_0 rfl (lv_at hl 0 rfl) ?_
  refine lv_iload_n hx hb dX8_wholeScore_1 rfl (lv_at hl 1 rfl) ?_
  refine lv_iload_n hx hb dX8_wholeScore_2 rfl (lv_at hl 2 rfl) ?_
  have hPc := hP.sub (ws' := [(a 0, .inr (11, [.ref (a 1), .ref (a 2), .ref (a 3), .ref (a 4), .ref (a 5), .ref (a 10), .ref (a 15), .ref (a 17), .null, .int 0, .int 0, .int 0])), (a 3, .inr (2, [.int 0, .ref E, .int 0]))]) [0, 1] rfl
  have hDc := hD.sub (ws' := [(a 0, .inr (11, [.ref (a 1), .ref (a 2), .ref (a 3), .ref (a 4), .ref (a 5), .ref (a 10), .ref (a 15), .ref (a 17), .null, .int 0, .int 0, .int 0])), (a 3, .inr (2, [.int 0, .ref E, .int 0]))]) [0, 1] (by decide) rfl
  have hFc := va_free (wc := [(a 0, .inr (11, [.ref (a 1), .ref (a 2), .ref (a 3), .ref (a 4), .ref (a 5), .ref (a 10), .ref (a 15), .ref (a 17), .null, .int 0, .int 0, .int 0])), (a 3, .inr (2, [.int 0, .ref E, .int 0]))]) hD hS hA [0, 1] rfl
  refine vx_callr (vx_runV (As := [.int p0, .int p1]) (rest := []) ⟨hx, hb, hml, hown, hts⟩ (c_find l hlt D dA E a p0 p1 s.heap.size ) (cwV 2 hts (ga_V q229 q230 q227 q113 q228) rfl rfl rfl (by decide +kernel) ⟨(Nat.le_of_ble_eq_true rfl), (Nat.le_of_ble_eq_true rfl)⟩) ⟨pb_blind, va_recv hK hPc (ci := 11) (q0 := 0) rfl rfl, pb_pre hK hPc hDc hZ hS hFc _⟩ rfl rfl hl.1 rfl (lv_room (Nat.le_of_ble_eq_true rfl)) dX8_wholeScore_3 ⟨(Nat.le_of_ble_eq_true rfl), (Nat.le_of_ble_eq_true rfl)⟩) hS (fun q _ h => hFc q h) hFc (fun q _ h => hFc q h) (fun E9 ce q9 k t H1 locs ht hvm hpx hBX hz1 hk1 hS hce hcv hcl => ?_) (fun u ra t H1 locs ht hvm hw hB hz1 hk1 hS => ?_)
  · exact vx_out (fun x h => (htb x h).elim) hlocks hce hcv hcl (fun t1 ht1 hal => ⟨k, (hpx), hBX, hS.F ht1⟩) hS.2.2 (Nat.le_of_ble_eq_true rfl) (Nat.le_of_ble_eq_true rfl)
  · exact hw.elim

set_option maxHeartbeats 4000000 in
set_option maxRecDepth 100000 in
theorem c_X8_turned (l : Launch) (hlt : l.stackTraces = false) (D : va_G) (dA : Nat → ClassId) (E : Nat) (a : Nat → Nat) (p0 p1 : Int32) (sz : Nat)  : vx_Met l yX8_turned (wq (.code yX8_turned cX8_turned 6 (some .int))) { frames := 8, cells := 1, slots := 6, locals := 127 } (va_Pc [.ref (a 0), .int p0, .int p1] (PcB D dA E [(a 0, .inr (11, [.ref (a 1), .ref (a 2), .ref (a 3), .ref (a 4), .ref (a 5), .ref (a 10), .ref (a 15), .ref (a 17), .null, .int 0, .int 0, .int 0])), (a 3, .inr (2, [.int 0, .ref E, .int 0]))] sz)) (va_Qi (fun (r : Int32) (u : Unit) => False) (fun u t => True) (va_A [(a 0, .inr (11, [.ref (a 1), .ref (a 2), .ref (a 3), .ref (a 4), .ref (a 5), .ref (a 10), .ref (a 15), .ref (a 17), .null, .int 0, .int 0, .int 0])), (a 3, .inr (2, [.int 0, .ref E, .int 0]))] sz)) (vx_X (fun (k : Nat) => k = 2) (fun E9 k t => E9 = xN k) (va_A [(a 0, .inr (11, [.ref (a 1), .ref (a 2), .ref (a 3), .ref (a 4), .ref (a 5), .ref (a 10), .ref (a 15), .ref (a 17), .null, .int 0, .int 0, .int 0])), (a 3, .inr (2, [.int 0, .ref E, .int 0]))] sz)) 1 6 (va_A [(a 0, .inr (11, [.ref (a 1), .ref (a 2), .ref (a 3), .ref (a 4), .ref (a 5), .ref (a 10), .ref (a 15), .ref (a 17), .null, .int 0, .int 0, .int 0])), (a 3, .inr (2, [.int 0, .ref E, .int 0]))] sz) := by
  refine mx_of (Qc := fun A => va_Qi (fun (r : Int32) (u : Unit) => False) (fun u t => True) A) (XC := fun A => vx_X (fun (k : Nat) => k = 2) (fun E9 k t => E9 = xN k) A) RX8 rfl (by decide) (Nat.le_of_ble_eq_true rfl) ?_
  intro p e s m args below meth c hae hx hb hr hts hown hlocks hml hnm htb hP hK A hAe hD hZ hS hA ls hl
  have hl : lv_has ls 6 [(0, .ref (a 0)), (1, .int p0), (2, .int p1)] := hl
  refine lv_aload_n hx hb dX8_turned_0 rfl (lv_at hl 0 rfl) ?_
  refine lv_iload_n hx hb dX8_turned_1 rfl (lv_at hl 1 rfl) ?_
  refine lv_iload_n hx hb dX8_turned_2 rfl (lv_at hl 2 rfl) ?_
  have hPc := hP.sub (ws' := [(a 0, .inr (11, [.ref (a 1), .ref (a 2), .ref (a 3), .ref (a 4), .ref (a 5), .ref (a 10), .ref (a 15), .ref (a 17), .null, .int 0, .int 0, .int 0])), (a 3, .inr (2, [.int 0, .ref E, .int 0]))]) [0, 1] rfl
  have hDc := hD.sub (ws' := [(a 0, .inr (11, [.ref (a 1), .ref (a 2), .ref (a 3), .ref (a 4), .ref (a 5), .ref (a 10), .ref (a 15), .ref (a 17), .null, .int 0, .int 0, .int 0])), (a 3, .inr (2, [.int 0, .ref E, .int 0]))]) [0, 1] (by decide) rfl
  have hFc := va_free (wc := [(a 0, .inr (11, [.ref (a 1), .ref (a 2), .ref (a 3), .ref (a 4), .ref (a 5), .ref (a 10), .ref (a 15), .ref (a 17), .null, .int 0, .int 0, .int 0])), (a 3, .inr (2, [.int 0, .ref E, .int 0]))]) hD hS hA [0, 1] rfl
  refine vx_callr (vx_runV (As := [.int p0, .int p1]) (rest := []) ⟨hx, hb, hml, hown, hts⟩ (c_find l hlt D dA E a p0 p1 s.heap.size ) (cwV 2 hts (ga_V q229 q230 q227 q113 q228) rfl rfl rfl (by decide +kernel) ⟨(Nat.le_of_ble_eq_true rfl), (Nat.le_of_ble_eq_true rfl)⟩) ⟨pb_blind, va_recv hK hPc (ci := 11) (q0 := 0) rfl rfl, pb_pre hK hPc hDc hZ hS hFc _⟩ rfl rfl hl.1 rfl (lv_room (Nat.le_of_ble_eq_true rfl)) dX8_turned_3 ⟨(Nat.le_of_ble_eq_true rfl), (Nat.le_of_ble_eq_true rfl)⟩) hS (fun q _ h => hFc q h) hFc (fun q _ h => hFc q h) (fun E9 ce q9 k t H1 locs ht hvm hpx hBX hz1 hk1 hS hce hcv hcl => ?_) (fun u ra t H1 locs ht hvm hw hB hz1 hk1 hS => ?_)
  · exact vx_out (fun x h => (htb x h).elim) hlocks hce hcv hcl (fun t1 ht1 hal => ⟨k, (hpx), hBX, hS.F ht1⟩) hS.2.2 (Nat.le_of_ble_eq_true rfl) (Nat.le_of_ble_eq_true rfl)
  · exact hw.elim

set_option maxHeartbeats 4000000 in
set_option maxRecDepth 100000 in
theorem c_X8_marked (l : Launch) (hlt : l.stackTraces = false) (D : va_G) (dA : Nat → ClassId) (E : Nat) (a : Nat → Nat) (p0 p1 p2 : Int32) (sz : Nat)  : vx_Met l yX8_marked (wq (.code yX8_marked cX8_marked 5 (some .int))) { frames := 7, cells := 1, slots := 6, locals := 103 } (va_Pc [.ref (a 0), .int p0, .int p1, .int p2] (PcB D dA E [(a 0, .inr (11, [.ref (a 1), .ref (a 2), .ref (a 3), .ref (a 4), .ref (a 5), .ref (a 10), .ref (a 15), .ref (a 17), .null, .int 0, .int 0, .int 0])), (a 4, .inr (2, [.int 0, .ref E, .int 0]))] sz)) (va_Qi (fun (r : Int32) (u : Unit) => False) (fun u t => True) (va_A [(a 0, .inr (11, [.ref (a 1), .ref (a 2), .ref (a 3), .ref (a 4), .ref (a 5), .ref (a 10), .ref (a 15), .ref (a 17), .null, .int 0, .int 0, .int 0])), (a 4, .inr (2, [.int 0, .ref E, .int 0]))] sz)) (vx_X (fun (k : Nat) => k = 2) (fun E9 k t => E9 = xN k) (va_A [(a 0, .inr (11, [.ref (a 1), .ref (a 2), .ref (a 3), .ref (a 4), .ref (a 5), .ref (a 10), .ref (a 15), .ref (a 17), .null, .int 0, .int 0, .int 0])), (a 4, .inr (2, [.int 0, .ref E, .int 0]))] sz)) 1 6 (va_A [(a 0, .inr (11, [.ref (a 1), .ref (a 2), .ref (a 3), .ref (a 4), .ref (a 5), .ref (a 10), .ref (a 15), .ref (a 17), .null, .int 0, .int 0, .int 0])), (a 4, .inr (2, [.int 0, .ref E, .int 0]))] sz) := by
  refine mx_of (Qc := fun A => va_Qi (fun (r : Int32) (u : Unit) => False) (fun u t => True) A) (XC := fun A => vx_X (fun (k : Nat) => k = 2) (fun E9 k t => E9 = xN k) A) RX8 rfl (by decide) (Nat.le_of_ble_eq_true rfl) ?_
  intro p e s m args below meth c hae hx hb hr hts hown hlocks hml hnm htb hP hK A hAe hD hZ hS hA ls hl
  have hl : lv_has ls 5 [(0, .ref (a 0)), (1, .int p0), (2, .int p1), (3, .int p2)] := hl
  refine lv_aload_n hx hb dX8_marked_0 rfl (lv_at hl 0 rfl) ?_
  refine lv_iload_n hx hb dX8_marked_1 rfl (lv_at hl 1 rfl) ?_
  have hPc := hP.sub (ws' := [(a 0, .inr (11, [.ref (a 1), .ref (a 2), .ref (a 3), .ref (a 4), .ref (a 5), .ref (a 10), .ref (a 15), .ref (a 17), .null, .int 0, .int 0, .int 0])), (a 4, .inr (2, [.int 0, .ref E, .int 0]))]) [0, 1] rfl
  have hDc := hD.sub (ws' := [(a 0, .inr (11, [.ref (a 1), .ref (a 2), .ref (a 3), .ref (a 4), .ref (a 5), .ref (a 10), .ref (a 15), .ref (a 17), .null, .int 0, .int 0, .int 0])), (a 4, .inr (2, [.int 0, .ref E, .int 0]))]) [0, 1] (by decide) rfl
  have hFc := va_free (wc := [(a 0, .inr (11, [.ref (a 1), .ref (a 2), .ref (a 3), .ref (a 4), .ref (a 5), .ref (a 10), .ref (a 15), .ref (a 17), .null, .int 0, .int 0, .int 0])), (a 4, .inr (2, [.int 0, .ref E, .int 0]))]) hD hS hA [0, 1] rfl
  refine vx_callv (vx_runV (As := [.int p0]) (rest := []) ⟨hx, hb, hml, hown, hts⟩ (c_checkQuery l hlt D dA E a p0 s.heap.size ) (cwV 1 hts (ga_V q225 q226 q223 q113 q224) rfl rfl rfl (by decide +kernel) ⟨(Nat.le_of_ble_eq_true rfl), (Nat.le_of_ble_eq_true rfl)⟩) ⟨pb_blind, va_recv hK hPc (ci := 11) (q0 := 0) rfl rfl, pb_pre hK hPc hDc hZ hS hFc _⟩ rfl rfl hl.1 rfl (lv_room (Nat.le_of_ble_eq_true rfl)) dX8_marked_2 ⟨(Nat.le_of_ble_eq_true rfl), (Nat.le_of_ble_eq_true rfl)⟩) hS (fun q _ h => hFc q h) hFc (fun q _ h => hFc q h) (fun E9 ce q9 k t H1 locs ht hvm hpx hBX hz1 hk1 hS hce hcv hcl => ?_) (fun u t H1 locs ht hvm hw hB hz1 hk1 hS => ?_)
  · exact vx_out (fun x h => (htb x h).elim) hlocks hce hcv hcl (fun t1 ht1 hal => ⟨k, (hpx), hBX, hS.F ht1⟩) hS.2.2 (Nat.le_of_ble_eq_true rfl) (Nat.le_of_ble_eq_true rfl)
  · exact hw.elim

set_option maxHeartbeats 4000000 in
set_option maxRecDepth 100000 in
theorem c_X8_setBound (l : Launch) (hlt : l.stackTraces = false) (D : va_G) (dA : Nat → ClassId) (E : Nat) (a : Nat → Nat) (p0 : Int32) (sz : Nat)  : vx_Met l yX8_setBound (wq (.code yX8_setBound cX8_setBound 3 (some .int))) { frames := 6, cells := 1, slots := 6, locals := 82 } (va_Pc [.ref (a 0), .int p0] (PcB D dA E [(a 0, .inr (11, [.ref (a 1), .ref (a 2), .ref (a 3), .ref (a 4), .ref (a 5), .ref (a 10), .ref (a 15), .ref (a 17), .null, .int 0, .int 0, .int 0]))] sz)) (va_Qi (fun (r : Int32) (u : Unit) => (inR 0 999 p0 = true) ∧ r = 0) (fun u t => True) (va_A [(a 0, .inr (11, [.ref (a 1), .ref (a 2), .ref (a 3), .ref (a 4), .ref (a 5), .ref (a 10), .ref (a 15), .ref (a 17), .null, .int 0, .int 0, .int 0]))] sz)) (vx_X (fun (k : Nat) => (inR 0 999 p0 = false) ∧ k = 1) (fun E9 k t => E9 = xN k) (va_A [(a 0, .inr (11, [.ref (a 1), .ref (a 2), .ref (a 3), .ref (a 4), .ref (a 5), .ref (a 10), .ref (a 15), .ref (a 17), .null, .int 0, .int 0, .int 0]))] sz)) 1 6 (va_A [(a 0, .inr (11, [.ref (a 1), .ref (a 2), .ref (a 3), .ref (a 4), .ref (a 5), .ref (a 10), .ref (a 15), .ref (a 17), .null, .int 0, .int 0, .int 0]))] sz) := by
  refine mx_of (Qc := fun A => va_Qi (fun (r : Int32) (u : Unit) => (inR 0 999 p0 = true) ∧ r = 0) (fun u t => True) A) (XC := fun A => vx_X (fun (k : Nat) => (inR 0 999 p0 = false) ∧ k = 1) (fun E9 k t => E9 = xN k) A) RX8 rfl (by decide) (Nat.le_of_ble_eq_true rfl) ?_
  intro p e s m args below meth c hae hx hb hr hts hown hlocks hml hnm htb hP hK A hAe hD hZ hS hA ls hl
  have hl : lv_has ls 3 [(0, .ref (a 0)), (1, .int p0)] := hl
  refine lv_iload_n hx hb dX8_setBound_0 rfl (lv_at hl 1 rfl) ?_
  refine lv_if_lt (tgt := 11) hx hb dX8_setBound_1 (by decide) (fun c1 => ?_) (fun c1 => ?_)
  · obtain ⟨sa, hstr2⟩ := hZ.1.2.2.2.2.1 ("TallowIndex", 295, "the bound is out of range") (List.mem_of_getElem? (i := 26) rfl)
    exact vx_throwSW (cls := "java/lang/IllegalArgumentException") (names := ["java/lang/RuntimeException", "java/lang/Exception"]) (own := RX8) hx hb hlt hown hFit_1 hFitN (hts _ q115) (hts _ q116) hstr2 (hat_RX8_61 hts hZ.1) hgd_RX8_61_57 hZ.2.1 hZ.2.2.1 hS (hl.1.trans hml.symm) dX8_setBound_11 dX8_setBound_14 dX8_setBound_15 dX8_setBound_18 dX8_setBound_21 (fun x h => (htb x h).elim) (Nat.le_of_ble_eq_true rfl) (Nat.le_of_ble_eq_true rfl) (Nat.le_of_ble_eq_true rfl) (Nat.le_of_ble_eq_true rfl) hlocks (fun t hal hz hk => ⟨1, (⟨(by simp [inR, c1]), rfl⟩), rfl, sF_t hS hz hk⟩) hS.2.2 (Nat.le_of_ble_eq_true rfl) (Nat.le_of_ble_eq_true rfl)
  · refine lv_iload_n hx hb dX8_setBound_4 rfl (lv_at hl 1 rfl) ?_
    refine lv_sipush (v := 999) hx hb dX8_setBound_5 (by decide) ?_
    refine lv_icmp_le (tgt := 22) hx hb dX8_setBound_8 (by decide) (fun c3 => ?_) (fun c3 => ?_)
    · refine lv_aload_n hx hb dX8_setBound_22 rfl (lv_at hl 0 rfl) ?_
      refine va_get (D := D) (ci := 11) (v := .int 0) (C := RX8) (T := TX8) (N := 12) hx hb hts inAX8 hown hK hP 0 rfl rfl 11 (by decide) (hts _ q231) (fun _ h9 => h9) rfl dX8_setBound_23 ?_
      refine lv_istore_n (lv' := [(2, .int 0), (0, .ref (a 0)), (1, .int p0)]) hx hb dX8_setBound_26 rfl hl (by decide) rfl (fun ls hl => ?_)
      refine lv_aload_n hx hb dX8_setBound_27 rfl (lv_at hl 1 rfl) ?_
      refine lv_iload_n hx hb dX8_setBound_28 rfl (lv_at hl 2 rfl) ?_
      refine va_put (D := D) (ci := 11) (v := .int p0) (ty := .int) (C := RX8) (T := TX8) (N := 12) hx hb hts inAX8 tyX8 tyX8_ok nmX8 hown hK hP hD hS 0 rfl rfl 11 (by decide) (hts _ q231) (fun _ h9 => h9) rfl (tyX8_ok 11 (by decide)) rfl rfl (Nat.le_of_ble_eq_true rfl) dX8_setBound_29 (fun H locs hP hD hS => ?_)
      have hP : va_P D vwCl [(a 0, .inr (11, [.ref (a 1), .ref (a 2), .ref (a 3), .ref (a 4), .ref (a 5), .ref (a 10), .ref (a 15), .ref (a 17), .null, .int 0, .int 0, .int p0]))] H := hP
      have hD : va_D A [(a 0, .inr (11, [.ref (a 1), .ref (a 2), .ref (a 3), .ref (a 4), .ref (a 5), .ref (a 10), .ref (a 15), .ref (a 17), .null, .int 0, .int 0, .int p0]))] := hD
      refine lv_iload_n hx hb dX8_setBound_32 rfl (lv_at hl 0 rfl) ?_
      refine W.widen (k := 1) (n := 6) (Nat.le_of_ble_eq_true rfl) (Nat.le_of_ble_eq_true rfl) ?_
      refine vx_ret ?_
      exact W.iret (v := 0) hx hb hr (fun t ht hW => ⟨⟨0, (), rfl, (⟨(by simp [inR, c1, c3]), rfl⟩), trivial⟩, hS.F ht⟩) hS.2.2 dX8_setBound_33
    · obtain ⟨sa, hstr4⟩ := hZ.1.2.2.2.2.1 ("TallowIndex", 295, "the bound is out of range") (List.mem_of_getElem? (i := 26) rfl)
      exact vx_throwSW (cls := "java/lang/IllegalArgumentException") (names := ["java/lang/RuntimeException", "java/lang/Exception"]) (own := RX8) hx hb hlt hown hFit_1 hFitN (hts _ q115) (hts _ q116) hstr4 (hat_RX8_61 hts hZ.1) hgd_RX8_61_57 hZ.2.1 hZ.2.2.1 hS (hl.1.trans hml.symm) dX8_setBound_11 dX8_setBound_14 dX8_setBound_15 dX8_setBound_18 dX8_setBound_21 (fun x h => (htb x h).elim) (Nat.le_of_ble_eq_true rfl) (Nat.le_of_ble_eq_true rfl) (Nat.le_of_ble_eq_true rfl) (Nat.le_of_ble_eq_true rfl) hlocks (fun t hal hz hk => ⟨1, (⟨(by simp [inR, c1, nle_lt c3]), rfl⟩), rfl, sF_t hS hz hk⟩) hS.2.2 (Nat.le_of_ble_eq_true rfl) (Nat.le_of_ble_eq_true rfl)

set_option maxHeartbeats 4000000 in
set_option maxRecDepth 100000 in
theorem c_X8_removedShare (l : Launch) (hlt : l.stackTraces = false) (D : va_G) (dA : Nat → ClassId) (E : Nat) (a : Nat → Nat) (sz : Nat)  : vx_Met l yX8_removedShare (wq (.code yX8_removedShare cX8_removedShare 2 (some .float))) { frames := 6, cells := 1, slots := 6, locals := 82 } (va_Pc [.ref (a 0)] (PcB D dA E [(a 0, .inr (11, [.ref (a 1), .ref (a 2), .ref (a 3), .ref (a 4), .ref (a 5), .ref (a 10), .ref (a 15), .ref (a 17), .null, .int 0, .int 0, .int 0])), (a 5, .inr (7, [.ref (a 6), .ref (a 8), .int 0, .int 0]))] sz)) (va_Qf (fun (r : UInt32) (u : Unit) => False) (fun u t => True) (va_A [(a 0, .inr (11, [.ref (a 1), .ref (a 2), .ref (a 3), .ref (a 4), .ref (a 5), .ref (a 10), .ref (a 15), .ref (a 17), .null, .int 0, .int 0, .int 0])), (a 5, .inr (7, [.ref (a 6), .ref (a 8), .int 0, .int 0]))] sz)) (vx_X (fun (k : Nat) => k = 4) (fun E9 k t => E9 = xN k) (va_A [(a 0, .inr (11, [.ref (a 1), .ref (a 2), .ref (a 3), .ref (a 4), .ref (a 5), .ref (a 10), .ref (a 15), .ref (a 17), .null, .int 0, .int 0, .int 0])), (a 5, .inr (7, [.ref (a 6), .ref (a 8), .int 0, .int 0]))] sz)) 1 6 (va_A [(a 0, .inr (11, [.ref (a 1), .ref (a 2), .ref (a 3), .ref (a 4), .ref (a 5), .ref (a 10), .ref (a 15), .ref (a 17), .null, .int 0, .int 0, .int 0])), (a 5, .inr (7, [.ref (a 6), .ref (a 8), .int 0, .int 0]))] sz) := by
  refine mx_of (Qc := fun A => va_Qf (fun (r : UInt32) (u : Unit) => False) (fun u t => True) A) (XC := fun A => vx_X (fun (k : Nat) => k = 4) (fun E9 k t => E9 = xN k) A) RX8 rfl (by decide) (Nat.le_of_ble_eq_true rfl) ?_
  intro p e s m args below meth c hae hx hb hr hts hown hlocks hml hnm htb hP hK A hAe hD hZ hS hA ls hl
  have hl : lv_has ls 2 [(0, .ref (a 0))] := hl
  refine lv_aload_n hx hb dX8_removedShare_0 rfl (lv_at hl 0 rfl) ?_
  refine va_get (D := D) (ci := 11) (v := .ref (a 5)) (C := RX8) (T := TX8) (N := 12) hx hb hts inAX8 hown hK hP 0 rfl rfl 4 (by decide) (hts _ q101) (fun _ h9 => h9) rfl dX8_removedShare_1 ?_
  have hPc := hP.sub (ws' := [(a 5, .inr (7, [.ref (a 6), .ref (a 8), .int 0, .int 0]))]) [1] rfl
  have hDc := hD.sub (ws' := [(a 5, .inr (7, [.ref (a 6), .ref (a 8), .int 0, .int 0]))]) [1] (by decide) rfl
  have hFc := va_free (wc := [(a 5, .inr (7, [.ref (a 6), .ref (a 8), .int 0, .int 0]))]) hD hS hA [1] rfl
  refine va_calli (va_runV (As := []) (rest := []) ⟨hx, hb, hml, hown, hts⟩ (c_inSegments l D dA E (a 5) (a 6) (a 8)  s.heap.size ) (cwV 0 hts (ga_V q234 q235 q232 q98 q233) rfl rfl rfl (by decide +kernel) ⟨(Nat.le_of_ble_eq_true rfl), (Nat.le_of_ble_eq_true rfl)⟩) ⟨pb_blind, va_recv hK hPc (ci := 7) (q0 := 0) rfl rfl, pb_pre hK hPc hDc hZ hS hFc _⟩ rfl rfl hl.1 rfl (lv_room (Nat.le_of_ble_eq_true rfl)) dX8_removedShare_4 ⟨(Nat.le_of_ble_eq_true rfl), (Nat.le_of_ble_eq_true rfl)⟩) hS (fun q _ h => hFc q h) hFc (fun r u t H1 locs ht hvm hw hB hz1 hk1 hS => ?_)
  refine W.widen (k := 0) (n := 0) (Nat.le_of_ble_eq_true rfl) (Nat.le_of_ble_eq_true rfl) ?_
  obtain ⟨r1, rfl⟩ : ∃ z, z = r := ⟨_, rfl⟩
  obtain ⟨u2, rfl⟩ : ∃ z, z = u := ⟨_, rfl⟩
  have hw3 := hw
  clear hw
  obtain ⟨hP1, hD1⟩ := hB
  rw [ht] at hP1
  obtain ⟨hP, hD⟩ := va_join (wr := [(a 0, .inr (11, [.ref (a 1), .ref (a 2), .ref (a 3), .ref (a 4), .ref (a 5), .ref (a 10), .ref (a 15), .ref (a 17), .null, .int 0, .int 0, .int 0]))]) (w1 := [(a 5, .inr (7, [.ref (a 6), .ref (a 8), .int 0, .int 0]))]) hP hD [1] [0] rfl rfl (by decide) (by decide) hk1 hFc hP1 hD1
  generalize H1 = H at hP hS ⊢
  have hP : va_P D vwCl [(a 0, .inr (11, [.ref (a 1), .ref (a 2), .ref (a 3), .ref (a 4), .ref (a 5), .ref (a 10), .ref (a 15), .ref (a 17), .null, .int 0, .int 0, .int 0])), (a 5, .inr (7, [.ref (a 6), .ref (a 8), .int 0, .int 0]))] H := hP
  have hD : va_D A [(a 0, .inr (11, [.ref (a 1), .ref (a 2), .ref (a 3), .ref (a 4), .ref (a 5), .ref (a 10), .ref (a 15), .ref (a 17), .null, .int 0, .int 0, .int 0])), (a 5, .inr (7, [.ref (a 6), .ref (a 8), .int 0, .int 0]))] := hD
  obtain rfl : r1 = 0 := hw3
  refine lv_istore_n (lv' := [(1, .int 0), (0, .ref (a 0))]) hx hb dX8_removedShare_7 rfl hl (by decide) rfl (fun ls hl => ?_)
  refine lv_iload_n hx hb dX8_removedShare_8 rfl (lv_at hl 0 rfl) ?_
  refine lv_if_ne (tgt := 23) hx hb dX8_removedShare_9 (by decide) (fun c4 => absurd (by decide) c4) (fun _ => ?_)
  obtain ⟨sa, hstr5⟩ := hZ.1.2.2.2.2.1 ("TallowIndex", 305, "no documents are in segments") (List.mem_of_getElem? (i := 27) rfl)
  exact vx_throwSW (cls := "java/lang/ArithmeticException") (names := ["java/lang/RuntimeException", "java/lang/Exception"]) (own := RX8) hx hb hlt hown hFit_4 hFitN (hts _ q236) (hts _ q237) hstr5 (hat_RX8_307 hts hZ.1) hgd_RX8_307_303 hZ.2.1 hZ.2.2.1 hS (hl.1.trans hml.symm) dX8_removedShare_12 dX8_removedShare_15 dX8_removedShare_16 dX8_removedShare_19 dX8_removedShare_22 (fun x h => (htb x h).elim) (Nat.le_of_ble_eq_true rfl) (Nat.le_of_ble_eq_true rfl) (Nat.le_of_ble_eq_true rfl) (Nat.le_of_ble_eq_true rfl) hlocks (fun t hal hz hk => ⟨4, (rfl), rfl, sF_t hS hz hk⟩) hS.2.2 (Nat.le_of_ble_eq_true rfl) (Nat.le_of_ble_eq_true rfl)

set_option maxHeartbeats 4000000 in
set_option maxRecDepth 100000 in
theorem c_X8_meanLength (l : Launch) (hlt : l.stackTraces = false) (D : va_G) (dA : Nat → ClassId) (E : Nat) (a : Nat → Nat) (p0 : Int32) (sz : Nat)  : vx_Met l yX8_meanLength (wq (.code yX8_meanLength cX8_meanLength 5 (some .double))) { frames := 7, cells := 1, slots := 6, locals := 104 } (va_Pc [.ref (a 0), .int p0] (PcB D dA E [(a 0, .inr (11, [.ref (a 1), .ref (a 2), .ref (a 3), .ref (a 4), .ref (a 5), .ref (a 10), .ref (a 15), .ref (a 17), .null, .int 0, .int 0, .int 0])), (a 3, .inr (2, [.int 0, .ref E, .int 0]))] sz)) (va_Qd (fun (r : UInt64) (u : Unit) => False) (fun u t => True) (va_A [(a 0, .inr (11, [.ref (a 1), .ref (a 2), .ref (a 3), .ref (a 4), .ref (a 5), .ref (a 10), .ref (a 15), .ref (a 17), .null, .int 0, .int 0, .int 0])), (a 3, .inr (2, [.int 0, .ref E, .int 0]))] sz)) (vx_X (fun (k : Nat) => k = 2) (fun E9 k t => E9 = xN k) (va_A [(a 0, .inr (11, [.ref (a 1), .ref (a 2), .ref (a 3), .ref (a 4), .ref (a 5), .ref (a 10), .ref (a 15), .ref (a 17), .null, .int 0, .int 0, .int 0])), (a 3, .inr (2, [.int 0, .ref E, .int 0]))] sz)) 1 6 (va_A [(a 0, .inr (11, [.ref (a 1), .ref (a 2), .ref (a 3), .ref (a 4), .ref (a 5), .ref (a 10), .ref (a 15), .ref (a 17), .null, .int 0, .int 0, .int 0])), (a 3, .inr (2, [.int 0, .ref E, .int 0]))] sz) := by
  refine mx_of (Qc := fun A => va_Qd (fun (r : UInt64) (u : Unit) => False) (fun u t => True) A) (XC := fun A => vx_X (fun (k : Nat) => k = 2) (fun E9 k t => E9 = xN k) A) RX8 rfl (by decide) (Nat.le_of_ble_eq_true rfl) ?_
  intro p e s m args below meth c hae hx hb hr hts hown hlocks hml hnm htb hP hK A hAe hD hZ hS hA ls hl
  have hl : lv_has ls 5 [(0, .ref (a 0)), (1, .int p0)] := hl
  refine lv_aload_n hx hb dX8_meanLength_0 rfl (lv_at hl 0 rfl) ?_
  refine lv_iload_n hx hb dX8_meanLength_1 rfl (lv_at hl 1 rfl) ?_
  have hPc := hP.sub (ws' := [(a 0, .inr (11, [.ref (a 1), .ref (a 2), .ref (a 3), .ref (a 4), .ref (a 5), .ref (a 10), .ref (a 15), .ref (a 17), .null, .int 0, .int 0, .int 0])), (a 3, .inr (2, [.int 0, .ref E, .int 0]))]) [0, 1] rfl
  have hDc := hD.sub (ws' := [(a 0, .inr (11, [.ref (a 1), .ref (a 2), .ref (a 3), .ref (a 4), .ref (a 5), .ref (a 10), .ref (a 15), .ref (a 17), .null, .int 0, .int 0, .int 0])), (a 3, .inr (2, [.int 0, .ref E, .int 0]))]) [0, 1] (by decide) rfl
  have hFc := va_free (wc := [(a 0, .inr (11, [.ref (a 1), .ref (a 2), .ref (a 3), .ref (a 4), .ref (a 5), .ref (a 10), .ref (a 15), .ref (a 17), .null, .int 0, .int 0, .int 0])), (a 3, .inr (2, [.int 0, .ref E, .int 0]))]) hD hS hA [0, 1] rfl
  refine vx_callr (vx_runV (As := [.int p0]) (rest := []) ⟨hx, hb, hml, hown, hts⟩ (c_viewNumbered l hlt D dA E a p0 s.heap.size ) (cwV 1 hts (ga_V q133 q134 q131 q113 q132) rfl rfl rfl (by decide +kernel) ⟨(Nat.le_of_ble_eq_true rfl), (Nat.le_of_ble_eq_true rfl)⟩) ⟨pb_blind, va_recv hK hPc (ci := 11) (q0 := 0) rfl rfl, pb_pre hK hPc hDc hZ hS hFc _⟩ rfl rfl hl.1 rfl (lv_room (Nat.le_of_ble_eq_true rfl)) dX8_meanLength_2 ⟨(Nat.le_of_ble_eq_true rfl), (Nat.le_of_ble_eq_true rfl)⟩) hS (fun q _ h => hFc q h) hFc (fun q _ h => hFc q h) (fun E9 ce q9 k t H1 locs ht hvm hpx hBX hz1 hk1 hS hce hcv hcl => ?_) (fun u ra t H1 locs ht hvm hw hB hz1 hk1 hS => ?_)
  · exact vx_out (fun x h => (htb x h).elim) hlocks hce hcv hcl (fun t1 ht1 hal => ⟨k, (hpx), hBX, hS.F ht1⟩) hS.2.2 (Nat.le_of_ble_eq_true rfl) (Nat.le_of_ble_eq_true rfl)
  · exact hw.elim
