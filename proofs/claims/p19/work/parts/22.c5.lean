/-! CONTRACTS, general -/
theorem q348 : (.fieldLink RJx4a65c 48 "java/util/ArrayList" "size" "I" : Cond) ∈ WA := WA_of (tb_1 53 rfl) rfl
theorem q349 : (.code yJ3_checkIndex_8e157 cJ3_checkIndex_8e157 3 (some .int) : Cond) ∈ WA := WA_of (tb_3 68 rfl) rfl
theorem q350 : (.methodLink RJ15 105 yJ3_checkIndex_8e157 : Cond) ∈ WA := WA_of (tb_3 66 rfl) rfl
theorem q351 : (.static yJ3_checkIndex_8e157 : Cond) ∈ WA := WA_of (tb_3 67 rfl) rfl
theorem q352 : (.initialized RJ3 : Cond) ∈ WA := WA_of (tb_1 25 rfl) rfl
theorem q353 : (.code yJ15_checkIndex_7cf53 cJ15_checkIndex_7cf53 2 (some .int) : Cond) ∈ WA := WA_of (tb_3 65 rfl) rfl
theorem q354 : (.methodLink RJx4a65c 118 yJ15_checkIndex_7cf53 : Cond) ∈ WA := WA_of (tb_3 63 rfl) rfl
theorem q355 : (.static yJ15_checkIndex_7cf53 : Cond) ∈ WA := WA_of (tb_3 64 rfl) rfl
theorem q356 : (.initialized RJ15 : Cond) ∈ WA := WA_of (tb_1 24 rfl) rfl
theorem q357 : (.selects RJx4a65c yJx4a65c_elementData_915e3 yJx4a65c_elementData_915e3 : Cond) ∈ WA := WA_of (tb_3 71 rfl) rfl
theorem q358 : (.code yJx4a65c_elementData_915e3 cJx4a65c_elementData_915e3 2 (some (.object "java/lang/Object")) : Cond) ∈ WA := WA_of (tb_3 72 rfl) rfl
theorem q359 : (.methodLink RJx4a65c 123 yJx4a65c_elementData_915e3 : Cond) ∈ WA := WA_of (tb_3 69 rfl) rfl
theorem q360 : (.instanceMethod yJx4a65c_elementData_915e3 : Cond) ∈ WA := WA_of (tb_3 70 rfl) rfl
theorem q361 : (.fieldLink RJx4a65c 63 "java/util/ArrayList" "modCount" "I" : Cond) ∈ WA := WA_of (tb_1 55 rfl) rfl
theorem q362 : (.sameField "java/util/ArrayList" "java/util/AbstractList" "modCount" "I" : Cond) ∈ WA := WA_of (tb_1 56 rfl) rfl
theorem q363 : (.methodLink RJx4a65c 79 Lib.Math.max.name : Cond) ∈ WA := WA_of (tb_2 169 rfl) rfl
theorem q364 : (.static Lib.Math.max.name : Cond) ∈ WA := WA_of (tb_2 127 rfl) rfl
theorem q365 : (.initialized RJ9 : Cond) ∈ WA := WA_of (tb_1 16 rfl) rfl
theorem q366 : (.code Lib.Math.max.name Lib.Math.max.code 2 (some .int) : Cond) ∈ WA := WA_of (tb_2 128 rfl) rfl
theorem q367 : (.classLink RJx4a65c 7 "java/lang/Object" : Cond) ∈ WA := WA_of (tb_2 170 rfl) rfl
theorem q368 : (.selects RJx4a65c yJx4a65c_grow_92f84 yJx4a65c_grow_92f84 : Cond) ∈ WA := WA_of (sb_1 3 rfl) rfl
theorem q369 : (.code yJx4a65c_grow_92f84 cJx4a65c_grow_92f84 4 (some (.array (.object "java/lang/Object"))) : Cond) ∈ WA := WA_of (tb_2 122 rfl) rfl
theorem q370 : (.methodLink RJx4a65c 69 yJx4a65c_grow_92f84 : Cond) ∈ WA := WA_of (tb_2 119 rfl) rfl
theorem q371 : (.instanceMethod yJx4a65c_grow_92f84 : Cond) ∈ WA := WA_of (tb_2 121 rfl) rfl
theorem q372 : (.methodLink RJ8 194 Lib.Math.max.name : Cond) ∈ WA := WA_of (tb_2 126 rfl) rfl
theorem q373 : (.constant RJ8 200 (2147483639) : Cond) ∈ WA := WA_of (tb_2 129 rfl) rfl
theorem q374 : (.classLink RJ7 110 "[Ljava/lang/Object;" : Cond) ∈ WA := WA_of (tb_2 160 rfl) rfl
theorem q375 : (.classLink RJ7 2 "java/lang/Object" : Cond) ∈ WA := WA_of (tb_2 162 rfl) rfl
theorem q376 : (.methodLink RJ7 304 Lib.Math.min.name : Cond) ∈ WA := WA_of (tb_2 163 rfl) rfl
theorem q377 : (.static Lib.Math.min.name : Cond) ∈ WA := WA_of (tb_2 164 rfl) rfl
theorem q378 : (.code Lib.Math.min.name Lib.Math.min.code 2 (some .int) : Cond) ∈ WA := WA_of (tb_2 165 rfl) rfl
theorem q379 : (.methodLink RJ7 150 arraycopyName : Cond) ∈ WA := WA_of (tb_2 166 rfl) rfl
theorem q380 : (.native arraycopyName : Cond) ∈ WA := WA_of (tb_2 168 rfl) rfl
theorem q381 : (.static arraycopyName : Cond) ∈ WA := WA_of (tb_2 167 rfl) rfl
theorem q382 : (.initialized RJ10 : Cond) ∈ WA := WA_of (tb_1 18 rfl) rfl
theorem q383 : (.methodLink RJ7 86 ⟨"java/lang/Object", "getClass", "()Ljava/lang/Class;"⟩ : Cond) ∈ WA := WA_of (tb_2 136 rfl) rfl
theorem q384 : (.selects "[Ljava/lang/Object;" ⟨"java/lang/Object", "getClass", "()Ljava/lang/Class;"⟩ ⟨"java/lang/Object", "getClass", "()Ljava/lang/Class;"⟩ : Cond) ∈ WA := WA_of (tb_7 113 rfl) rfl
theorem q385 : (.instanceMethod ⟨"java/lang/Object", "getClass", "()Ljava/lang/Class;"⟩ : Cond) ∈ WA := WA_of (tb_2 137 rfl) rfl
theorem q386 : (.native ⟨"java/lang/Object", "getClass", "()Ljava/lang/Class;"⟩ : Cond) ∈ WA := WA_of (tb_2 156 rfl) rfl
theorem q387 : (.code yJ7_copyOf_6403c cJ7_copyOf_6403c 4 (some (.array (.object "java/lang/Object"))) : Cond) ∈ WA := WA_of (tb_2 159 rfl) rfl
theorem q388 : (.methodLink RJ7 300 yJ7_copyOf_6403c : Cond) ∈ WA := WA_of (tb_2 157 rfl) rfl
theorem q389 : (.static yJ7_copyOf_6403c : Cond) ∈ WA := WA_of (tb_2 158 rfl) rfl
theorem q390 : (.initialized RJ7 : Cond) ∈ WA := WA_of (tb_1 17 rfl) rfl
theorem q391 : (.code yJ8_newLength_cabcc cJ8_newLength_cabcc 4 (some .int) : Cond) ∈ WA := WA_of (tb_2 125 rfl) rfl
theorem q392 : (.methodLink RJx4a65c 73 yJ8_newLength_cabcc : Cond) ∈ WA := WA_of (tb_2 123 rfl) rfl
theorem q393 : (.static yJ8_newLength_cabcc : Cond) ∈ WA := WA_of (tb_2 124 rfl) rfl
theorem q394 : (.initialized RJ8 : Cond) ∈ WA := WA_of (tb_1 15 rfl) rfl
theorem q395 : (.code yJ7_copyOf_1904c cJ7_copyOf_1904c 2 (some (.array (.object "java/lang/Object"))) : Cond) ∈ WA := WA_of (tb_2 135 rfl) rfl
theorem q396 : (.methodLink RJx4a65c 66 yJ7_copyOf_1904c : Cond) ∈ WA := WA_of (tb_2 133 rfl) rfl
theorem q397 : (.static yJ7_copyOf_1904c : Cond) ∈ WA := WA_of (tb_2 134 rfl) rfl
theorem znC_18 {U : State} (h : ZS U) : va_Nw (.castable "TallowIndex$Document" "java/lang/Object") U := h.1 ("TallowIndex$Document", "java/lang/Object") (List.mem_of_getElem? (i := 18) rfl)
theorem znD_8 {U : State} (h : ZS U) : va_Nw (.declares ⟨"java/lang/Object", "getClass", "()Ljava/lang/Class;"⟩) U := h.2.1 ⟨"java/lang/Object", "getClass", "()Ljava/lang/Class;"⟩ (List.mem_of_getElem? (i := 8) rfl)
theorem znC_21 {U : State} (h : ZS U) : va_Nw (.castable "TallowIndex$Query" "java/lang/Object") U := h.1 ("TallowIndex$Query", "java/lang/Object") (List.mem_of_getElem? (i := 21) rfl)
/-- the objects of a list: the i-th at ea i, of class ci, with the fields fs i -/
def em (ci n : Nat) (ea : Nat → Nat) (fs : Nat → List Value) : va_W := (List.range n).map (fun i => (ea i, .inr (ci, fs i)))
theorem em_get {X : va_W} {ci n : Nat} {ea : Nat → Nat} {fs : Nat → List Value} {i : Nat} (h : i < n) : (X ++ em ci n ea fs)[X.length + i]? = some (ea i, .inr (ci, fs i)) := by
  rw [List.getElem?_append_right (Nat.le_add_right _ _), Nat.add_sub_cancel_left]
  unfold em
  rw [List.getElem?_map, List.getElem?_range h]
  rfl
theorem any_of {s : State} {H : Heap} {D : va_G} {cl : List vw_C} {tys : List (ClassId × FieldType)} {ws : va_W} {a q0 ci : Nat} {fs : List Value} {r : vw_C} {E : String} (hK : va_K D cl tys s) (hP : va_P D cl ws H) (he : ws[q0]? = some (a, .inr (ci, fs))) (hc : cl[ci]? = some r) (hca : va_Nw (.castable r.1 E) s) : va_Any E s H a := va_rAny hK hP he hc (fun comp c0 h1 h2 => by
  obtain ⟨c1, t1, f1, f2, f3⟩ := Cond.castable_spec (va_Nw.use (A := #[]) rfl hca)
  cases h2.symm.trans f1
  cases h1.symm.trans f2
  exact f3)
theorem em_any {s : State} {H : Heap} {D : va_G} {cl : List vw_C} {tys : List (ClassId × FieldType)} {X : va_W} {ci n : Nat} {ea : Nat → Nat} {fs : Nat → List Value} {r : vw_C} {E : String} {i : Nat} (hK : va_K D cl tys s) (hP : va_P D cl (X ++ em ci n ea fs) H) (h : i < n) (hc : cl[ci]? = some r) (hca : va_Nw (.castable r.1 E) s) : va_Any E s H (ea i) := any_of hK hP (em_get h) hc hca
theorem tt_any {s : State} {H : Heap} {D : va_G} {cl : List vw_C} {tys : List (ClassId × FieldType)} {X T : va_W} {ci a : Nat} {fs : List Value} {r : vw_C} {E : String} (hK : va_K D cl tys s) (hP : va_P D cl (X ++ T) H) (h : ((a, .inr (ci, fs)) : Nat × va_E) ∈ T) (hc : cl[ci]? = some r) (hca : va_Nw (.castable r.1 E) s) : va_Any E s H a := by
  obtain ⟨i, hi⟩ := List.getElem?_of_mem (List.mem_append_right X h)
  exact any_of hK hP hi hc hca
theorem ar_recv {s : State} {H : Heap} {D : va_G} {cl : List vw_C} {dA : Nat → ClassId} {ws : va_W} {a q0 n : Nat} {f : Nat → Option Nat} (hK : va_K D cl (TY dA) s) (hP : va_P D cl ws H) (ha : ws[q0]? = some (a, .inl (dA 5, n, .inr (.inr (.inr (.inr f)))))) : ∃ cell : Cell, H[a]? = some cell ∧ cell.vm.isStatics = false ∧ s.vm.findClass "[Ljava/lang/Object;" = some cell.cls := by
  have h1 := hP q0 _ ha
  have h2 := va_nmO (nm := "[Ljava/lang/Object;") (hK.2 5 (dA 5, .object "java/lang/Object") rfl).2 (by decide)
  exact ⟨_, h1, rfl, h2⟩
set_option maxHeartbeats 4000000 in
set_option maxRecDepth 100000 in
theorem l_size (l : Launch) (D : va_G) (dA : Nat → ClassId) (E : Nat) (h : Nat) (md : Int32) (ar : Value) (n : Int32) (sz : Nat)   : Met l yJx4a65c_size_8abf5 (wq (.code yJx4a65c_size_8abf5 cJx4a65c_size_8abf5 1 (some .int))) { frames := 0, cells := 0, slots := 0, locals := 0 } (va_Pc [.ref h] (PcB D dA E [(h, .inr (2, [.int md, ar, .int n]))] sz)) (va_Qi (fun (r : Int32) (u : Unit) => r = n) (fun u t => va_P D vwCl [(h, .inr (2, [.int md, ar, .int n]))] t.heap ∧ va_D (va_A [(h, .inr (2, [.int md, ar, .int n]))] sz) [(h, .inr (2, [.int md, ar, .int n]))]) (va_A [(h, .inr (2, [.int md, ar, .int n]))] sz)) 0 0 (va_A [(h, .inr (2, [.int md, ar, .int n]))] sz) := by
  refine mb_of (Qc := fun A => va_Qi (fun (r : Int32) (u : Unit) => r = n) (fun u t => va_P D vwCl [(h, .inr (2, [.int md, ar, .int n]))] t.heap ∧ va_D A [(h, .inr (2, [.int md, ar, .int n]))]) A) RJx4a65c rfl (by decide) (Nat.le_of_ble_eq_true rfl) ?_
  intro p e s m args below meth c hae hx hb hr hts hown hlocks hml hnm hP hK A hAe hD hZ hS hA ls hl
  replace hl : lv_has ls 1 [(0, .ref h)] := hl
  refine lv_aload_n hx hb dJx4a65c_size_8abf5_0 rfl (lv_at hl 0 rfl) ?_
  refine va_get (D := D) (ci := 2) (v := .int n) (C := RJx4a65c) (T := TJx4a65c) (N := 3) hx hb hts inAJx4a65c hown hK hP 0 rfl rfl 2 (by decide) (hts _ q348) (fun _ h9 => h9) rfl dJx4a65c_size_8abf5_1 ?_
  refine W.widen (k := 0) (n := 0) (Nat.le_of_ble_eq_true rfl) (Nat.le_of_ble_eq_true rfl) ?_
  have hP9 := hP.sub (ws' := [(h, .inr (2, [.int md, ar, .int n]))]) [0] rfl
  have hD9 := hD.sub (ws' := [(h, .inr (2, [.int md, ar, .int n]))]) [0] (by decide) rfl
  exact W.iret (v := n) hx hb hr (fun t ht hW => ⟨⟨n, (), rfl, rfl, ⟨by rw [ht]; exact hP9, hD9⟩⟩, hS.F ht⟩) hS.2.2 dJx4a65c_size_8abf5_4

set_option maxHeartbeats 4000000 in
set_option maxRecDepth 100000 in
theorem l_elementData (l : Launch) (D : va_G) (dA : Nat → ClassId) (E : Nat) (h : Nat) (md : Int32) (ar n cap : Nat) (f : Nat → Option Nat) (k e0 : Nat) (sz : Nat) (hk : k < cap) (hcap : cap ≤ 60) (hfk : f k = some e0)  : Met l yJx4a65c_elementData_915e3 (wq (.code yJx4a65c_elementData_915e3 cJx4a65c_elementData_915e3 2 (some (.object "java/lang/Object")))) { frames := 0, cells := 0, slots := 0, locals := 0 } (va_Pc [.ref h, .int (nI k)] (PcB D dA E [(h, .inr (2, [.int md, .ref ar, .int (nI n)])), (ar, .inl (dA 5, cap, .inr (.inr (.inr (.inr f)))))] sz)) (va_Qr (fun (u : Unit) => True) (fun u ra t => ra = e0 ∧ va_P D vwCl [(h, .inr (2, [.int md, .ref ar, .int (nI n)])), (ar, .inl (dA 5, cap, .inr (.inr (.inr (.inr f)))))] t.heap ∧ va_D (va_A [(h, .inr (2, [.int md, .ref ar, .int (nI n)])), (ar, .inl (dA 5, cap, .inr (.inr (.inr (.inr f)))))] sz) [(h, .inr (2, [.int md, .ref ar, .int (nI n)])), (ar, .inl (dA 5, cap, .inr (.inr (.inr (.inr f)))))]) (va_A [(h, .inr (2, [.int md, .ref ar, .int (nI n)])), (ar, .inl (dA 5, cap, .inr (.inr (.inr (.inr f)))))] sz)) 0 0 (va_A [(h, .inr (2, [.int md, .ref ar, .int (nI n)])), (ar, .inl (dA 5, cap, .inr (.inr (.inr (.inr f)))))] sz) := by
  refine mb_of (Qc := fun A => va_Qr (fun (u : Unit) => True) (fun u ra t => ra = e0 ∧ va_P D vwCl [(h, .inr (2, [.int md, .ref ar, .int (nI n)])), (ar, .inl (dA 5, cap, .inr (.inr (.inr (.inr f)))))] t.heap ∧ va_D A [(h, .inr (2, [.int md, .ref ar, .int (nI n)])), (ar, .inl (dA 5, cap, .inr (.inr (.inr (.inr f)))))]) A) RJx4a65c rfl (by decide) (Nat.le_of_ble_eq_true rfl) ?_
  intro p e s m args below meth c hae hx hb hr hts hown hlocks hml hnm hP hK A hAe hD hZ hS hA ls hl
  replace hl : lv_has ls 2 [(0, .ref h), (1, .int (nI k))] := hl
  refine lv_aload_n hx hb dJx4a65c_elementData_915e3_0 rfl (lv_at hl 0 rfl) ?_
  refine va_get (D := D) (ci := 2) (v := .ref ar) (C := RJx4a65c) (T := TJx4a65c) (N := 3) hx hb hts inAJx4a65c hown hK hP 0 rfl rfl 1 (by decide) (hts _ q275) (fun _ h9 => h9) rfl dJx4a65c_elementData_915e3_1 ?_
  refine lv_iload_n hx hb dJx4a65c_elementData_915e3_4 rfl (lv_at hl 1 rfl) ?_
  refine va_aldq hx hb hK hP 1 5 rfl rfl (vp_in_nI (n := k) (by omega) (by omega)) dJx4a65c_elementData_915e3_5 ?_
  rw [nI_clamp (n := k) (by omega)]
  rw [hfk]
  refine W.eq (g2 := F0 m 6 ls [.ref e0]) rfl ?_
  refine W.widen (k := 0) (n := 0) (Nat.le_of_ble_eq_true rfl) (Nat.le_of_ble_eq_true rfl) ?_
  have hP9 := hP.sub (ws' := [(h, .inr (2, [.int md, .ref ar, .int (nI n)])), (ar, .inl (dA 5, cap, .inr (.inr (.inr (.inr f)))))]) [0, 1] rfl
  have hD9 := hD.sub (ws' := [(h, .inr (2, [.int md, .ref ar, .int (nI n)])), (ar, .inl (dA 5, cap, .inr (.inr (.inr (.inr f)))))]) [0, 1] (by decide) rfl
  exact W.aret (v := .ref e0) hx hb hr (Or.inl ⟨_, rfl⟩) (Or.inr ⟨_, rfl⟩) (fun t ht hW => ⟨⟨(), e0, rfl, trivial, ⟨rfl, ⟨by rw [ht]; exact hP9, hD9⟩⟩⟩, hS.F ht⟩) hS.2.2 dJx4a65c_elementData_915e3_6

set_option maxHeartbeats 4000000 in
set_option maxRecDepth 100000 in
theorem l_checkIndex (l : Launch) (D : va_G) (dA : Nat → ClassId) (E : Nat) (k n : Nat) (sz : Nat) (hk : k < n) (hn : n ≤ 60)  : Met l yJ3_checkIndex_8e157 (wq (.code yJ3_checkIndex_8e157 cJ3_checkIndex_8e157 3 (some .int))) { frames := 0, cells := 0, slots := 0, locals := 0 } (va_Pc [.int (nI k), .int (nI n), .null] (PcB D dA E [] sz)) (va_Qi (fun (r : Int32) (u : Unit) => r = nI k) (fun u t => va_P D vwCl [] t.heap ∧ va_D (va_A [] sz) []) (va_A [] sz)) 0 0 (va_A [] sz) := by
  refine mb_of (y := yJ3_checkIndex_8e157) (av := [.int (nI k), .int (nI n), .null]) (maxL := 3) (Qc := fun A => va_Qi (fun (r : Int32) (u : Unit) => r = nI k) (fun u t => va_P D vwCl [] t.heap ∧ va_D A []) A) RJ3 rfl (by decide) (Nat.le_of_ble_eq_true rfl) ?_
  intro p e s m args below meth c hae hx hb hr hts hown hlocks hml hnm hP hK A hAe hD hZ hS hA ls hl
  replace hl : lv_has ls 3 [(0, .int (nI k)), (1, .int (nI n)), (2, .null)] := hl
  refine lv_iload_n hx hb dJ3_checkIndex_8e157_0 rfl (lv_at hl 0 rfl) ?_
  refine lv_if_lt (tgt := 9) hx hb dJ3_checkIndex_8e157_1 (by decide) (fun c1 => absurd ((nI_ltI (a := k) (b := 0) (by omega) (by omega)).mp c1) (by omega)) (fun _ => ?_)
  refine lv_iload_n hx hb dJ3_checkIndex_8e157_4 rfl (lv_at hl 0 rfl) ?_
  refine lv_iload_n hx hb dJ3_checkIndex_8e157_5 rfl (lv_at hl 1 rfl) ?_
  refine lv_icmp_lt (tgt := 16) hx hb dJ3_checkIndex_8e157_6 (by decide) (fun _ => ?_) (fun c2 => absurd ((nI_ltI (a := k) (b := n) (by omega) (by omega)).mpr (by omega)) c2)
  refine lv_iload_n hx hb dJ3_checkIndex_8e157_16 rfl (lv_at hl 0 rfl) ?_
  refine W.widen (k := 0) (n := 0) (Nat.le_of_ble_eq_true rfl) (Nat.le_of_ble_eq_true rfl) ?_
  have hP9 := hP.sub (ws' := []) [] rfl
  have hD9 := hD.sub (ws' := []) [] (by decide) rfl
  exact W.iret (v := (nI k)) hx hb hr (fun t ht hW => ⟨⟨(nI k), (), rfl, rfl, ⟨by rw [ht]; exact hP9, hD9⟩⟩, hS.F ht⟩) hS.2.2 dJ3_checkIndex_8e157_17

set_option maxHeartbeats 4000000 in
set_option maxRecDepth 100000 in
theorem l_objCheck (l : Launch) (D : va_G) (dA : Nat → ClassId) (E : Nat) (k n : Nat) (sz : Nat) (hk : k < n) (hn : n ≤ 60)  : Met l yJ15_checkIndex_7cf53 (wq (.code yJ15_checkIndex_7cf53 cJ15_checkIndex_7cf53 2 (some .int))) { frames := 1, cells := 0, slots := 0, locals := 22 } (va_Pc [.int (nI k), .int (nI n)] (PcB D dA E [] sz)) (va_Qi (fun (r : Int32) (u : Unit) => r = nI k) (fun u t => va_P D vwCl [] t.heap ∧ va_D (va_A [] sz) []) (va_A [] sz)) 0 0 (va_A [] sz) := by
  refine mb_of (y := yJ15_checkIndex_7cf53) (av := [.int (nI k), .int (nI n)]) (maxL := 2) (Qc := fun A => va_Qi (fun (r : Int32) (u : Unit) => r = nI k) (fun u t => va_P D vwCl [] t.heap ∧ va_D A []) A) RJ15 rfl (by decide) (Nat.le_of_ble_eq_true rfl) ?_
  intro p e s m args below meth c hae hx hb hr hts hown hlocks hml hnm hP hK A hAe hD hZ hS hA ls hl
  replace hl : lv_has ls 2 [(0, .int (nI k)), (1, .int (nI n))] := hl
  refine lv_iload_n hx hb dJ15_checkIndex_7cf53_0 rfl (lv_at hl 0 rfl) ?_
  refine lv_iload_n hx hb dJ15_checkIndex_7cf53_1 rfl (lv_at hl 1 rfl) ?_
  refine lv_null hx hb dJ15_checkIndex_7cf53_2 ?_
  replace hPc := hP.sub (ws' := []) [] rfl
  replace hDc := hD.sub (ws' := []) [] (by decide) rfl
  replace hFc := va_free (wc := []) hD hS hA [] rfl
  refine va_calli (va_runS (As := [.int (nI k), .int (nI n), .null]) (rest := []) ⟨hx, hb, hml, hown, hts⟩ (l_checkIndex l D dA E k n s.heap.size  (by omega) (by omega)) (va_cwS 3 hts (ga_S q350 q351 q352 q349) rfl rfl rfl (by decide +kernel) ⟨(Nat.le_of_ble_eq_true rfl), (Nat.le_of_ble_eq_true rfl)⟩) ⟨pb_blind, pb_pre hK hPc hDc hZ hS hFc _⟩ rfl rfl hl.1 rfl (lv_room (Nat.le_of_ble_eq_true rfl)) dJ15_checkIndex_7cf53_3 ⟨(Nat.le_of_ble_eq_true rfl), (Nat.le_of_ble_eq_true rfl)⟩) hS (fun q _ h => hFc q h) hFc (fun r u t H1 locs ht hvm hw hB hz1 hk1 hS => ?_)
  refine W.widen (k := 0) (n := 0) (Nat.le_of_ble_eq_true rfl) (Nat.le_of_ble_eq_true rfl) ?_
  obtain ⟨r1, rfl⟩ : ∃ z, z = r := ⟨_, rfl⟩
  obtain ⟨u2, rfl⟩ : ∃ z, z = u := ⟨_, rfl⟩
  have hw3 := hw
  clear hw
  obtain ⟨hP1, hD1⟩ := hB
  rw [ht] at hP1
  obtain ⟨hP, hD⟩ := va_join (wr := []) (w1 := []) hP hD [] [] rfl rfl (by decide) (by decide) hk1 hFc hP1 hD1
  generalize H1 = H at hP hS ⊢
  replace hP : va_P D vwCl [] H := hP
  replace hD : va_D A [] := hD
  obtain rfl : r1 = nI k := hw3
  refine W.widen (k := 0) (n := 0) (Nat.le_of_ble_eq_true rfl) (Nat.le_of_ble_eq_true rfl) ?_
  have hP9 := hP.sub (ws' := []) [] rfl
  have hD9 := hD.sub (ws' := []) [] (by decide) rfl
  exact W.iret (v := (nI k)) hx hb hr (fun t ht hW => ⟨⟨(nI k), (), rfl, rfl, ⟨by rw [ht]; exact hP9, hD9⟩⟩, hS.F ht⟩) hS.2.2 dJ15_checkIndex_7cf53_6

set_option maxHeartbeats 4000000 in
set_option maxRecDepth 100000 in
theorem l_get (l : Launch) (D : va_G) (dA : Nat → ClassId) (E : Nat) (h : Nat) (md : Int32) (ar n cap : Nat) (f : Nat → Option Nat) (k e0 : Nat) (sz : Nat) (hk : k < n) (hn : n ≤ cap) (hcap : cap ≤ 60) (hfk : f k = some e0)  : Met l yJx4a65c_get_915e3 (wq (.code yJx4a65c_get_915e3 cJx4a65c_get_915e3 2 (some (.object "java/lang/Object")))) { frames := 2, cells := 0, slots := 0, locals := 43 } (va_Pc [.ref h, .int (nI k)] (PcB D dA E [(h, .inr (2, [.int md, .ref ar, .int (nI n)])), (ar, .inl (dA 5, cap, .inr (.inr (.inr (.inr f)))))] sz)) (va_Qr (fun (u : Unit) => True) (fun u ra t => ra = e0 ∧ va_P D vwCl [(h, .inr (2, [.int md, .ref ar, .int (nI n)])), (ar, .inl (dA 5, cap, .inr (.inr (.inr (.inr f)))))] t.heap ∧ va_D (va_A [(h, .inr (2, [.int md, .ref ar, .int (nI n)])), (ar, .inl (dA 5, cap, .inr (.inr (.inr (.inr f)))))] sz) [(h, .inr (2, [.int md, .ref ar, .int (nI n)])), (ar, .inl (dA 5, cap, .inr (.inr (.inr (.inr f)))))]) (va_A [(h, .inr (2, [.int md, .ref ar, .int (nI n)])), (ar, .inl (dA 5, cap, .inr (.inr (.inr (.inr f)))))] sz)) 0 0 (va_A [(h, .inr (2, [.int md, .ref ar, .int (nI n)])), (ar, .inl (dA 5, cap, .inr (.inr (.inr (.inr f)))))] sz) := by
  refine mb_of (Qc := fun A => va_Qr (fun (u : Unit) => True) (fun u ra t => ra = e0 ∧ va_P D vwCl [(h, .inr (2, [.int md, .ref ar, .int (nI n)])), (ar, .inl (dA 5, cap, .inr (.inr (.inr (.inr f)))))] t.heap ∧ va_D A [(h, .inr (2, [.int md, .ref ar, .int (nI n)])), (ar, .inl (dA 5, cap, .inr (.inr (.inr (.inr f)))))]) A) RJx4a65c rfl (by decide) (Nat.le_of_ble_eq_true rfl) ?_
  intro p e s m args below meth c hae hx hb hr hts hown hlocks hml hnm hP hK A hAe hD hZ hS hA ls hl
  replace hl : lv_has ls 2 [(0, .ref h), (1, .int (nI k))] := hl
  refine lv_iload_n hx hb dJx4a65c_get_915e3_0 rfl (lv_at hl 1 rfl) ?_
  refine lv_aload_n hx hb dJx4a65c_get_915e3_1 rfl (lv_at hl 0 rfl) ?_
  refine va_get (D := D) (ci := 2) (v := .int (nI n)) (C := RJx4a65c) (T := TJx4a65c) (N := 3) hx hb hts inAJx4a65c hown hK hP 0 rfl rfl 2 (by decide) (hts _ q348) (fun _ h9 => h9) rfl dJx4a65c_get_915e3_2 ?_
  replace hPc := hP.sub (ws' := []) [] rfl
  replace hDc := hD.sub (ws' := []) [] (by decide) rfl
  replace hFc := va_free (wc := []) hD hS hA [] rfl
  refine va_calli (va_runS (As := [.int (nI k), .int (nI n)]) (rest := []) ⟨hx, hb, hml, hown, hts⟩ (l_objCheck l D dA E k n s.heap.size  (by omega) (by omega)) (va_cwS 2 hts (ga_S q354 q355 q356 q353) rfl rfl rfl (by decide +kernel) ⟨(Nat.le_of_ble_eq_true rfl), (Nat.le_of_ble_eq_true rfl)⟩) ⟨pb_blind, pb_pre hK hPc hDc hZ hS hFc _⟩ rfl rfl hl.1 rfl (lv_room (Nat.le_of_ble_eq_true rfl)) dJx4a65c_get_915e3_5 ⟨(Nat.le_of_ble_eq_true rfl), (Nat.le_of_ble_eq_true rfl)⟩) hS (fun q _ h => hFc q h) hFc (fun r u t H1 locs ht hvm hw hB hz1 hk1 hS => ?_)
  refine W.widen (k := 0) (n := 0) (Nat.le_of_ble_eq_true rfl) (Nat.le_of_ble_eq_true rfl) ?_
  obtain ⟨r1, rfl⟩ : ∃ z, z = r := ⟨_, rfl⟩
  obtain ⟨u2, rfl⟩ : ∃ z, z = u := ⟨_, rfl⟩
  have hw3 := hw
  clear hw
  obtain ⟨hP1, hD1⟩ := hB
  rw [ht] at hP1
  obtain ⟨hP, hD⟩ := va_join (wr := [(h, .inr (2, [.int md, .ref ar, .int (nI n)])), (ar, .inl (dA 5, cap, .inr (.inr (.inr (.inr f)))))]) (w1 := []) hP hD [] [0, 1] rfl rfl (by decide) (by decide) hk1 hFc hP1 hD1
  generalize H1 = H at hP hS ⊢
  replace hP : va_P D vwCl [(h, .inr (2, [.int md, .ref ar, .int (nI n)])), (ar, .inl (dA 5, cap, .inr (.inr (.inr (.inr f)))))] H := hP
  replace hD : va_D A [(h, .inr (2, [.int md, .ref ar, .int (nI n)])), (ar, .inl (dA 5, cap, .inr (.inr (.inr (.inr f)))))] := hD
  obtain rfl : r1 = nI k := hw3
  refine lv_pop hx hb dJx4a65c_get_915e3_8 rfl ?_
  refine lv_aload_n hx hb dJx4a65c_get_915e3_9 rfl (lv_at hl 0 rfl) ?_
  refine lv_iload_n hx hb dJx4a65c_get_915e3_10 rfl (lv_at hl 1 rfl) ?_
  replace hPc := hP.sub (ws' := [(h, .inr (2, [.int md, .ref ar, .int (nI n)])), (ar, .inl (dA 5, cap, .inr (.inr (.inr (.inr f)))))]) [0, 1] rfl
  replace hDc := hD.sub (ws' := [(h, .inr (2, [.int md, .ref ar, .int (nI n)])), (ar, .inl (dA 5, cap, .inr (.inr (.inr (.inr f)))))]) [0, 1] (by decide) rfl
  replace hFc := va_free (wc := [(h, .inr (2, [.int md, .ref ar, .int (nI n)])), (ar, .inl (dA 5, cap, .inr (.inr (.inr (.inr f)))))]) hD hS hA [0, 1] rfl
  refine va_callr (va_runV (As := [.int (nI k)]) (rest := []) ⟨hx, hb, hml, hown, hts⟩ (l_elementData l D dA E h md ar n cap f k e0 H.size  (by omega) (by omega) hfk) (cwV 1 hts (ga_V q359 q360 q357 q322 q358) rfl rfl rfl (by decide +kernel) ⟨(Nat.le_of_ble_eq_true rfl), (Nat.le_of_ble_eq_true rfl)⟩) ⟨pb_blind, va_recv hK hPc (ci := 2) (q0 := 0) rfl rfl, pb_pre hK hPc hDc hZ hS hFc _⟩ rfl rfl hl.1 rfl (lv_room (Nat.le_of_ble_eq_true rfl)) dJx4a65c_get_915e3_11 ⟨(Nat.le_of_ble_eq_true rfl), (Nat.le_of_ble_eq_true rfl)⟩) hS (fun q _ h => hFc q h) hFc (fun u ra t H1 locs ht hvm hw hB hz1 hk1 hS => ?_)
  refine W.widen (k := 0) (n := 0) (Nat.le_of_ble_eq_true rfl) (Nat.le_of_ble_eq_true rfl) ?_
  obtain ⟨q4, rfl⟩ : ∃ z, z = ra := ⟨_, rfl⟩
  obtain ⟨u5, rfl⟩ : ∃ z, z = u := ⟨_, rfl⟩
  have hw6 := hw
  clear hw
  obtain ⟨hra, hB⟩ := hB
  obtain ⟨hP1, hD1⟩ := hB
  rw [ht] at hP1
  obtain ⟨hP, hD⟩ := va_join (wr := []) (w1 := [(h, .inr (2, [.int md, .ref ar, .int (nI n)])), (ar, .inl (dA 5, cap, .inr (.inr (.inr (.inr f)))))]) hP hD [0, 1] [] rfl rfl (by decide) (by decide) hk1 hFc hP1 hD1
  generalize H1 = H at hP hS ⊢
  replace hP : va_P D vwCl [(h, .inr (2, [.int md, .ref ar, .int (nI n)])), (ar, .inl (dA 5, cap, .inr (.inr (.inr (.inr f)))))] H := hP
  replace hD : va_D A [(h, .inr (2, [.int md, .ref ar, .int (nI n)])), (ar, .inl (dA 5, cap, .inr (.inr (.inr (.inr f)))))] := hD
  obtain rfl : e0 = q4 := hra.symm
  refine W.widen (k := 0) (n := 0) (Nat.le_of_ble_eq_true rfl) (Nat.le_of_ble_eq_true rfl) ?_
  have hP9 := hP.sub (ws' := [(h, .inr (2, [.int md, .ref ar, .int (nI n)])), (ar, .inl (dA 5, cap, .inr (.inr (.inr (.inr f)))))]) [0, 1] rfl
  have hD9 := hD.sub (ws' := [(h, .inr (2, [.int md, .ref ar, .int (nI n)])), (ar, .inl (dA 5, cap, .inr (.inr (.inr (.inr f)))))]) [0, 1] (by decide) rfl
  exact W.aret (v := .ref e0) hx hb hr (Or.inl ⟨_, rfl⟩) (Or.inr ⟨_, rfl⟩) (fun t ht hW => ⟨⟨(), e0, rfl, trivial, ⟨rfl, ⟨by rw [ht]; exact hP9, hD9⟩⟩⟩, hS.F ht⟩) hS.2.2 dJx4a65c_get_915e3_14

set_option maxHeartbeats 4000000 in
set_option maxRecDepth 100000 in
theorem l_clearE (l : Launch) (D : va_G) (dA : Nat → ClassId) (E : Nat) (h : Nat) (md : Int32)  (sz : Nat)   : Met l yJx4a65c_clear_da8c8 (wq (.code yJx4a65c_clear_da8c8 cJx4a65c_clear_da8c8 4 none)) { frames := 0, cells := 0, slots := 0, locals := 0 } (va_Pc [.ref h] (PcB D dA E [(h, .inr (2, [.int md, .ref E, .int 0]))] sz)) (va_Qv (fun (u : Unit) => True) (fun u t => va_P D vwCl [(h, .inr (2, [.int (md + 1), .ref E, .int 0]))] t.heap ∧ va_D (va_A [(h, .inr (2, [.int md, .ref E, .int 0]))] sz) [(h, .inr (2, [.int (md + 1), .ref E, .int 0]))]) (va_A [(h, .inr (2, [.int md, .ref E, .int 0]))] sz)) 0 0 (va_A [(h, .inr (2, [.int md, .ref E, .int 0]))] sz) := by
  refine mb_of (Qc := fun A => va_Qv (fun (u : Unit) => True) (fun u t => va_P D vwCl [(h, .inr (2, [.int (md + 1), .ref E, .int 0]))] t.heap ∧ va_D A [(h, .inr (2, [.int (md + 1), .ref E, .int 0]))]) A) RJx4a65c rfl (by decide) (Nat.le_of_ble_eq_true rfl) ?_
  intro p e s m args below meth c hae hx hb hr hts hown hlocks hml hnm hP hK A hAe hD hZ hS hA ls hl
  replace hl : lv_has ls 4 [(0, .ref h)] := hl
  refine lv_aload_n hx hb dJx4a65c_clear_da8c8_0 rfl (lv_at hl 0 rfl) ?_
  refine lv_dup hx hb dJx4a65c_clear_da8c8_1 rfl ?_
  refine va_get (D := D) (ci := 2) (v := .int md) (C := RJx4a65c) (T := TJx4a65c) (N := 3) hx hb hts inAJx4a65c hown hK hP 0 rfl rfl 0 (by decide) (hts _ q361) (u_same (hts _ q362)) rfl dJx4a65c_clear_da8c8_2 ?_
  refine lv_iconst (v := 1) hx hb dJx4a65c_clear_da8c8_5 (by decide) ?_
  refine lv_iadd hx hb dJx4a65c_clear_da8c8_6 ?_
  refine va_put (D := D) (ci := 2) (v := .int (md + 1)) (ty := .int) (C := RJx4a65c) (T := TJx4a65c) (N := 3) hx hb hts inAJx4a65c tyJx4a65c tyJx4a65c_ok nmJx4a65c hown hK hP hD hS 0 rfl rfl 0 (by decide) (hts _ q361) (u_same (hts _ q362)) rfl (tyJx4a65c_ok 0 (by decide)) rfl rfl (Nat.le_of_ble_eq_true rfl) dJx4a65c_clear_da8c8_7 (fun H locs hP hD hS => ?_)
  replace hP : va_P D vwCl [(h, .inr (2, [.int (md + 1), .ref E, .int 0]))] H := hP
  replace hD : va_D A [(h, .inr (2, [.int (md + 1), .ref E, .int 0]))] := hD
  refine lv_aload_n hx hb dJx4a65c_clear_da8c8_10 rfl (lv_at hl 0 rfl) ?_
  refine va_get (D := D) (ci := 2) (v := .ref E) (C := RJx4a65c) (T := TJx4a65c) (N := 3) hx hb hts inAJx4a65c hown hK hP 0 rfl rfl 1 (by decide) (hts _ q275) (fun _ h9 => h9) rfl dJx4a65c_clear_da8c8_11 ?_
  refine lv_astore_n (lv' := [(1, .ref E), (0, .ref h)]) hx hb dJx4a65c_clear_da8c8_14 rfl hl (by decide) rfl (fun ls hl => ?_)
  refine lv_aload_n hx hb dJx4a65c_clear_da8c8_15 rfl (lv_at hl 1 rfl) ?_
  refine va_get (D := D) (ci := 2) (v := .int 0) (C := RJx4a65c) (T := TJx4a65c) (N := 3) hx hb hts inAJx4a65c hown hK hP 0 rfl rfl 2 (by decide) (hts _ q348) (fun _ h9 => h9) rfl dJx4a65c_clear_da8c8_16 ?_
  refine lv_istore_n (lv' := [(2, .int 0), (1, .ref E), (0, .ref h)]) hx hb dJx4a65c_clear_da8c8_19 rfl hl (by decide) rfl (fun ls hl => ?_)
  refine lv_aload_n hx hb dJx4a65c_clear_da8c8_20 rfl (lv_at hl 2 rfl) ?_
  refine lv_iconst (v := 0) hx hb dJx4a65c_clear_da8c8_21 (by decide) ?_
  refine lv_dup_x1 hx hb dJx4a65c_clear_da8c8_22 rfl rfl ?_
  refine va_put (D := D) (ci := 2) (v := .int 0) (ty := .int) (C := RJx4a65c) (T := TJx4a65c) (N := 3) hx hb hts inAJx4a65c tyJx4a65c tyJx4a65c_ok nmJx4a65c hown hK hP hD hS 0 rfl rfl 2 (by decide) (hts _ q348) (fun _ h9 => h9) rfl (tyJx4a65c_ok 2 (by decide)) rfl rfl (Nat.le_of_ble_eq_true rfl) dJx4a65c_clear_da8c8_23 (fun H locs hP hD hS => ?_)
  replace hP : va_P D vwCl [(h, .inr (2, [.int (md + 1), .ref E, .int 0]))] H := hP
  replace hD : va_D A [(h, .inr (2, [.int (md + 1), .ref E, .int 0]))] := hD
  refine lv_istore_n (lv' := [(3, .int 0), (2, .int 0), (1, .ref E), (0, .ref h)]) hx hb dJx4a65c_clear_da8c8_26 rfl hl (by decide) rfl (fun ls hl => ?_)
  refine lv_iload_n hx hb dJx4a65c_clear_da8c8_27 rfl (lv_at hl 0 rfl) ?_
  refine lv_iload_n hx hb dJx4a65c_clear_da8c8_28 rfl (lv_at hl 1 rfl) ?_
  refine lv_icmp_ge (tgt := 42) hx hb dJx4a65c_clear_da8c8_29 (by decide) (fun _ => ?_) (fun c1 => absurd (by decide) c1)
  refine W.widen (k := 0) (n := 0) (Nat.le_of_ble_eq_true rfl) (Nat.le_of_ble_eq_true rfl) ?_
  have hP9 := hP.sub (ws' := [(h, .inr (2, [.int (md + 1), .ref E, .int 0]))]) [0] rfl
  have hD9 := hD.sub (ws' := [(h, .inr (2, [.int (md + 1), .ref E, .int 0]))]) [0] (by decide) rfl
  exact W.vret hx hb hr (fun t ht hW => ⟨⟨(), rfl, trivial, ⟨by rw [ht]; exact hP9, hD9⟩⟩, hS.F ht⟩) hS.2.2 dJx4a65c_clear_da8c8_42
