/-! OWN LAYER: the words of the tables in one list, the statics of the launch, the picture that a call hands over -/
def WA : List Cond := lw_tbl.filter goodWord
theorem WA_tbl {w : Cond} (h : w ∈ WA) : w ∈ lw_tbl := (List.mem_filter.mp h).1
theorem WA_good {w : Cond} (h : w ∈ WA) : (w.onTables && w.keeps) = true ∨ ∃ ty, w = .arrayClass ty := good_of_word (List.mem_filter.mp h).2
theorem WA_of {w : Cond} (h : w ∈ lw_tbl) (g : goodWord w = true) : w ∈ WA := List.mem_filter.mpr ⟨h, g⟩
theorem WA_in {ws : List Cond} (h : ∀ w ∈ ws, w ∈ WA) : GoodIn WA ws := fun w hw => ⟨h w hw, WA_good (h w hw)⟩
theorem tb_1 {w : Cond} (i : Nat) (h : tables_1_1[i]? = some w) : w ∈ lw_tbl := by
  unfold lw_tbl tables_1
  exact List.mem_append_right _ (List.mem_append_left _ (List.mem_of_getElem? h))
theorem tb_2 {w : Cond} (i : Nat) (h : tables_1_2[i]? = some w) : w ∈ lw_tbl := by
  unfold lw_tbl tables_1
  exact List.mem_append_right _ (List.mem_append_right _ (List.mem_append_left _ (List.mem_of_getElem? h)))
theorem tb_3 {w : Cond} (i : Nat) (h : tables_1_3[i]? = some w) : w ∈ lw_tbl := by
  unfold lw_tbl tables_1
  exact List.mem_append_right _ (List.mem_append_right _ (List.mem_append_right _ (List.mem_append_left _ (List.mem_of_getElem? h))))
theorem tb_4 {w : Cond} (i : Nat) (h : tables_1_4[i]? = some w) : w ∈ lw_tbl := by
  unfold lw_tbl tables_1
  exact List.mem_append_right _ (List.mem_append_right _ (List.mem_append_right _ (List.mem_append_right _ (List.mem_append_left _ (List.mem_of_getElem? h)))))
theorem tb_5 {w : Cond} (i : Nat) (h : tables_1_5[i]? = some w) : w ∈ lw_tbl := by
  unfold lw_tbl tables_1
  exact List.mem_append_right _ (List.mem_append_right _ (List.mem_append_right _ (List.mem_append_right _ (List.mem_append_right _ (List.mem_append_left _ (List.mem_of_getElem? h))))))
theorem tb_6 {w : Cond} (i : Nat) (h : tables_1_6[i]? = some w) : w ∈ lw_tbl := by
  unfold lw_tbl tables_1
  exact List.mem_append_right _ (List.mem_append_right _ (List.mem_append_right _ (List.mem_append_right _ (List.mem_append_right _ (List.mem_append_right _ (List.mem_append_left _ (List.mem_of_getElem? h)))))))
theorem tb_7 {w : Cond} (i : Nat) (h : tables_1_7[i]? = some w) : w ∈ lw_tbl := by
  unfold lw_tbl tables_1
  exact List.mem_append_right _ (List.mem_append_right _ (List.mem_append_right _ (List.mem_append_right _ (List.mem_append_right _ (List.mem_append_right _ (List.mem_append_right _ (List.mem_of_getElem? h)))))))
theorem sb_1 {q : MethodName × Nat} (i : Nat) (h : lw_privs_1[i]? = some q) : Cond.selects q.1.cls q.1 q.1 ∈ lw_tbl := by
  unfold lw_tbl k2_sels lw_privs
  exact List.mem_append_left _ (List.mem_map.mpr ⟨q, List.mem_append_left _ (List.mem_of_getElem? h), rfl⟩)
theorem sb_2 {q : MethodName × Nat} (i : Nat) (h : lw_privs_2[i]? = some q) : Cond.selects q.1.cls q.1 q.1 ∈ lw_tbl := by
  unfold lw_tbl k2_sels lw_privs
  exact List.mem_append_left _ (List.mem_map.mpr ⟨q, List.mem_append_right _ (List.mem_append_left _ (List.mem_of_getElem? h)), rfl⟩)
theorem sb_3 {q : MethodName × Nat} (i : Nat) (h : lw_privs_3[i]? = some q) : Cond.selects q.1.cls q.1 q.1 ∈ lw_tbl := by
  unfold lw_tbl k2_sels lw_privs
  exact List.mem_append_left _ (List.mem_map.mpr ⟨q, List.mem_append_right _ (List.mem_append_right _ (List.mem_append_left _ (List.mem_of_getElem? h))), rfl⟩)
theorem sb_4 {q : MethodName × Nat} (i : Nat) (h : lw_privs_4[i]? = some q) : Cond.selects q.1.cls q.1 q.1 ∈ lw_tbl := by
  unfold lw_tbl k2_sels lw_privs
  exact List.mem_append_left _ (List.mem_map.mpr ⟨q, List.mem_append_right _ (List.mem_append_right _ (List.mem_append_right _ (List.mem_of_getElem? h))), rfl⟩)
def wq (c : Cond) : List Cond := c :: WA
theorem ga_V {own C : String} {i : Nat} {y : MethodName} {c : Cond} (h1 : Cond.methodLink own i y ∈ WA) (h2 : Cond.instanceMethod y ∈ WA) (h3 : Cond.selects C y y ∈ WA) (h4 : Cond.initialized C ∈ WA) (h5 : c ∈ WA) : GoodIn WA (wsV own i C y (wq c)) := WA_in fun w hw => by
  simp only [wsV, wq, List.cons_append, List.nil_append, List.mem_cons] at hw
  rcases hw with rfl | rfl | rfl | rfl | rfl | h <;> assumption
theorem ga_S {own : String} {i : Nat} {y : MethodName} {c : Cond} (h1 : Cond.methodLink own i y ∈ WA) (h2 : Cond.static y ∈ WA) (h4 : Cond.initialized y.cls ∈ WA) (h5 : c ∈ WA) : GoodIn WA (va_wsS own i y (wq c)) := WA_in fun w hw => by
  simp only [va_wsS, wq, List.cons_append, List.nil_append, List.mem_cons] at hw
  rcases hw with rfl | rfl | rfl | rfl | h <;> assumption
theorem ga_I {c : Cond} (h5 : c ∈ WA) : GoodIn WA (wq c) := WA_in fun w hw => by
  simp only [wq, List.mem_cons] at hw
  rcases hw with rfl | h <;> assumption
abbrev TY (dA : Nat → ClassId) : List (ClassId × FieldType) := [(dA 0, .int), (dA 1, .char), (dA 2, .boolean), (dA 3, .long), (dA 4, .double), (dA 5, .object "java/lang/Object")]
def zC : List (String × String) := [("java/lang/IllegalArgumentException", "java/lang/IllegalArgumentException"), ("java/lang/IllegalStateException", "java/lang/IllegalStateException"), ("java/lang/ArrayIndexOutOfBoundsException", "java/lang/ArrayIndexOutOfBoundsException"), ("java/lang/IndexOutOfBoundsException", "java/lang/IndexOutOfBoundsException"), ("java/util/NoSuchElementException", "java/util/NoSuchElementException"), ("java/lang/ArithmeticException", "java/lang/ArithmeticException"), ("java/lang/ArrayIndexOutOfBoundsException", "java/lang/IndexOutOfBoundsException"), ("TallowIndex", "java/lang/Object"), ("java/util/ArrayList", "java/lang/Object"), ("TallowIndex$Shelf", "java/lang/Object"), ("TallowIndex$Row", "java/lang/Object"), ("TallowIndex$Search", "java/lang/Object"), ("TallowIndexModel", "java/lang/Object"), ("java/lang/IllegalArgumentException", "java/lang/Object"), ("java/lang/IllegalStateException", "java/lang/Object"), ("TallowIndex$Step", "java/lang/Object"), ("java/lang/ArrayIndexOutOfBoundsException", "java/lang/Object"), ("java/lang/IndexOutOfBoundsException", "java/lang/Object"), ("TallowIndex$Document", "java/lang/Object"), ("TallowIndex$Text", "java/lang/Object"), ("TallowIndex$View", "java/lang/Object"), ("TallowIndex$Query", "java/lang/Object"), ("java/util/NoSuchElementException", "java/lang/Object"), ("java/lang/ArithmeticException", "java/lang/Object"), ("java/lang/Throwable", "java/lang/Object"), ("java/lang/String", "java/lang/Object"), ("[I", "java/lang/Object"), ("[B", "java/lang/Object"), ("[Ljava/lang/Object;", "java/lang/Object"), ("[C", "java/lang/Object"), ("[Z", "java/lang/Object"), ("[J", "java/lang/Object"), ("[D", "java/lang/Object")]
def zD : List MethodName := [⟨"java/lang/RuntimeException", "<init>", "()V"⟩, ⟨"java/lang/RuntimeException", "<init>", "(Ljava/lang/String;)V"⟩, ⟨"java/lang/Exception", "<init>", "()V"⟩, ⟨"java/lang/Exception", "<init>", "(Ljava/lang/String;)V"⟩, ⟨"java/lang/Throwable", "<init>", "()V"⟩, ⟨"java/lang/Throwable", "<init>", "(Ljava/lang/String;)V"⟩, ⟨"java/lang/IndexOutOfBoundsException", "<init>", "()V"⟩, ⟨"java/lang/IndexOutOfBoundsException", "<init>", "(Ljava/lang/String;)V"⟩, ⟨"java/lang/Object", "getClass", "()Ljava/lang/Class;"⟩]
def zF : List (String × Nat × String × String × String × String) := [("TallowIndex", 160, "TallowIndex$Shelf", "segmentCount", "I", "TallowIndex"), ("TallowIndex", 255, "TallowIndex$Search", "found", "I", "TallowIndex"), ("TallowIndex$Query", 58, "TallowIndex$Text", "words", "LTallowIndex$Row;", "TallowIndex"), ("TallowIndex$Query", 79, "TallowIndex$Text", "places", "LTallowIndex$Row;", "TallowIndex"), ("TallowIndex$Query", 72, "TallowIndex$Text", "indexes", "LTallowIndex$Row;", "TallowIndex"), ("TallowIndex", 114, "TallowIndex$Text", "count", "I", "TallowIndex"), ("TallowIndex$Query", 55, "TallowIndex$Text", "count", "I", "TallowIndex"), ("TallowIndex$Search", 109, "TallowIndex$Text", "count", "I", "TallowIndex"), ("TallowIndex", 328, "TallowIndex$Document", "tag", "I", "TallowIndex"), ("TallowIndex", 331, "TallowIndex$Document", "whole", "I", "TallowIndex"), ("TallowIndex", 110, "TallowIndex$Document", "text", "LTallowIndex$Text;", "TallowIndex"), ("TallowIndex$Search", 101, "TallowIndex$Document", "text", "LTallowIndex$Text;", "TallowIndex"), ("TallowIndex$Search", 134, "TallowIndex$Document", "clicks", "I", "TallowIndex"), ("TallowIndex", 292, "TallowIndex$Document", "clicks", "I", "TallowIndex"), ("TallowIndex", 319, "TallowIndex$View", "number", "I", "TallowIndex"), ("TallowIndex$Search", 114, "TallowIndex$View", "count", "I", "TallowIndex"), ("TallowIndex", 221, "TallowIndex$View", "count", "I", "TallowIndex"), ("TallowIndex$Search", 119, "TallowIndex$Query", "first", "I", "TallowIndex"), ("TallowIndex$Search", 122, "TallowIndex$Query", "second", "I", "TallowIndex"), ("TallowIndex", 246, "TallowIndex$Query", "wordQueries", "I", "TallowIndex")]
def zM : List (String × Nat × MethodName × String) := [("TallowIndex", 27, ⟨"TallowIndex$Shelf", "<init>", "()V"⟩, "TallowIndex"), ("TallowIndex", 46, ⟨"TallowIndex$Search", "<init>", "()V"⟩, "TallowIndex"), ("TallowIndex$Step", 20, ⟨"TallowIndex", "isWord", "(I)Z"⟩, "TallowIndex"), ("TallowIndex$Document", 9, ⟨"TallowIndex$Text", "<init>", "()V"⟩, "TallowIndex"), ("TallowIndex$Query", 31, ⟨"TallowIndex", "isWord", "(I)Z"⟩, "TallowIndex")]
def zS : List (String × Nat × String) := [("TallowIndex", 59, "no such kind or word"), ("TallowIndex", 70, "all steps are told"), ("TallowIndex", 313, "no such tag"), ("TallowIndex", 315, "no such document"), ("TallowIndex", 93, "a text is open"), ("TallowIndex", 95, "all documents are numbered"), ("TallowIndex", 106, "no such word"), ("TallowIndex", 108, "no text is open"), ("TallowIndex", 120, "the text is full"), ("TallowIndex", 144, "the document is removed or lost"), ("TallowIndex", 168, "no such segment"), ("TallowIndex", 175, "no next segment"), ("TallowIndex", 191, "nothing was committed"), ("TallowIndex", 199, "all views are open"), ("TallowIndex", 212, "no such open view"), ("TallowIndex", 228, "no such kind, word or distance"), ("TallowIndex", 230, "no such weight"), ("TallowIndex", 232, "all queries are numbered"), ("TallowIndex", 241, "no such kind"), ("TallowIndex", 317, "no such query"), ("TallowIndex", 249, "too many queries of words"), ("TallowIndex", 326, "no such hit"), ("TallowIndex$View", 32, "the document is not in the view"), ("TallowIndex", 275, "no hit has the tag"), ("TallowIndex", 284, "it is the whole of no hit"), ("TallowIndex", 290, "no such number"), ("TallowIndex", 295, "the bound is out of range"), ("TallowIndex", 305, "no documents are in segments"), ("TallowIndex", 311, "the view has no documents")]
def zN : List (String × String) := [("java/lang/IllegalStateException", "java/lang/IllegalArgumentException"), ("java/lang/IndexOutOfBoundsException", "java/lang/IllegalArgumentException"), ("java/util/NoSuchElementException", "java/lang/IllegalArgumentException"), ("java/lang/ArithmeticException", "java/lang/IllegalArgumentException"), ("java/lang/IllegalArgumentException", "java/lang/IllegalStateException"), ("java/lang/IndexOutOfBoundsException", "java/lang/IllegalStateException"), ("java/util/NoSuchElementException", "java/lang/IllegalStateException"), ("java/lang/ArithmeticException", "java/lang/IllegalStateException"), ("java/lang/IllegalArgumentException", "java/lang/IndexOutOfBoundsException"), ("java/lang/IllegalStateException", "java/lang/IndexOutOfBoundsException"), ("java/util/NoSuchElementException", "java/lang/IndexOutOfBoundsException"), ("java/lang/ArithmeticException", "java/lang/IndexOutOfBoundsException"), ("java/lang/IllegalArgumentException", "java/util/NoSuchElementException"), ("java/lang/IllegalStateException", "java/util/NoSuchElementException"), ("java/lang/IndexOutOfBoundsException", "java/util/NoSuchElementException"), ("java/lang/ArithmeticException", "java/util/NoSuchElementException"), ("java/lang/IllegalArgumentException", "java/lang/ArithmeticException"), ("java/lang/IllegalStateException", "java/lang/ArithmeticException"), ("java/lang/IndexOutOfBoundsException", "java/lang/ArithmeticException"), ("java/util/NoSuchElementException", "java/lang/ArithmeticException")]
/-- what the tables and the launch say, that no word of a method's list says -/
def ZS (s : State) : Prop := (∀ q ∈ zC, va_Nw (.castable q.1 q.2) s) ∧ (∀ x ∈ zD, va_Nw (.declares x) s) ∧ (∀ q ∈ zF, va_Nw (.fieldLinkNest q.1 q.2.1 q.2.2.1 q.2.2.2.1 q.2.2.2.2.1 q.2.2.2.2.2) s) ∧ (∀ q ∈ zM, va_Nw (.methodLinkNest q.1 q.2.1 q.2.2.1 q.2.2.2) s) ∧ (∀ q ∈ zS, ∃ a, vk_R q.1 q.2.1 q.2.2 a s) ∧ va_AO "java/lang/Object" s ∧ ∀ q ∈ zN, va_Nc q.1 q.2 s
theorem ZS.warm {s U : State} (hW : s.WarmedH U.vm) (h : ZS s) : ZS U := ⟨fun q hq => va_Nw.warmC hW (h.1 q hq), fun x hx => va_Nw.warmD hW (h.2.1 x hx), fun q hq => va_Nw.warmF hW (h.2.2.1 q hq), fun q hq => va_Nw.warmM hW (h.2.2.2.1 q hq), fun q hq => (h.2.2.2.2.1 q hq).imp fun a ha => vk_R.warm hW ha, va_AO.moved hW.alike h.2.2.2.2.2.1, fun q hq => va_Nc.moved hW.alike (h.2.2.2.2.2.2 q hq)⟩
theorem ZS.same {s U : State} (hv : s.vm = U.vm) (h : ZS s) : ZS U := ⟨fun q hq => va_Nw.same rfl hv (h.1 q hq), fun x hx => va_Nw.same rfl hv (h.2.1 x hx), fun q hq => va_Nw.same rfl hv (h.2.2.1 q hq), fun q hq => va_Nw.same rfl hv (h.2.2.2.1 q hq), fun q hq => (h.2.2.2.2.1 q hq).imp fun a ha => vk_R.same hv.symm ha, va_AO.moved (by rw [hv]; exact Vm.Alike.refl _) h.2.2.2.2.2.1, fun q hq => va_Nc.moved (by rw [hv]; exact Vm.Alike.refl _) (h.2.2.2.2.2.2 q hq)⟩
/-- .. and the statics that the class and its throws read: ArrayList's empty array lies at E -/
def ZZ (dA : Nat → ClassId) (E : Nat) (A : Nat → Prop) (U : State) (H : Heap) : Prop := ZS U ∧ vx_Zq Bundle.tN "UNASSIGNED_STACK" Bundle.steD A U H ∧ vx_Zq Bundle.tN "SUPPRESSED_SENTINEL" Bundle.listD A U H ∧ va_Z "java/util/ArrayList" "DEFAULTCAPACITY_EMPTY_ELEMENTDATA" "[Ljava/lang/Object;" (.ref E) A U H ∧ va_T (.object "java/lang/Object") E 0 (fun _ => .null) A U H ∧ va_Mi "[Ljava/lang/Object;" (dA 6) U
theorem ZZ.call {dA : Nat → ClassId} {E : Nat} {A A' : Nat → Prop} {s U : State} {H : Heap} {locs : List Loc} (h : ZZ dA E A s s.heap) (hS : va_S A s.heap H locs) (hU : U.heap = H) (hW : s.WarmedH U.vm) (hF : ∀ q, A' q → A q) : ZZ dA E A' U U.heap := by
  subst hU
  have hk : ∀ a : Nat, a < s.heap.size → ¬ A a → U.heap[a]? = s.heap[a]? := hS.2.1
  obtain ⟨h1, h2, h3, h4, h5, h6⟩ := h
  exact ⟨h1.warm hW, (vx_Zq.kept (vx_Zq.moved hW.alike h2) hk).narrow hF, (vx_Zq.kept (vx_Zq.moved hW.alike h3) hk).narrow hF, (va_Z.kept (va_Z.moved hW.alike h4) hk).narrow hF, (va_T.kept (va_T.moved hW.alike h5) hk).narrow hF, va_Mi.moved hW.alike h6⟩
theorem ZZ.same {dA : Nat → ClassId} {E : Nat} {A : Nat → Prop} {s U : State} {H : Heap} (hv : s.vm = U.vm) (h : ZZ dA E A s H) : ZZ dA E A U H := by
  have hal : s.vm.Alike U.vm := by rw [hv]; exact Vm.Alike.refl _
  exact ⟨h.1.same hv, vx_Zq.moved hal h.2.1, vx_Zq.moved hal h.2.2.1, va_Z.moved hal h.2.2.2.1, va_T.moved hal h.2.2.2.2.1, va_Mi.moved hal h.2.2.2.2.2⟩
/-- the picture that a call hands over -/
def PcB (D : va_G) (dA : Nat → ClassId) (E : Nat) (ws : va_W) (sz : Nat) (U : State) : Prop := U.heap.size = sz ∧ va_P D vwCl ws U.heap ∧ va_K D vwCl (TY dA) U ∧ va_D (fun _ => True) ws ∧ ZZ dA E (va_A ws sz) U U.heap
theorem pb_blind {av : List Value} {D : va_G} {dA : Nat → ClassId} {E : Nat} {ws : va_W} {sz : Nat} : FrameBlind (va_Pc av (PcB D dA E ws sz)) := fun a U g mk q => by
  obtain ⟨e, h1, h2, h3, h4, h5⟩ := q
  exact ⟨e, h1, h2, va_K.moved (u := U) (U := U.calling g mk a) (Vm.Alike.refl U.vm) h3, h4, ZZ.same (s := U) (U := U.calling g mk a) rfl h5⟩
theorem pb_pre {D : va_G} {dA : Nat → ClassId} {E : Nat} {wc : va_W} {H : Heap} {A A0 : Nat → Prop} {s : State} {locs : List Loc} (hK : va_K D vwCl (TY dA) s) (hPc : va_P D vwCl wc H) (hDc : va_D A0 wc) (hZ : ZZ dA E A s s.heap) (hS : va_S A s.heap H locs) (hF : ∀ q, va_A wc H.size q → A q) (av : List Value) : ∀ U : State, U.heap = H → s.WarmedH U.vm → va_Pc av (PcB D dA E wc H.size) av.toArray U :=
  fun U hU hW => ⟨rfl, by rw [hU], by rw [hU]; exact hPc, va_K.moved hW.alike hK, hDc.weaken (fun _ _ _ _ => trivial), ZZ.call hZ hS hU hW hF⟩
theorem ra_eq {U : State} {cA cB : ClassId} {ty : FieldType} (h1 : va_RA U cA ty) (h2 : va_RA U cB ty) : cA = cB := by
  cases ty with
  | object C =>
    obtain ⟨k1, c1, -, -, -, e1⟩ := h1
    obtain ⟨k2, c2, -, -, -, e2⟩ := h2
    exact Option.some.inj (e1.symm.trans e2)
  | _ => exact Option.some.inj (h1.symm.trans h2)
theorem ty_eq {D : va_G} {dA : Nat → ClassId} {s : State} {cA : ClassId} {ty : FieldType} (k : Nat) (h : va_K D vwCl (TY dA ++ [(cA, ty)]) s) (hk : (TY dA)[k]? = some (dA k, ty)) : cA = dA k := by
  have hlt : k < (TY dA).length := (List.getElem?_eq_some_iff.mp hk).1
  have h1 := (h.2 k (dA k, ty) (by rw [List.getElem?_append_left hlt]; exact hk)).2
  have h2 := (h.2 6 (cA, ty) rfl).2
  exact ra_eq h2 h1
/-- exceptions by number -/
def xN : Nat → String | 1 => "java/lang/IllegalArgumentException" | 2 => "java/lang/IndexOutOfBoundsException" | 3 => "java/lang/IllegalStateException" | 4 => "java/lang/ArithmeticException" | _ => "java/util/NoSuchElementException"
section LY
variable {l : Launch} {y : MethodName} {cc : ByteArray} {maxL : Nat} {ret : Option FieldType} {rm : Room} {av : List Value} {D : va_G} {dA : Nat → ClassId} {E : Nat} {ws : va_W} {sz : Nat} {mc ms : Nat}
/-- a method's body, from its entry -/
theorem mb_of {Qc : (Nat → Prop) → Array Value → State → Outcome → State → Prop} (C : String) (hC : y.cls = C) (hy : plainName y.cls = true) (hn : (lg_sl av).length ≤ maxL) (body : ∀ (p : Program) (e : Env) (s : State) (m : MethodId) (args : Array Value) (below : List Frame) (meth : Method) (c : Code), args = av.toArray → p.tables.exec = Jvm.exec → c.code = cc → meth.sig.returnType = ret → (∀ w ∈ WA, w.before args s = true) → s.vm.findClass C = some m.cls → meth.locks = false → c.maxLocals = maxL → meth.name = y.name → va_P D vwCl ws s.heap → va_K D vwCl (TY dA) s → ∀ A : Nat → Prop, va_A ws s.heap.size = A → va_D A ws → ZZ dA E A s s.heap → va_S A s.heap s.heap [] → (∀ q, s.heap.size ≤ q → A q) → ∀ ls : Array Slot, lv_has ls maxL (lv_args 0 av) →
    W p l e rm s m args below meth c s.heap [] 0 0 (MQ below (Qc A) args s mc ms A) (F0 m 0 ls [])) : Met l y (wq (.code y cc maxL ret)) rm (va_Pc av (PcB D dA E ws sz)) (Qc (va_A ws sz)) mc ms (va_A ws sz) := by
  refine Met.ofW (cc := cc) (maxL := maxL) (ret := ret) hy rfl ?_
  intro p e s m args below meth c s₁ B hml hv
  obtain ⟨rfl, rfl, hP, hK, hD0, hZ⟩ := hv
  have hts := atoms_spec (ws := wq (.code y cc maxL ret)) B.pre
  have hown : s.vm.findClass C = some m.cls := by rw [← hC]; exact findClass_of_methodNamed B.named
  have hl := lv_entry av (n := maxL) hn
  rw [lg_entry_eq]
  exact body p e s m _ below meth c rfl B.exec B.bytes B.returns (fun w h => hts w (List.mem_cons_of_mem _ h)) hown B.notSynchronized hml (name_of_methodNamed B.named B.method).1 hP hK _ rfl hD0.self hZ va_S.rf (fun q h => Or.inr h) _ hl
/-- .. of a method that may throw -/
theorem mx_of {Qc : (Nat → Prop) → Array Value → State → Outcome → State → Prop} {XC : (Nat → Prop) → String → State → State → Prop} (C : String) (hC : y.cls = C) (hy : plainName y.cls = true) (hn : (lg_sl av).length ≤ maxL) (body : ∀ (p : Program) (e : Env) (s : State) (m : MethodId) (args : Array Value) (below : List Frame) (meth : Method) (c : Code), args = av.toArray → p.tables.exec = Jvm.exec → c.code = cc → meth.sig.returnType = ret → (∀ w ∈ WA, w.before args s = true) → s.vm.findClass C = some m.cls → meth.locks = false → c.maxLocals = maxL → meth.name = y.name → (∀ x ∈ c.exceptionTable.toList, False) → va_P D vwCl ws s.heap → va_K D vwCl (TY dA) s → ∀ A : Nat → Prop, va_A ws s.heap.size = A → va_D A ws → ZZ dA E A s s.heap → va_S A s.heap s.heap [] → (∀ q, s.heap.size ≤ q → A q) → ∀ ls : Array Slot, lv_has ls maxL (lv_args 0 av) →
    W p l e rm s m args below meth c s.heap [] 0 0 (vx_MQ below (Qc A) (XC A) args s mc ms A) (F0 m 0 ls [])) : vx_Met l y (wq (.code y cc maxL ret)) rm (va_Pc av (PcB D dA E ws sz)) (Qc (va_A ws sz)) (XC (va_A ws sz)) mc ms (va_A ws sz) := by
  refine vx_ofW (cc := cc) (maxL := maxL) (ret := ret) hy rfl ?_
  intro p e s m args below meth c s₁ B hml htb hv
  obtain ⟨rfl, rfl, hP, hK, hD0, hZ⟩ := hv
  have hts := atoms_spec (ws := wq (.code y cc maxL ret)) B.pre
  have hown : s.vm.findClass C = some m.cls := by rw [← hC]; exact findClass_of_methodNamed B.named
  have hl := lv_entry av (n := maxL) hn
  rw [lg_entry_eq]
  exact body p e s m _ below meth c rfl B.exec B.bytes B.returns (fun w h => hts w (List.mem_cons_of_mem _ h)) hown B.notSynchronized hml (name_of_methodNamed B.named B.method).1 htb hP hK _ rfl hD0.self hZ va_S.rf (fun q h => Or.inr h) _ hl
/-- .. of a method with handlers -/
theorem mh_of {hh : List (Nat × Nat × Nat × Nat)} {Qc : (Nat → Prop) → Array Value → State → Outcome → State → Prop} {XC : (Nat → Prop) → String → State → State → Prop} (C : String) (hC : y.cls = C) (hy : plainName y.cls = true) (hn : (lg_sl av).length ≤ maxL) (body : ∀ (p : Program) (e : Env) (s : State) (m : MethodId) (args : Array Value) (below : List Frame) (meth : Method) (c : Code), args = av.toArray → p.tables.exec = Jvm.exec → c.code = cc → meth.sig.returnType = ret → (∀ w ∈ WA, w.before args s = true) → s.vm.findClass C = some m.cls → meth.locks = false → c.maxLocals = maxL → meth.name = y.name → c.exceptionTable.toList = tableOf hh → va_P D vwCl ws s.heap → va_K D vwCl (TY dA) s → ∀ A : Nat → Prop, va_A ws s.heap.size = A → va_D A ws → ZZ dA E A s s.heap → va_S A s.heap s.heap [] → (∀ q, s.heap.size ≤ q → A q) → ∀ ls : Array Slot, lv_has ls maxL (lv_args 0 av) →
    W p l e rm s m args below meth c s.heap [] 0 0 (vx_MQ below (Qc A) (XC A) args s mc ms A) (F0 m 0 ls [])) : vx_Met l y (wq (.codeWith y cc maxL ret hh)) rm (va_Pc av (PcB D dA E ws sz)) (Qc (va_A ws sz)) (XC (va_A ws sz)) mc ms (va_A ws sz) := by
  refine vx_ofWH (cc := cc) (maxL := maxL) (ret := ret) (hh := hh) hy rfl ?_
  intro p e s m args below meth c s₁ B hml hv
  obtain ⟨rfl, rfl, hP, hK, hD0, hZ⟩ := hv
  have hts := atoms_spec (ws := wq (.codeWith y cc maxL ret hh)) B.pre
  have hown : s.vm.findClass C = some m.cls := by rw [← hC]; exact findClass_of_methodNamed B.named
  have hl := lv_entry av (n := maxL) hn
  rw [lg_entry_eq]
  exact body p e s m _ below meth c rfl B.exec B.bytes B.returns (fun w h => hts w (List.mem_cons_of_mem _ h)) hown B.notSynchronized hml (name_of_methodNamed B.named B.method).1 (vx_table (x := y) B (hts _ List.mem_cons_self)) hP hK _ rfl hD0.self hZ va_S.rf (fun q h => Or.inr h) _ hl
end LY
