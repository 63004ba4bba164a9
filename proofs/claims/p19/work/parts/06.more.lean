/-! OWN SUPPORT -/
theorem vi_c {i : Int32} {n : Nat} (h : decide (¬ (i < 0 ∨ n ≤ i.toNatClampNeg)) = true) : vp_in i n := by
  have h2 : ¬ (i < 0 ∨ n ≤ i.toNatClampNeg) := of_decide_eq_true h
  exact h2
theorem jn_nil {D : va_G} {cl : List vw_C} {H : Heap} : va_P D cl [] H := fun k q h => by simp at h
theorem jn_nilD {A : Nat → Prop} : va_D A [] := ⟨fun i j p q h => by simp at h, fun k q h => by simp at h⟩
theorem jn_drop {A0 : Nat → Prop} {D : va_G} {cl : List vw_C} {ws wc wr : va_W} {H H1 : Heap} (hP : va_P D cl ws H) (hD : va_D A0 ws) (isC isR : List Nat) (hC : isC.map (fun i => ws[i]?) = wc.map some) (hR : isR.map (fun i => ws[i]?) = wr.map some) (hn : va_nd isR = true) (hdis : ∀ i ∈ isR, i ∉ isC) (hk : ∀ q : Nat, q < H.size → ¬ va_A wc H.size q → H1[q]? = H[q]?) (hF : ∀ q, va_A wc H.size q → A0 q) : va_P D cl wr H1 ∧ va_D A0 wr := by
  have h := va_join (w1 := []) hP hD isC isR hC hR hn hdis hk hF jn_nil jn_nilD
  rw [List.append_nil] at h
  exact h
theorem sF_t {A : Nat → Prop} {s t : State} {H : Heap} {locs : List Loc} (hS : va_S A s.heap H locs) (hz : H.size ≤ t.heap.size) (hk : ∀ q : Nat, q < H.size → t.heap[q]? = H[q]?) : va_F A s t := ⟨Nat.le_trans hS.1 hz, fun q h1 h2 => (hk q (Nat.lt_of_lt_of_le h1 hS.1)).trans (hS.2.1 q h1 h2)⟩
theorem hFitN : ∀ n ∈ ["java/lang/RuntimeException", "java/lang/Exception"], Bundle.fit n = true := by decide +kernel
theorem hFit_1 : Bundle.fit "java/lang/IllegalArgumentException" = true := by decide +kernel
theorem hFit_2 : Bundle.fit "java/lang/IndexOutOfBoundsException" = true := by decide +kernel
theorem hFit_3 : Bundle.fit "java/lang/IllegalStateException" = true := by decide +kernel
theorem hFit_4 : Bundle.fit "java/lang/ArithmeticException" = true := by decide +kernel
theorem hFit_5 : Bundle.fit "java/util/NoSuchElementException" = true := by decide +kernel
theorem inAJx4a65c : ∀ w ∈ u_ws RJx4a65c TJx4a65c 3, w ∈ WA := by
  show ∀ w ∈ ([.lays "java/util/ArrayList" "java/util/AbstractList" "modCount" "I", .lays "java/util/ArrayList" "java/util/ArrayList" "elementData" "[Ljava/lang/Object;", .lays "java/util/ArrayList" "java/util/ArrayList" "size" "I"] : List Cond), w ∈ WA
  exact List.forall_mem_cons.mpr ⟨WA_of (tb_1 61 rfl) rfl, List.forall_mem_cons.mpr ⟨WA_of (tb_1 57 rfl) rfl, List.forall_mem_cons.mpr ⟨WA_of (tb_1 59 rfl) rfl, fun _ h => absurd h List.not_mem_nil⟩⟩⟩
theorem fsNJx4a65c : ∀ j, j < 3 → defaultValue (tyJx4a65c j) = vp_V [.int 0, .null, .int 0] j := by
  intro j hj
  rcases (show j = 0 ∨ j = 1 ∨ j = 2 by omega) with rfl | rfl | rfl <;> rfl
theorem inAX0 : ∀ w ∈ u_ws RX0 TX0 4, w ∈ WA := by
  show ∀ w ∈ ([.laysFinal "TallowIndex$Document" "TallowIndex$Document" "tag" "I", .laysFinal "TallowIndex$Document" "TallowIndex$Document" "whole" "I", .laysFinal "TallowIndex$Document" "TallowIndex$Document" "text" "LTallowIndex$Text;", .lays "TallowIndex$Document" "TallowIndex$Document" "clicks" "I"] : List Cond), w ∈ WA
  exact List.forall_mem_cons.mpr ⟨WA_of (tb_3 27 rfl) rfl, List.forall_mem_cons.mpr ⟨WA_of (tb_3 29 rfl) rfl, List.forall_mem_cons.mpr ⟨WA_of (tb_3 31 rfl) rfl, List.forall_mem_cons.mpr ⟨WA_of (tb_3 33 rfl) rfl, fun _ h => absurd h List.not_mem_nil⟩⟩⟩⟩
theorem fsNX0 : ∀ j, j < 4 → defaultValue (tyX0 j) = vp_V [.int 0, .int 0, .null, .int 0] j := by
  intro j hj
  rcases (show j = 0 ∨ j = 1 ∨ j = 2 ∨ j = 3 by omega) with rfl | rfl | rfl | rfl <;> rfl
theorem inAX1 : ∀ w ∈ u_ws RX1 TX1 6, w ∈ WA := by
  show ∀ w ∈ ([.laysFinal "TallowIndex$Query" "TallowIndex$Query" "kind" "C", .laysFinal "TallowIndex$Query" "TallowIndex$Query" "first" "I", .laysFinal "TallowIndex$Query" "TallowIndex$Query" "second" "I", .laysFinal "TallowIndex$Query" "TallowIndex$Query" "distance" "I", .laysFinal "TallowIndex$Query" "TallowIndex$Query" "weight" "I", .laysFinal "TallowIndex$Query" "TallowIndex$Query" "wordQueries" "I"] : List Cond), w ∈ WA
  exact List.forall_mem_cons.mpr ⟨WA_of (tb_4 60 rfl) rfl, List.forall_mem_cons.mpr ⟨WA_of (tb_4 62 rfl) rfl, List.forall_mem_cons.mpr ⟨WA_of (tb_4 64 rfl) rfl, List.forall_mem_cons.mpr ⟨WA_of (tb_4 66 rfl) rfl, List.forall_mem_cons.mpr ⟨WA_of (tb_4 68 rfl) rfl, List.forall_mem_cons.mpr ⟨WA_of (tb_4 70 rfl) rfl, fun _ h => absurd h List.not_mem_nil⟩⟩⟩⟩⟩⟩
theorem fsNX1 : ∀ j, j < 6 → defaultValue (tyX1 j) = vp_V [.int 0, .int 0, .int 0, .int 0, .int 0, .int 0] j := by
  intro j hj
  rcases (show j = 0 ∨ j = 1 ∨ j = 2 ∨ j = 3 ∨ j = 4 ∨ j = 5 by omega) with rfl | rfl | rfl | rfl | rfl | rfl <;> rfl
theorem inAX2 : ∀ w ∈ u_ws RX2 TX2 1, w ∈ WA := by
  show ∀ w ∈ ([.laysFinal "TallowIndex$Row" "TallowIndex$Row" "cells" "[I"] : List Cond), w ∈ WA
  exact List.forall_mem_cons.mpr ⟨WA_of (tb_1 77 rfl) rfl, fun _ h => absurd h List.not_mem_nil⟩
theorem fsNX2 : ∀ j, j < 1 → defaultValue (tyX2 j) = vp_V [.null] j := by
  intro j hj
  rcases (show j = 0 by omega) with rfl <;> rfl
theorem inAX3 : ∀ w ∈ u_ws RX3 TX3 8, w ∈ WA := by
  show ∀ w ∈ ([.laysFinal "TallowIndex$Search" "TallowIndex$Search" "parts" "LTallowIndex$Row;", .laysFinal "TallowIndex$Search" "TallowIndex$Search" "times" "LTallowIndex$Row;", .laysFinal "TallowIndex$Search" "TallowIndex$Search" "scores" "LTallowIndex$Row;", .laysFinal "TallowIndex$Search" "TallowIndex$Search" "ranks" "LTallowIndex$Row;", .laysFinal "TallowIndex$Search" "TallowIndex$Search" "order" "LTallowIndex$Row;", .laysFinal "TallowIndex$Search" "TallowIndex$Search" "marks" "LTallowIndex$Row;", .lays "TallowIndex$Search" "TallowIndex$Search" "asked" "I", .lays "TallowIndex$Search" "TallowIndex$Search" "found" "I"] : List Cond), w ∈ WA
  exact List.forall_mem_cons.mpr ⟨WA_of (tb_1 114 rfl) rfl, List.forall_mem_cons.mpr ⟨WA_of (tb_1 116 rfl) rfl, List.forall_mem_cons.mpr ⟨WA_of (tb_1 118 rfl) rfl, List.forall_mem_cons.mpr ⟨WA_of (tb_1 120 rfl) rfl, List.forall_mem_cons.mpr ⟨WA_of (tb_1 122 rfl) rfl, List.forall_mem_cons.mpr ⟨WA_of (tb_1 124 rfl) rfl, List.forall_mem_cons.mpr ⟨WA_of (tb_1 126 rfl) rfl, List.forall_mem_cons.mpr ⟨WA_of (tb_1 128 rfl) rfl, fun _ h => absurd h List.not_mem_nil⟩⟩⟩⟩⟩⟩⟩⟩
theorem fsNX3 : ∀ j, j < 8 → defaultValue (tyX3 j) = vp_V [.null, .null, .null, .null, .null, .null, .int 0, .int 0] j := by
  intro j hj
  rcases (show j = 0 ∨ j = 1 ∨ j = 2 ∨ j = 3 ∨ j = 4 ∨ j = 5 ∨ j = 6 ∨ j = 7 by omega) with rfl | rfl | rfl | rfl | rfl | rfl | rfl | rfl <;> rfl
theorem inAX4 : ∀ w ∈ u_ws RX4 TX4 4, w ∈ WA := by
  show ∀ w ∈ ([.laysFinal "TallowIndex$Shelf" "TallowIndex$Shelf" "states" "LTallowIndex$Row;", .laysFinal "TallowIndex$Shelf" "TallowIndex$Shelf" "homes" "LTallowIndex$Row;", .lays "TallowIndex$Shelf" "TallowIndex$Shelf" "documentCount" "I", .lays "TallowIndex$Shelf" "TallowIndex$Shelf" "segmentCount" "I"] : List Cond), w ∈ WA
  exact List.forall_mem_cons.mpr ⟨WA_of (tb_1 86 rfl) rfl, List.forall_mem_cons.mpr ⟨WA_of (tb_1 88 rfl) rfl, List.forall_mem_cons.mpr ⟨WA_of (tb_1 90 rfl) rfl, List.forall_mem_cons.mpr ⟨WA_of (tb_1 92 rfl) rfl, fun _ h => absurd h List.not_mem_nil⟩⟩⟩⟩
theorem fsNX4 : ∀ j, j < 4 → defaultValue (tyX4 j) = vp_V [.null, .null, .int 0, .int 0] j := by
  intro j hj
  rcases (show j = 0 ∨ j = 1 ∨ j = 2 ∨ j = 3 by omega) with rfl | rfl | rfl | rfl <;> rfl
theorem inAX5 : ∀ w ∈ u_ws RX5 TX5 3, w ∈ WA := by
  show ∀ w ∈ ([.laysFinal "TallowIndex$Step" "TallowIndex$Step" "kind" "C", .laysFinal "TallowIndex$Step" "TallowIndex$Step" "first" "I", .laysFinal "TallowIndex$Step" "TallowIndex$Step" "second" "I"] : List Cond), w ∈ WA
  exact List.forall_mem_cons.mpr ⟨WA_of (tb_2 100 rfl) rfl, List.forall_mem_cons.mpr ⟨WA_of (tb_2 102 rfl) rfl, List.forall_mem_cons.mpr ⟨WA_of (tb_2 104 rfl) rfl, fun _ h => absurd h List.not_mem_nil⟩⟩⟩
theorem fsNX5 : ∀ j, j < 3 → defaultValue (tyX5 j) = vp_V [.int 0, .int 0, .int 0] j := by
  intro j hj
  rcases (show j = 0 ∨ j = 1 ∨ j = 2 by omega) with rfl | rfl | rfl <;> rfl
theorem inAX6 : ∀ w ∈ u_ws RX6 TX6 4, w ∈ WA := by
  show ∀ w ∈ ([.laysFinal "TallowIndex$Text" "TallowIndex$Text" "words" "LTallowIndex$Row;", .laysFinal "TallowIndex$Text" "TallowIndex$Text" "places" "LTallowIndex$Row;", .laysFinal "TallowIndex$Text" "TallowIndex$Text" "indexes" "LTallowIndex$Row;", .lays "TallowIndex$Text" "TallowIndex$Text" "count" "I"] : List Cond), w ∈ WA
  exact List.forall_mem_cons.mpr ⟨WA_of (tb_3 9 rfl) rfl, List.forall_mem_cons.mpr ⟨WA_of (tb_3 11 rfl) rfl, List.forall_mem_cons.mpr ⟨WA_of (tb_3 13 rfl) rfl, List.forall_mem_cons.mpr ⟨WA_of (tb_3 15 rfl) rfl, fun _ h => absurd h List.not_mem_nil⟩⟩⟩⟩
theorem fsNX6 : ∀ j, j < 4 → defaultValue (tyX6 j) = vp_V [.null, .null, .null, .int 0] j := by
  intro j hj
  rcases (show j = 0 ∨ j = 1 ∨ j = 2 ∨ j = 3 by omega) with rfl | rfl | rfl | rfl <;> rfl
theorem inAX7 : ∀ w ∈ u_ws RX7 TX7 3, w ∈ WA := by
  show ∀ w ∈ ([.laysFinal "TallowIndex$View" "TallowIndex$View" "number" "I", .laysFinal "TallowIndex$View" "TallowIndex$View" "present" "LTallowIndex$Row;", .laysFinal "TallowIndex$View" "TallowIndex$View" "count" "I"] : List Cond), w ∈ WA
  exact List.forall_mem_cons.mpr ⟨WA_of (tb_3 232 rfl) rfl, List.forall_mem_cons.mpr ⟨WA_of (tb_3 234 rfl) rfl, List.forall_mem_cons.mpr ⟨WA_of (tb_3 236 rfl) rfl, fun _ h => absurd h List.not_mem_nil⟩⟩⟩
theorem fsNX7 : ∀ j, j < 3 → defaultValue (tyX7 j) = vp_V [.int 0, .null, .int 0] j := by
  intro j hj
  rcases (show j = 0 ∨ j = 1 ∨ j = 2 by omega) with rfl | rfl | rfl <;> rfl
theorem inAX8 : ∀ w ∈ u_ws RX8 TX8 12, w ∈ WA := by
  show ∀ w ∈ ([.laysFinal "TallowIndex" "TallowIndex" "steps" "Ljava/util/ArrayList;", .laysFinal "TallowIndex" "TallowIndex" "documents" "Ljava/util/ArrayList;", .laysFinal "TallowIndex" "TallowIndex" "views" "Ljava/util/ArrayList;", .laysFinal "TallowIndex" "TallowIndex" "queries" "Ljava/util/ArrayList;", .laysFinal "TallowIndex" "TallowIndex" "shelf" "LTallowIndex$Shelf;", .laysFinal "TallowIndex" "TallowIndex" "committed" "LTallowIndex$Shelf;", .laysFinal "TallowIndex" "TallowIndex" "replica" "LTallowIndex$Row;", .laysFinal "TallowIndex" "TallowIndex" "search" "LTallowIndex$Search;", .lays "TallowIndex" "TallowIndex" "opened" "LTallowIndex$Document;", .lays "TallowIndex" "TallowIndex" "commits" "I", .lays "TallowIndex" "TallowIndex" "viewsOpened" "I", .lays "TallowIndex" "TallowIndex" "bound" "I"] : List Cond), w ∈ WA
  exact List.forall_mem_cons.mpr ⟨WA_of (tb_1 143 rfl) rfl, List.forall_mem_cons.mpr ⟨WA_of (tb_1 145 rfl) rfl, List.forall_mem_cons.mpr ⟨WA_of (tb_1 147 rfl) rfl, List.forall_mem_cons.mpr ⟨WA_of (tb_1 149 rfl) rfl, List.forall_mem_cons.mpr ⟨WA_of (tb_1 151 rfl) rfl, List.forall_mem_cons.mpr ⟨WA_of (tb_1 153 rfl) rfl, List.forall_mem_cons.mpr ⟨WA_of (tb_1 155 rfl) rfl, List.forall_mem_cons.mpr ⟨WA_of (tb_1 157 rfl) rfl, List.forall_mem_cons.mpr ⟨WA_of (tb_1 159 rfl) rfl, List.forall_mem_cons.mpr ⟨WA_of (tb_1 161 rfl) rfl, List.forall_mem_cons.mpr ⟨WA_of (tb_1 163 rfl) rfl, List.forall_mem_cons.mpr ⟨WA_of (tb_1 165 rfl) rfl, fun _ h => absurd h List.not_mem_nil⟩⟩⟩⟩⟩⟩⟩⟩⟩⟩⟩⟩
theorem fsNX8 : ∀ j, j < 12 → defaultValue (tyX8 j) = vp_V [.null, .null, .null, .null, .null, .null, .null, .null, .null, .int 0, .int 0, .int 0] j := by
  intro j hj
  rcases (show j = 0 ∨ j = 1 ∨ j = 2 ∨ j = 3 ∨ j = 4 ∨ j = 5 ∨ j = 6 ∨ j = 7 ∨ j = 8 ∨ j = 9 ∨ j = 10 ∨ j = 11 by omega) with rfl | rfl | rfl | rfl | rfl | rfl | rfl | rfl | rfl | rfl | rfl | rfl <;> rfl
theorem inAX9 : ∀ w ∈ u_ws RX9 TX9 49, w ∈ WA := by
  show ∀ w ∈ ([.lays "TallowIndexModel" "TallowIndexModel" "thrown" "I", .lays "TallowIndexModel" "TallowIndexModel" "steps" "I", .laysFinal "TallowIndexModel" "TallowIndexModel" "stepKind" "[C", .laysFinal "TallowIndexModel" "TallowIndexModel" "stepOne" "[I", .laysFinal "TallowIndexModel" "TallowIndexModel" "stepTwo" "[I", .lays "TallowIndexModel" "TallowIndexModel" "isOpen" "Z", .lays "TallowIndexModel" "TallowIndexModel" "openTag" "I", .lays "TallowIndexModel" "TallowIndexModel" "openWhole" "I", .lays "TallowIndexModel" "TallowIndexModel" "openWords" "I", .laysFinal "TallowIndexModel" "TallowIndexModel" "openWord" "[I", .lays "TallowIndexModel" "TallowIndexModel" "documents" "I", .laysFinal "TallowIndexModel" "TallowIndexModel" "state" "[C", .laysFinal "TallowIndexModel" "TallowIndexModel" "tag" "[I", .laysFinal "TallowIndexModel" "TallowIndexModel" "whole" "[I", .laysFinal "TallowIndexModel" "TallowIndexModel" "clicks" "[I", .laysFinal "TallowIndexModel" "TallowIndexModel" "length" "[I", .laysFinal "TallowIndexModel" "TallowIndexModel" "word" "[I", .laysFinal "TallowIndexModel" "TallowIndexModel" "place" "[I", .laysFinal "TallowIndexModel" "TallowIndexModel" "index" "[I", .lays "TallowIndexModel" "TallowIndexModel" "segments" "I", .laysFinal "TallowIndexModel" "TallowIndexModel" "segment" "[I", .lays "TallowIndexModel" "TallowIndexModel" "commits" "I", .lays "TallowIndexModel" "TallowIndexModel" "keptDocuments" "I", .lays "TallowIndexModel" "TallowIndexModel" "keptSegments" "I", .laysFinal "TallowIndexModel" "TallowIndexModel" "keptState" "[C", .laysFinal "TallowIndexModel" "TallowIndexModel" "keptSegment" "[I", .laysFinal "TallowIndexModel" "TallowIndexModel" "onReplica" "[Z", .lays "TallowIndexModel" "TallowIndexModel" "openViews" "I", .lays "TallowIndexModel" "TallowIndexModel" "views" "I", .laysFinal "TallowIndexModel" "TallowIndexModel" "viewNumber" "[I", .laysFinal "TallowIndexModel" "TallowIndexModel" "sees" "[Z", .lays "TallowIndexModel" "TallowIndexModel" "queries" "I", .laysFinal "TallowIndexModel" "TallowIndexModel" "kind" "[C", .laysFinal "TallowIndexModel" "TallowIndexModel" "one" "[I", .laysFinal "TallowIndexModel" "TallowIndexModel" "two" "[I", .laysFinal "TallowIndexModel" "TallowIndexModel" "distance" "[I", .laysFinal "TallowIndexModel" "TallowIndexModel" "weight" "[I", .laysFinal "TallowIndexModel" "TallowIndexModel" "leaves" "[I", .lays "TallowIndexModel" "TallowIndexModel" "bound" "I", .lays "TallowIndexModel" "TallowIndexModel" "many" "I", .laysFinal "TallowIndexModel" "TallowIndexModel" "w" "[I", .laysFinal "TallowIndexModel" "TallowIndexModel" "p" "[I", .laysFinal "TallowIndexModel" "TallowIndexModel" "x" "[I", .laysFinal "TallowIndexModel" "TallowIndexModel" "less" "[I", .laysFinal "TallowIndexModel" "TallowIndexModel" "counted" "[I", .lays "TallowIndexModel" "TallowIndexModel" "hits" "I", .laysFinal "TallowIndexModel" "TallowIndexModel" "hit" "[I", .laysFinal "TallowIndexModel" "TallowIndexModel" "score" "[J", .laysFinal "TallowIndexModel" "TallowIndexModel" "marks" "[Z"] : List Cond), w ∈ WA
  exact List.forall_mem_cons.mpr ⟨WA_of (tb_5 171 rfl) rfl, List.forall_mem_cons.mpr ⟨WA_of (tb_5 173 rfl) rfl, List.forall_mem_cons.mpr ⟨WA_of (tb_5 175 rfl) rfl, List.forall_mem_cons.mpr ⟨WA_of (tb_5 177 rfl) rfl, List.forall_mem_cons.mpr ⟨WA_of (tb_5 179 rfl) rfl, List.forall_mem_cons.mpr ⟨WA_of (tb_5 181 rfl) rfl, List.forall_mem_cons.mpr ⟨WA_of (tb_5 183 rfl) rfl, List.forall_mem_cons.mpr ⟨WA_of (tb_5 185 rfl) rfl, List.forall_mem_cons.mpr ⟨WA_of (tb_5 187 rfl) rfl, List.forall_mem_cons.mpr ⟨WA_of (tb_5 189 rfl) rfl, List.forall_mem_cons.mpr ⟨WA_of (tb_5 191 rfl) rfl, List.forall_mem_cons.mpr ⟨WA_of (tb_5 193 rfl) rfl, List.forall_mem_cons.mpr ⟨WA_of (tb_5 195 rfl) rfl, List.forall_mem_cons.mpr ⟨WA_of (tb_5 197 rfl) rfl, List.forall_mem_cons.mpr ⟨WA_of (tb_5 199 rfl) rfl, List.forall_mem_cons.mpr ⟨WA_of (tb_5 201 rfl) rfl, List.forall_mem_cons.mpr ⟨WA_of (tb_5 203 rfl) rfl, List.forall_mem_cons.mpr ⟨WA_of (tb_5 205 rfl) rfl, List.forall_mem_cons.mpr ⟨WA_of (tb_5 207 rfl) rfl, List.forall_mem_cons.mpr ⟨WA_of (tb_5 209 rfl) rfl, List.forall_mem_cons.mpr ⟨WA_of (tb_5 211 rfl) rfl, List.forall_mem_cons.mpr ⟨WA_of (tb_5 213 rfl) rfl, List.forall_mem_cons.mpr ⟨WA_of (tb_5 215 rfl) rfl, List.forall_mem_cons.mpr ⟨WA_of (tb_5 217 rfl) rfl, List.forall_mem_cons.mpr ⟨WA_of (tb_5 219 rfl) rfl, List.forall_mem_cons.mpr ⟨WA_of (tb_5 221 rfl) rfl, List.forall_mem_cons.mpr ⟨WA_of (tb_5 223 rfl) rfl, List.forall_mem_cons.mpr ⟨WA_of (tb_5 225 rfl) rfl, List.forall_mem_cons.mpr ⟨WA_of (tb_5 227 rfl) rfl, List.forall_mem_cons.mpr ⟨WA_of (tb_5 229 rfl) rfl, List.forall_mem_cons.mpr ⟨WA_of (tb_5 231 rfl) rfl, List.forall_mem_cons.mpr ⟨WA_of (tb_5 233 rfl) rfl, List.forall_mem_cons.mpr ⟨WA_of (tb_5 235 rfl) rfl, List.forall_mem_cons.mpr ⟨WA_of (tb_5 237 rfl) rfl, List.forall_mem_cons.mpr ⟨WA_of (tb_5 239 rfl) rfl, List.forall_mem_cons.mpr ⟨WA_of (tb_6 1 rfl) rfl, List.forall_mem_cons.mpr ⟨WA_of (tb_6 3 rfl) rfl, List.forall_mem_cons.mpr ⟨WA_of (tb_6 5 rfl) rfl, List.forall_mem_cons.mpr ⟨WA_of (tb_6 7 rfl) rfl, List.forall_mem_cons.mpr ⟨WA_of (tb_6 9 rfl) rfl, List.forall_mem_cons.mpr ⟨WA_of (tb_6 11 rfl) rfl, List.forall_mem_cons.mpr ⟨WA_of (tb_6 13 rfl) rfl, List.forall_mem_cons.mpr ⟨WA_of (tb_6 15 rfl) rfl, List.forall_mem_cons.mpr ⟨WA_of (tb_6 17 rfl) rfl, List.forall_mem_cons.mpr ⟨WA_of (tb_6 19 rfl) rfl, List.forall_mem_cons.mpr ⟨WA_of (tb_6 21 rfl) rfl, List.forall_mem_cons.mpr ⟨WA_of (tb_6 23 rfl) rfl, List.forall_mem_cons.mpr ⟨WA_of (tb_6 25 rfl) rfl, List.forall_mem_cons.mpr ⟨WA_of (tb_6 27 rfl) rfl, fun _ h => absurd h List.not_mem_nil⟩⟩⟩⟩⟩⟩⟩⟩⟩⟩⟩⟩⟩⟩⟩⟩⟩⟩⟩⟩⟩⟩⟩⟩⟩⟩⟩⟩⟩⟩⟩⟩⟩⟩⟩⟩⟩⟩⟩⟩⟩⟩⟩⟩⟩⟩⟩⟩⟩
theorem fsNX9 : ∀ j, j < 49 → defaultValue (tyX9 j) = vp_V [.int 0, .int 0, .null, .null, .null, .int 0, .int 0, .int 0, .int 0, .null, .int 0, .null, .null, .null, .null, .null, .null, .null, .null, .int 0, .null, .int 0, .int 0, .int 0, .null, .null, .null, .int 0, .int 0, .null, .null, .int 0, .null, .null, .null, .null, .null, .null, .int 0, .int 0, .null, .null, .null, .null, .null, .int 0, .null, .null, .null] j := by
  intro j hj
  rcases (show j = 0 ∨ j = 1 ∨ j = 2 ∨ j = 3 ∨ j = 4 ∨ j = 5 ∨ j = 6 ∨ j = 7 ∨ j = 8 ∨ j = 9 ∨ j = 10 ∨ j = 11 ∨ j = 12 ∨ j = 13 ∨ j = 14 ∨ j = 15 ∨ j = 16 ∨ j = 17 ∨ j = 18 ∨ j = 19 ∨ j = 20 ∨ j = 21 ∨ j = 22 ∨ j = 23 ∨ j = 24 ∨ j = 25 ∨ j = 26 ∨ j = 27 ∨ j = 28 ∨ j = 29 ∨ j = 30 ∨ j = 31 ∨ j = 32 ∨ j = 33 ∨ j = 34 ∨ j = 35 ∨ j = 36 ∨ j = 37 ∨ j = 38 ∨ j = 39 ∨ j = 40 ∨ j = 41 ∨ j = 42 ∨ j = 43 ∨ j = 44 ∨ j = 45 ∨ j = 46 ∨ j = 47 ∨ j = 48 by omega) with rfl | rfl | rfl | rfl | rfl | rfl | rfl | rfl | rfl | rfl | rfl | rfl | rfl | rfl | rfl | rfl | rfl | rfl | rfl | rfl | rfl | rfl | rfl | rfl | rfl | rfl | rfl | rfl | rfl | rfl | rfl | rfl | rfl | rfl | rfl | rfl | rfl | rfl | rfl | rfl | rfl | rfl | rfl | rfl | rfl | rfl | rfl | rfl | rfl <;> rfl
def bI (b : Bool) : Int32 := if b then 1 else 0
def inR (lo hi v : Int32) : Bool := !decide (v < lo) && !decide (hi < v)
def okW (w : Int32) : Bool := inR 0 59 w
theorem i59 (w : Int32) : 60 ≤ w ↔ 59 < w := by
  rw [Int32.le_iff_toInt_le, Int32.lt_iff_toInt_lt]
  show (60 : Int) ≤ _ ↔ (59 : Int) < _
  omega
theorem inR_m1 (d : Int32) : inR 0 (-1) d = false := by
  have h1 : (-1 : Int32) < d ↔ (-1 : Int) < d.toInt := Int32.lt_iff_toInt_lt
  have h2 : d < 0 ↔ d.toInt < (0 : Int) := Int32.lt_iff_toInt_lt
  by_cases h : d < 0
  · simp [inR, h]
  · have h3 : (-1 : Int32) < d := h1.mpr (by have := mt h2.mpr h; omega)
    simp [inR, h3]
theorem inR_m2 (d : Int32) : inR 0 (-2) d = false := by
  have h1 : (-2 : Int32) < d ↔ (-2 : Int) < d.toInt := Int32.lt_iff_toInt_lt
  have h2 : d < 0 ↔ d.toInt < (0 : Int) := Int32.lt_iff_toInt_lt
  by_cases h : d < 0
  · simp [inR, h]
  · have h3 : (-2 : Int32) < d := h1.mpr (by have := mt h2.mpr h; omega)
    simp [inR, h3]
theorem m_neg (d : Int32) (h : ¬ d < 0) : 0 ≤ d := by
  have h2 : d < 0 ↔ d.toInt < (0 : Int) := Int32.lt_iff_toInt_lt
  have h1 : (0 : Int32) ≤ d ↔ (0 : Int) ≤ d.toInt := Int32.le_iff_toInt_le
  exact h1.mpr (by have := mt h2.mpr h; omega)
theorem j6n (w : Int32) : ¬ w < 6 ↔ 5 < w := by
  rw [Int32.lt_iff_toInt_lt, Int32.lt_iff_toInt_lt]
  show ¬ _ < (6 : Int) ↔ (5 : Int) < _
  omega
theorem j6 (w : Int32) : w < 6 ↔ ¬ 5 < w := by
  rw [Int32.lt_iff_toInt_lt, Int32.lt_iff_toInt_lt]
  show _ < (6 : Int) ↔ ¬ (5 : Int) < _
  omega
theorem i5 (w : Int32) : 6 ≤ w ↔ 5 < w := by
  rw [Int32.le_iff_toInt_le, Int32.lt_iff_toInt_lt]
  show (6 : Int) ≤ _ ↔ (5 : Int) < _
  omega
def okCan (k a b d : Int32) : Bool := (decide (k = 119) && okW a) || ((decide (k = 112) && (okW a && okW b)) || (decide (k = 110) && (okW a && (okW b && inR 1 9 d))))
def okJ (k : Int32) : Bool := decide (k = 97) || (decide (k = 111) || (decide (k = 120) || decide (k = 105)))
def okStep (k a b : Int32) : Bool := decide (k = 108) || (decide (k = 109) || ((decide (k = 115) || decide (k = 99)) && okW a) || (decide (k = 121) && (okW a && okW b)))
theorem bt {b : Bool} {P : Prop} (h1 : b = true → P) (h0 : b = false → P) : P := by cases b <;> simp_all
