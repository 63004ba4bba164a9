/-! OWN SUPPORT -/
theorem vi_c {i : Int32} {n : Nat} (h : decide (¬ (i < 0 ∨ n ≤ i.toNatClampNeg)) = true) : vp_in i n := by
  have h2 : ¬ (i < 0 ∨ n ≤ i.toNatClampNeg) := of_decide_eq_true h
  exact h2
theorem jn_nil {D : va_G} {cl : List vw_C} {H : Heap} : va_P D cl [] H := fun k q h => by simp at h
theorem jn_nilD {A : Nat → Prop} : va_D A [] := ⟨fun i j p q h => by simp at h, fun k q h => by simp at h⟩
theorem jn_drop {A0 : Nat → Prop} {D : va_G} {cl : List vw_C} {ws wc wr : va_W} {H H1 : Heap} (hP : va_P D cl ws H) (hD : va_D A0 ws) (isC isR : List Nat) (hC : isC.map (fun i => ws[i]?) = wc.map some) (hR : isR.map (fun i => ws[i]?) = wr.map some) (hn : va_nd isR = true) (hdis : ∀ i ∈ isR, i ∉ isC) (hk : ∀ q : Nat, q < H.size → ¬ va_A wc H.size q → H1[q]? = H[q]?) (hF : ∀ q, va_A wc H.size q → A0 q) : va_P D cl wr H1 ∧ va_D A0 wr := by
  have h := va_join (w1 := []) hP hD isC isR hC hR hn hdis hk hF jn_nil jn_nilD
  rw [List.append_nil] at h
  exact h
theorem sF_t {A : Nat → Prop} {s t : State} {H : Heap} {locs : List Loc} (hS : va_S A s.heap H locs) (hz : H.size ≤ t.heap.size) (hk : ∀ q : Nat, q < H.size → t.heap[q]? = H[q]?) : va_F A s t := ⟨Nat.le_trans hS.1 hz, fun q h1 h2 => (hk q (Nat.lt_of_lt_of_le h1 hS.1)).trans (hS.2.1 q h1 h2)⟩
theorem hFitN : ∀ n ∈ ["java/lang/RuntimeException", "java/lang/Exception"], Bundle.fit n = true := by decide +kernel
theorem hFit_1 : Bundle.fit "java/lang/IllegalArgumentException" = true := by decide +kernel
theorem hFit_2 : Bundle.fit "java/lang/IndexOutOfBoundsException" = true := by decide +kernel
theorem hFit_3 : Bundle.fit "java/lang/IllegalStateException" = true := by decide +kernel
theorem hFit_4 : Bundle.fit "java/lang/ArithmeticException" = true := by decide +kernel
theorem hFit_5 : Bundle.fit "java/util/NoSuchElementException" = true := by decide +kernel
theorem inAJx4a65c : ∀ w ∈ u_ws RJx4a65c TJx4a65c 3, w ∈ WA := by
  show ∀ w ∈ ([.lays "java/util/ArrayList" "java/util/AbstractList" "modCount" "I", .lays "java/util/ArrayList" "java/util/ArrayList" "elementData" "[Ljava/lang/Object;", .lays "java/util/ArrayList" "java/util/ArrayList" "size" "I"] : List Cond), w ∈ WA
  exact List.forall_mem_cons.mpr ⟨WA_of (tb_1 59 rfl) rfl, List.forall_mem_cons.mpr ⟨WA_of (tb_1 55 rfl) rfl, List.forall_mem_cons.mpr ⟨WA_of (tb_1 57 rfl) rfl, fun _ h => absurd h List.not_mem_nil⟩⟩⟩
theorem fsNJx4a65c : ∀ j, j < 3 → defaultValue (tyJx4a65c j) = vp_V [.int 0, .null, .int 0] j := by
  intro j hj
  rcases (show j = 0 ∨ j = 1 ∨ j = 2 by omega) with rfl | rfl | rfl <;> rfl
theorem inAX0 : ∀ w ∈ u_ws RX0 TX0 4, w ∈ WA := by
  show ∀ w ∈ ([.laysFinal "TallowIndex$Document" "TallowIndex$Document" "tag" "I", .laysFinal "TallowIndex$Document" "TallowIndex$Document" "whole" "I", .laysFinal "TallowIndex$Document" "TallowIndex$Document" "text" "LTallowIndex$Text;", .lays "TallowIndex$Document" "TallowIndex$Document" "clicks" "I"] : List Cond), w ∈ WA
  exact List.forall_mem_cons.mpr ⟨WA_of (tb_4 12 rfl) rfl, List.forall_mem_cons.mpr ⟨WA_of (tb_4 14 rfl) rfl, List.forall_mem_cons.mpr ⟨WA_of (tb_4 16 rfl) rfl, List.forall_mem_cons.mpr ⟨WA_of (tb_4 18 rfl) rfl, fun _ h => absurd h List.not_mem_nil⟩⟩⟩⟩
theorem fsNX0 : ∀ j, j < 4 → defaultValue (tyX0 j) = vp_V [.int 0, .int 0, .null, .int 0] j := by
  intro j hj
  rcases (show j = 0 ∨ j = 1 ∨ j = 2 ∨ j = 3 by omega) with rfl | rfl | rfl | rfl <;> rfl
theorem inAX1 : ∀ w ∈ u_ws RX1 TX1 6, w ∈ WA := by
  show ∀ w ∈ ([.laysFinal "TallowIndex$Query" "TallowIndex$Query" "kind" "C", .laysFinal "TallowIndex$Query" "TallowIndex$Query" "first" "I", .laysFinal "TallowIndex$Query" "TallowIndex$Query" "second" "I", .laysFinal "TallowIndex$Query" "TallowIndex$Query" "distance" "I", .laysFinal "TallowIndex$Query" "TallowIndex$Query" "weight" "I", .laysFinal "TallowIndex$Query" "TallowIndex$Query" "wordQueries" "I"] : List Cond), w ∈ WA
  exact List.forall_mem_cons.mpr ⟨WA_of (tb_2 40 rfl) rfl, List.forall_mem_cons.mpr ⟨WA_of (tb_2 42 rfl) rfl, List.forall_mem_cons.mpr ⟨WA_of (tb_2 44 rfl) rfl, List.forall_mem_cons.mpr ⟨WA_of (tb_2 46 rfl) rfl, List.forall_mem_cons.mpr ⟨WA_of (tb_2 48 rfl) rfl, List.forall_mem_cons.mpr ⟨WA_of (tb_2 50 rfl) rfl, fun _ h => absurd h List.not_mem_nil⟩⟩⟩⟩⟩⟩
theorem fsNX1 : ∀ j, j < 6 → defaultValue (tyX1 j) = vp_V [.int 0, .int 0, .int 0, .int 0, .int 0, .int 0] j := by
  intro j hj
  rcases (show j = 0 ∨ j = 1 ∨ j = 2 ∨ j = 3 ∨ j = 4 ∨ j = 5 by omega) with rfl | rfl | rfl | rfl | rfl | rfl <;> rfl
theorem inAX2 : ∀ w ∈ u_ws RX2 TX2 1, w ∈ WA := by
  show ∀ w ∈ ([.laysFinal "TallowIndex$Row" "TallowIndex$Row" "cells" "[I"] : List Cond), w ∈ WA
  exact List.forall_mem_cons.mpr ⟨WA_of (tb_1 75 rfl) rfl, fun _ h => absurd h List.not_mem_nil⟩
theorem fsNX2 : ∀ j, j < 1 → defaultValue (tyX2 j) = vp_V [.null] j := by
  intro j hj
  rcases (show j = 0 by omega) with rfl <;> rfl
theorem inAX3 : ∀ w ∈ u_ws RX3 TX3 8, w ∈ WA := by
  show ∀ w ∈ ([.laysFinal "TallowIndex$Search" "TallowIndex$Search" "parts" "LTallowIndex$Row;", .laysFinal "TallowIndex$Search" "TallowIndex$Search" "times" "LTallowIndex$Row;", .laysFinal "TallowIndex$Search" "TallowIndex$Search" "scores" "LTallowIndex$Row;", .laysFinal "TallowIndex$Search" "TallowIndex$Search" "ranks" "LTallowIndex$Row;", .laysFinal "TallowIndex$Search" "TallowIndex$Search" "order" "LTallowIndex$Row;", .laysFinal "TallowIndex$Search" "TallowIndex$Search" "marks" "LTallowIndex$Row;", .lays "TallowIndex$Search" "TallowIndex$Search" "asked" "I", .lays "TallowIndex$Search" "TallowIndex$Search" "found" "I"] : List Cond), w ∈ WA
  exact List.forall_mem_cons.mpr ⟨WA_of (tb_1 111 rfl) rfl, List.forall_mem_cons.mpr ⟨WA_of (tb_1 113 rfl) rfl, List.forall_mem_cons.mpr ⟨WA_of (tb_1 115 rfl) rfl, List.forall_mem_cons.mpr ⟨WA_of (tb_1 117 rfl) rfl, List.forall_mem_cons.mpr ⟨WA_of (tb_1 119 rfl) rfl, List.forall_mem_cons.mpr ⟨WA_of (tb_1 121 rfl) rfl, List.forall_mem_cons.mpr ⟨WA_of (tb_1 123 rfl) rfl, List.forall_mem_cons.mpr ⟨WA_of (tb_1 125 rfl) rfl, fun _ h => absurd h List.not_mem_nil⟩⟩⟩⟩⟩⟩⟩⟩
theorem fsNX3 : ∀ j, j < 8 → defaultValue (tyX3 j) = vp_V [.null, .null, .null, .null, .null, .null, .int 0, .int 0] j := by
  intro j hj
  rcases (show j = 0 ∨ j = 1 ∨ j = 2 ∨ j = 3 ∨ j = 4 ∨ j = 5 ∨ j = 6 ∨ j = 7 by omega) with rfl | rfl | rfl | rfl | rfl | rfl | rfl | rfl <;> rfl
theorem inAX4 : ∀ w ∈ u_ws RX4 TX4 4, w ∈ WA := by
  show ∀ w ∈ ([.laysFinal "TallowIndex$Shelf" "TallowIndex$Shelf" "states" "LTallowIndex$Row;", .laysFinal "TallowIndex$Shelf" "TallowIndex$Shelf" "homes" "LTallowIndex$Row;", .lays "TallowIndex$Shelf" "TallowIndex$Shelf" "documentCount" "I", .lays "TallowIndex$Shelf" "TallowIndex$Shelf" "segmentCount" "I"] : List Cond), w ∈ WA
  exact List.forall_mem_cons.mpr ⟨WA_of (tb_1 84 rfl) rfl, List.forall_mem_cons.mpr ⟨WA_of (tb_1 86 rfl) rfl, List.forall_mem_cons.mpr ⟨WA_of (tb_1 88 rfl) rfl, List.forall_mem_cons.mpr ⟨WA_of (tb_1 90 rfl) rfl, fun _ h => absurd h List.not_mem_nil⟩⟩⟩⟩
theorem fsNX4 : ∀ j, j < 4 → defaultValue (tyX4 j) = vp_V [.null, .null, .int 0, .int 0] j := by
  intro j hj
  rcases (show j = 0 ∨ j = 1 ∨ j = 2 ∨ j = 3 by omega) with rfl | rfl | rfl | rfl <;> rfl
theorem inAX6 : ∀ w ∈ u_ws RX6 TX6 4, w ∈ WA := by
  show ∀ w ∈ ([.laysFinal "TallowIndex$Text" "TallowIndex$Text" "words" "LTallowIndex$Row;", .laysFinal "TallowIndex$Text" "TallowIndex$Text" "places" "LTallowIndex$Row;", .laysFinal "TallowIndex$Text" "TallowIndex$Text" "indexes" "LTallowIndex$Row;", .lays "TallowIndex$Text" "TallowIndex$Text" "count" "I"] : List Cond), w ∈ WA
  exact List.forall_mem_cons.mpr ⟨WA_of (tb_3 237 rfl) rfl, List.forall_mem_cons.mpr ⟨WA_of (tb_3 239 rfl) rfl, List.forall_mem_cons.mpr ⟨WA_of (tb_4 1 rfl) rfl, List.forall_mem_cons.mpr ⟨WA_of (tb_4 3 rfl) rfl, fun _ h => absurd h List.not_mem_nil⟩⟩⟩⟩
theorem fsNX6 : ∀ j, j < 4 → defaultValue (tyX6 j) = vp_V [.null, .null, .null, .int 0] j := by
  intro j hj
  rcases (show j = 0 ∨ j = 1 ∨ j = 2 ∨ j = 3 by omega) with rfl | rfl | rfl | rfl <;> rfl
theorem inAX7 : ∀ w ∈ u_ws RX7 TX7 3, w ∈ WA := by
  show ∀ w ∈ ([.laysFinal "TallowIndex$View" "TallowIndex$View" "number" "I", .laysFinal "TallowIndex$View" "TallowIndex$View" "present" "LTallowIndex$Row;", .laysFinal "TallowIndex$View" "TallowIndex$View" "count" "I"] : List Cond), w ∈ WA
  exact List.forall_mem_cons.mpr ⟨WA_of (tb_4 229 rfl) rfl, List.forall_mem_cons.mpr ⟨WA_of (tb_4 231 rfl) rfl, List.forall_mem_cons.mpr ⟨WA_of (tb_4 233 rfl) rfl, fun _ h => absurd h List.not_mem_nil⟩⟩⟩
theorem fsNX7 : ∀ j, j < 3 → defaultValue (tyX7 j) = vp_V [.int 0, .null, .int 0] j := by
  intro j hj
  rcases (show j = 0 ∨ j = 1 ∨ j = 2 by omega) with rfl | rfl | rfl <;> rfl
theorem inAX8 : ∀ w ∈ u_ws RX8 TX8 12, w ∈ WA := by
  show ∀ w ∈ ([.laysFinal "TallowIndex" "TallowIndex" "steps" "Ljava/util/ArrayList;", .laysFinal "TallowIndex" "TallowIndex" "documents" "Ljava/util/ArrayList;", .laysFinal "TallowIndex" "TallowIndex" "views" "Ljava/util/ArrayList;", .laysFinal "TallowIndex" "TallowIndex" "queries" "Ljava/util/ArrayList;", .laysFinal "TallowIndex" "TallowIndex" "shelf" "LTallowIndex$Shelf;", .laysFinal "TallowIndex" "TallowIndex" "committed" "LTallowIndex$Shelf;", .laysFinal "TallowIndex" "TallowIndex" "replica" "LTallowIndex$Row;", .laysFinal "TallowIndex" "TallowIndex" "search" "LTallowIndex$Search;", .lays "TallowIndex" "TallowIndex" "opened" "LTallowIndex$Document;", .lays "TallowIndex" "TallowIndex" "commits" "I", .lays "TallowIndex" "TallowIndex" "viewsOpened" "I", .lays "TallowIndex" "TallowIndex" "bound" "I"] : List Cond), w ∈ WA
  exact List.forall_mem_cons.mpr ⟨WA_of (tb_1 140 rfl) rfl, List.forall_mem_cons.mpr ⟨WA_of (tb_1 142 rfl) rfl, List.forall_mem_cons.mpr ⟨WA_of (tb_1 144 rfl) rfl, List.forall_mem_cons.mpr ⟨WA_of (tb_1 146 rfl) rfl, List.forall_mem_cons.mpr ⟨WA_of (tb_1 148 rfl) rfl, List.forall_mem_cons.mpr ⟨WA_of (tb_1 150 rfl) rfl, List.forall_mem_cons.mpr ⟨WA_of (tb_1 152 rfl) rfl, List.forall_mem_cons.mpr ⟨WA_of (tb_1 154 rfl) rfl, List.forall_mem_cons.mpr ⟨WA_of (tb_1 156 rfl) rfl, List.forall_mem_cons.mpr ⟨WA_of (tb_1 158 rfl) rfl, List.forall_mem_cons.mpr ⟨WA_of (tb_1 160 rfl) rfl, List.forall_mem_cons.mpr ⟨WA_of (tb_1 162 rfl) rfl, fun _ h => absurd h List.not_mem_nil⟩⟩⟩⟩⟩⟩⟩⟩⟩⟩⟩⟩
theorem fsNX8 : ∀ j, j < 12 → defaultValue (tyX8 j) = vp_V [.null, .null, .null, .null, .null, .null, .null, .null, .null, .int 0, .int 0, .int 0] j := by
  intro j hj
  rcases (show j = 0 ∨ j = 1 ∨ j = 2 ∨ j = 3 ∨ j = 4 ∨ j = 5 ∨ j = 6 ∨ j = 7 ∨ j = 8 ∨ j = 9 ∨ j = 10 ∨ j = 11 by omega) with rfl | rfl | rfl | rfl | rfl | rfl | rfl | rfl | rfl | rfl | rfl | rfl <;> rfl
theorem inAX9 : ∀ w ∈ u_ws RX9 TX9 15, w ∈ WA := by
  show ∀ w ∈ ([.lays "TallowIndexLaw$Store" "TallowIndexLaw$Store" "many" "I", .lays "TallowIndexLaw$Store" "TallowIndexLaw$Store" "state" "[C", .lays "TallowIndexLaw$Store" "TallowIndexLaw$Store" "segments" "I", .lays "TallowIndexLaw$Store" "TallowIndexLaw$Store" "row" "[[I", .lays "TallowIndexLaw$Store" "TallowIndexLaw$Store" "keptState" "[C", .lays "TallowIndexLaw$Store" "TallowIndexLaw$Store" "kept" "I", .lays "TallowIndexLaw$Store" "TallowIndexLaw$Store" "keptSegments" "I", .lays "TallowIndexLaw$Store" "TallowIndexLaw$Store" "keptRow" "[[I", .lays "TallowIndexLaw$Store" "TallowIndexLaw$Store" "isCommitted" "Z", .lays "TallowIndexLaw$Store" "TallowIndexLaw$Store" "commits" "I", .lays "TallowIndexLaw$Store" "TallowIndexLaw$Store" "views" "I", .laysFinal "TallowIndexLaw$Store" "TallowIndexLaw$Store" "viewNumber" "[I", .laysFinal "TallowIndexLaw$Store" "TallowIndexLaw$Store" "view" "[[Z", .lays "TallowIndexLaw$Store" "TallowIndexLaw$Store" "numbers" "I", .lays "TallowIndexLaw$Store" "TallowIndexLaw$Store" "onReplica" "I"] : List Cond), w ∈ WA
  exact List.forall_mem_cons.mpr ⟨WA_of (tb_2 150 rfl) rfl, List.forall_mem_cons.mpr ⟨WA_of (tb_2 152 rfl) rfl, List.forall_mem_cons.mpr ⟨WA_of (tb_2 154 rfl) rfl, List.forall_mem_cons.mpr ⟨WA_of (tb_2 156 rfl) rfl, List.forall_mem_cons.mpr ⟨WA_of (tb_2 158 rfl) rfl, List.forall_mem_cons.mpr ⟨WA_of (tb_2 160 rfl) rfl, List.forall_mem_cons.mpr ⟨WA_of (tb_2 162 rfl) rfl, List.forall_mem_cons.mpr ⟨WA_of (tb_2 164 rfl) rfl, List.forall_mem_cons.mpr ⟨WA_of (tb_2 166 rfl) rfl, List.forall_mem_cons.mpr ⟨WA_of (tb_2 168 rfl) rfl, List.forall_mem_cons.mpr ⟨WA_of (tb_2 170 rfl) rfl, List.forall_mem_cons.mpr ⟨WA_of (tb_2 172 rfl) rfl, List.forall_mem_cons.mpr ⟨WA_of (tb_2 174 rfl) rfl, List.forall_mem_cons.mpr ⟨WA_of (tb_2 176 rfl) rfl, List.forall_mem_cons.mpr ⟨WA_of (tb_2 178 rfl) rfl, fun _ h => absurd h List.not_mem_nil⟩⟩⟩⟩⟩⟩⟩⟩⟩⟩⟩⟩⟩⟩⟩
theorem fsNX9 : ∀ j, j < 15 → defaultValue (tyX9 j) = vp_V [.int 0, .null, .int 0, .null, .null, .int 0, .int 0, .null, .int 0, .int 0, .int 0, .null, .null, .int 0, .int 0] j := by
  intro j hj
  rcases (show j = 0 ∨ j = 1 ∨ j = 2 ∨ j = 3 ∨ j = 4 ∨ j = 5 ∨ j = 6 ∨ j = 7 ∨ j = 8 ∨ j = 9 ∨ j = 10 ∨ j = 11 ∨ j = 12 ∨ j = 13 ∨ j = 14 by omega) with rfl | rfl | rfl | rfl | rfl | rfl | rfl | rfl | rfl | rfl | rfl | rfl | rfl | rfl | rfl <;> rfl
def bI (b : Bool) : Int32 := if b then 1 else 0
def inR (lo hi v : Int32) : Bool := !decide (v < lo) && !decide (hi < v)
def okW (w : Int32) : Bool := inR 0 59 w
theorem i59 (w : Int32) : 60 ≤ w ↔ 59 < w := by
  rw [Int32.le_iff_toInt_le, Int32.lt_iff_toInt_lt]
  show (60 : Int) ≤ _ ↔ (59 : Int) < _
  omega
theorem inR_m1 (d : Int32) : inR 0 (-1) d = false := by
  have h1 : (-1 : Int32) < d ↔ (-1 : Int) < d.toInt := Int32.lt_iff_toInt_lt
  have h2 : d < 0 ↔ d.toInt < (0 : Int) := Int32.lt_iff_toInt_lt
  by_cases h : d < 0
  · simp [inR, h]
  · have h3 : (-1 : Int32) < d := h1.mpr (by have := mt h2.mpr h; omega)
    simp [inR, h3]
theorem inR_m2 (d : Int32) : inR 0 (-2) d = false := by
  have h1 : (-2 : Int32) < d ↔ (-2 : Int) < d.toInt := Int32.lt_iff_toInt_lt
  have h2 : d < 0 ↔ d.toInt < (0 : Int) := Int32.lt_iff_toInt_lt
  by_cases h : d < 0
  · simp [inR, h]
  · have h3 : (-2 : Int32) < d := h1.mpr (by have := mt h2.mpr h; omega)
    simp [inR, h3]
theorem m_neg (d : Int32) (h : ¬ d < 0) : 0 ≤ d := by
  have h2 : d < 0 ↔ d.toInt < (0 : Int) := Int32.lt_iff_toInt_lt
  have h1 : (0 : Int32) ≤ d ↔ (0 : Int) ≤ d.toInt := Int32.le_iff_toInt_le
  exact h1.mpr (by have := mt h2.mpr h; omega)
theorem j6n (w : Int32) : ¬ w < 6 ↔ 5 < w := by
  rw [Int32.lt_iff_toInt_lt, Int32.lt_iff_toInt_lt]
  show ¬ _ < (6 : Int) ↔ (5 : Int) < _
  omega
theorem j6 (w : Int32) : w < 6 ↔ ¬ 5 < w := by
  rw [Int32.lt_iff_toInt_lt, Int32.lt_iff_toInt_lt]
  show _ < (6 : Int) ↔ ¬ (5 : Int) < _
  omega
theorem i5 (w : Int32) : 6 ≤ w ↔ 5 < w := by
  rw [Int32.le_iff_toInt_le, Int32.lt_iff_toInt_lt]
  show (6 : Int) ≤ _ ↔ (5 : Int) < _
  omega
def okCan (k a b d : Int32) : Bool := (decide (k = 119) && okW a) || ((decide (k = 112) && (okW a && okW b)) || (decide (k = 110) && (okW a && (okW b && inR 1 9 d))))
def okJ (k : Int32) : Bool := decide (k = 97) || (decide (k = 111) || (decide (k = 120) || decide (k = 105)))
def okStep (k a b : Int32) : Bool := decide (k = 108) || (decide (k = 109) || ((decide (k = 115) || decide (k = 99)) && okW a) || (decide (k = 121) && (okW a && okW b)))
theorem bt {b : Bool} {P : Prop} (h1 : b = true → P) (h0 : b = false → P) : P := by cases b <;> simp_all
