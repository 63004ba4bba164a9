/-! CONTRACTS, general -/
theorem q235 : (.fieldLink RX4 14 "TallowIndex$Shelf" "states" "LTallowIndex$Row;" : Cond) ∈ WA := WA_of (tb_1 81 rfl) rfl
theorem q236 : (.methodLink RX4 31 yX2_get : Cond) ∈ WA := WA_of (tb_1 192 rfl) rfl
theorem q237 : (.selects RX4 yX4_stateOf yX4_stateOf : Cond) ∈ WA := WA_of (tb_1 190 rfl) rfl
theorem q238 : (.code yX4_stateOf cX4_stateOf 2 (some .char) : Cond) ∈ WA := WA_of (tb_1 191 rfl) rfl
theorem q239 : (.methodLink RX4 35 yX4_stateOf : Cond) ∈ WA := WA_of (tb_1 188 rfl) rfl
theorem q240 : (.instanceMethod yX4_stateOf : Cond) ∈ WA := WA_of (tb_1 189 rfl) rfl
theorem q241 : (.initialized RX4 : Cond) ∈ WA := WA_of (tb_1 5 rfl) rfl
theorem q242 : (.methodLink RX4 27 yX2_put : Cond) ∈ WA := WA_of (tb_1 196 rfl) rfl
theorem q243 : (.fieldLink RX4 23 "TallowIndex$Shelf" "documentCount" "I" : Cond) ∈ WA := WA_of (tb_1 83 rfl) rfl
theorem q244 : (.fieldLink RX4 20 "TallowIndex$Shelf" "homes" "LTallowIndex$Row;" : Cond) ∈ WA := WA_of (tb_1 82 rfl) rfl
theorem q245 : (.fieldLink RX4 39 "TallowIndex$Shelf" "segmentCount" "I" : Cond) ∈ WA := WA_of (tb_1 84 rfl) rfl
theorem q246 : (.selects RX4 yX4_moveUp yX4_moveUp : Cond) ∈ WA := WA_of (sb_1 8 rfl) rfl
theorem q247 : (.code yX4_moveUp cX4_moveUp 5 none : Cond) ∈ WA := WA_of (tb_3 187 rfl) rfl
theorem q248 : (.methodLink RX4 42 yX4_moveUp : Cond) ∈ WA := WA_of (tb_3 184 rfl) rfl
theorem q249 : (.instanceMethod yX4_moveUp : Cond) ∈ WA := WA_of (tb_3 186 rfl) rfl
theorem q250 : (.selects RX2 yX2_copyFrom yX2_copyFrom : Cond) ∈ WA := WA_of (tb_1 214 rfl) rfl
theorem q251 : (.code yX2_copyFrom cX2_copyFrom 3 none : Cond) ∈ WA := WA_of (tb_1 215 rfl) rfl
theorem q252 : (.methodLink RX4 45 yX2_copyFrom : Cond) ∈ WA := WA_of (tb_1 212 rfl) rfl
theorem q253 : (.instanceMethod yX2_copyFrom : Cond) ∈ WA := WA_of (tb_1 213 rfl) rfl
theorem q254 : (.selects RX4 yX4_lives yX4_lives : Cond) ∈ WA := WA_of (tb_1 227 rfl) rfl
theorem q255 : (.code yX4_lives cX4_lives 2 (some .boolean) : Cond) ∈ WA := WA_of (tb_1 228 rfl) rfl
theorem q256 : (.methodLink RX4 49 yX4_lives : Cond) ∈ WA := WA_of (tb_1 225 rfl) rfl
theorem q257 : (.instanceMethod yX4_lives : Cond) ∈ WA := WA_of (tb_1 226 rfl) rfl
theorem q258 : (.selects RX2 yX2_fill yX2_fill : Cond) ∈ WA := WA_of (tb_3 202 rfl) rfl
theorem q259 : (.code yX2_fill cX2_fill 3 none : Cond) ∈ WA := WA_of (tb_3 203 rfl) rfl
theorem q260 : (.methodLink RX4 53 yX2_fill : Cond) ∈ WA := WA_of (tb_3 200 rfl) rfl
theorem q261 : (.instanceMethod yX2_fill : Cond) ∈ WA := WA_of (tb_3 201 rfl) rfl
theorem ch16 (x : Int32) : (x.toUInt32 % 65536).toInt32 = vp_nar .char x := by
  rw [vp_nar_char, UInt32.toUInt32_toUInt16]
theorem AC_i2c {f : Nat → Int32} (h : AC f) (j : Nat) : (UInt32.toInt32 ((f j).toUInt32 % 65536)) = f j := (ch16 (f j)).trans (h j)
theorem AC_upd9 {f : Nat → Int32} {i : Nat} {x : Int32} (h : AC f) (hx : vp_nar .char x = x) : AC (upd f i x) := by
  intro j
  unfold upd
  split
  · exact hx
  · exact h j
def mgA (s : Nat) (st g : Nat → Int32) (d : Nat) : Int32 := if g d = nI s ∨ g d = nI (s + 1) then (if st d = 114 then -1 else nI s) else g d
def mgL (s : Nat) (st g : Nat → Int32) (d : Nat) : Bool := (decide (g d = nI s) || decide (g d = nI (s + 1))) && !decide (st d = 114)
def mvF (s b : Nat) (g : Nat → Int32) (d : Nat) : Int32 := if nI s < g d then g d - nI b else g d
theorem hs_0 {n : Nat} {p : Int32} (hn : n ≤ 1000) (h : inR 0 (nI n - 1) p = false) (h0 : ¬ p < 0) (h1 : ¬ nI n ≤ p) : False := by
  obtain ⟨j, hj, rfl⟩ := nI_of h0
  have h2 : ¬ n ≤ j := fun q => h1 ((nI_leI (by omega) hj).mpr q)
  rw [inT hn (by omega)] at h
  exact absurd h (by decide)
set_option maxHeartbeats 4000000 in
set_option maxRecDepth 100000 in
theorem s_stateOf (l : Launch) (D : va_G) (dA : Nat → ClassId) (E : Nat) (z : Nat → Nat) (tS tG : Nat → Int32) (nd nsg : Nat) (d : Nat) (sz : Nat) (hnd : nd ≤ 30) (hnsg : nsg ≤ 1000) (hd : d < 30) (hAC : AC tS)  : Met l yX4_stateOf (wq (.code yX4_stateOf cX4_stateOf 2 (some .char))) { frames := 1, cells := 0, slots := 0, locals := 21 } (va_Pc [.ref (z 0), .int (nI d)] (PcB D dA E [(z 0, .inr (7, [.ref (z 1), .ref (z 3), .int (nI nd), .int (nI nsg)])), (z 1, .inr (5, [.ref (z 2)])), (z 2, .inl (dA 0, 30, .inl tS)), (z 3, .inr (5, [.ref (z 4)])), (z 4, .inl (dA 0, 30, .inl tG))] sz)) (va_Qi (fun (r : Int32) (u : Unit) => r = tS d) (fun u t => va_P D vwCl [(z 0, .inr (7, [.ref (z 1), .ref (z 3), .int (nI nd), .int (nI nsg)])), (z 1, .inr (5, [.ref (z 2)])), (z 2, .inl (dA 0, 30, .inl tS)), (z 3, .inr (5, [.ref (z 4)])), (z 4, .inl (dA 0, 30, .inl tG))] t.heap ∧ va_D (va_A [(z 0, .inr (7, [.ref (z 1), .ref (z 3), .int (nI nd), .int (nI nsg)])), (z 1, .inr (5, [.ref (z 2)])), (z 2, .inl (dA 0, 30, .inl tS)), (z 3, .inr (5, [.ref (z 4)])), (z 4, .inl (dA 0, 30, .inl tG))] sz) [(z 0, .inr (7, [.ref (z 1), .ref (z 3), .int (nI nd), .int (nI nsg)])), (z 1, .inr (5, [.ref (z 2)])), (z 2, .inl (dA 0, 30, .inl tS)), (z 3, .inr (5, [.ref (z 4)])), (z 4, .inl (dA 0, 30, .inl tG))]) (va_A [(z 0, .inr (7, [.ref (z 1), .ref (z 3), .int (nI nd), .int (nI nsg)])), (z 1, .inr (5, [.ref (z 2)])), (z 2, .inl (dA 0, 30, .inl tS)), (z 3, .inr (5, [.ref (z 4)])), (z 4, .inl (dA 0, 30, .inl tG))] sz)) 0 0 (va_A [(z 0, .inr (7, [.ref (z 1), .ref (z 3), .int (nI nd), .int (nI nsg)])), (z 1, .inr (5, [.ref (z 2)])), (z 2, .inl (dA 0, 30, .inl tS)), (z 3, .inr (5, [.ref (z 4)])), (z 4, .inl (dA 0, 30, .inl tG))] sz) := by
  refine mb_of (Qc := fun A => va_Qi (fun (r : Int32) (u : Unit) => r = tS d) (fun u t => va_P D vwCl [(z 0, .inr (7, [.ref (z 1), .ref (z 3), .int (nI nd), .int (nI nsg)])), (z 1, .inr (5, [.ref (z 2)])), (z 2, .inl (dA 0, 30, .inl tS)), (z 3, .inr (5, [.ref (z 4)])), (z 4, .inl (dA 0, 30, .inl tG))] t.heap ∧ va_D A [(z 0, .inr (7, [.ref (z 1), .ref (z 3), .int (nI nd), .int (nI nsg)])), (z 1, .inr (5, [.ref (z 2)])), (z 2, .inl (dA 0, 30, .inl tS)), (z 3, .inr (5, [.ref (z 4)])), (z 4, .inl (dA 0, 30, .inl tG))]) A) RX4 rfl (by decide) (Nat.le_of_ble_eq_true rfl) ?_
  intro p e s m args below meth c hae hx hb hr hts hown hlocks hml hnm hP hK A hAe hD hZ hS hA ls hl
  have hl : lv_has ls 2 [(0, .ref (z 0)), (1, .int (nI d))] := hl
  refine lv_aload_n hx hb dX4_stateOf_0 rfl (lv_at hl 0 rfl) ?_
  refine va_get (D := D) (ci := 7) (v := .ref (z 1)) (C := RX4) (T := TX4) (N := 4) hx hb hts inAX4 hown hK hP 0 rfl rfl 0 (by decide) (hts _ q235) (fun _ h9 => h9) rfl dX4_stateOf_1 ?_
  refine lv_iload_n hx hb dX4_stateOf_4 rfl (lv_at hl 1 rfl) ?_
  have hPc := hP.sub (ws' := [(z 1, .inr (5, [.ref (z 2)])), (z 2, .inl (dA 0, 30, .inl tS))]) [1, 2] rfl
  have hDc := hD.sub (ws' := [(z 1, .inr (5, [.ref (z 2)])), (z 2, .inl (dA 0, 30, .inl tS))]) [1, 2] (by decide) rfl
  have hFc := va_free (wc := [(z 1, .inr (5, [.ref (z 2)])), (z 2, .inl (dA 0, 30, .inl tS))]) hD hS hA [1, 2] rfl
  refine va_calli (va_runV (As := [.int (nI d)]) (rest := []) ⟨hx, hb, hml, hown, hts⟩ (t_getN l D dA E (z 1) (z 2) 30 tS d s.heap.size  (by omega) (by decide)) (cwV 1 hts (ga_V q236 q203 q200 q204 q201) rfl rfl rfl (by decide +kernel) ⟨(Nat.le_of_ble_eq_true rfl), (Nat.le_of_ble_eq_true rfl)⟩) ⟨pb_blind, va_recv hK hPc (ci := 5) (q0 := 0) rfl rfl, pb_pre hK hPc hDc hZ hS hFc _⟩ rfl rfl hl.1 rfl (lv_room (Nat.le_of_ble_eq_true rfl)) dX4_stateOf_5 ⟨(Nat.le_of_ble_eq_true rfl), (Nat.le_of_ble_eq_true rfl)⟩) hS (fun q _ h => hFc q h) hFc (fun r u t H1 locs ht hvm hw hB hz1 hk1 hS => ?_)
  refine W.widen (k := 0) (n := 0) (Nat.le_of_ble_eq_true rfl) (Nat.le_of_ble_eq_true rfl) ?_
  obtain ⟨r1, rfl⟩ : ∃ z, z = r := ⟨_, rfl⟩
  obtain ⟨u2, rfl⟩ : ∃ z, z = u := ⟨_, rfl⟩
  have hw3 := hw
  clear hw
  obtain ⟨hP1, hD1⟩ := hB
  rw [ht] at hP1
  obtain ⟨hP, hD⟩ := va_join (wr := [(z 0, .inr (7, [.ref (z 1), .ref (z 3), .int (nI nd), .int (nI nsg)])), (z 3, .inr (5, [.ref (z 4)])), (z 4, .inl (dA 0, 30, .inl tG))]) (w1 := [(z 1, .inr (5, [.ref (z 2)])), (z 2, .inl (dA 0, 30, .inl tS))]) hP hD [1, 2] [0, 3, 4] rfl rfl (by decide) (by decide) hk1 hFc hP1 hD1
  generalize H1 = H at hP hS ⊢
  have hP : va_P D vwCl [(z 0, .inr (7, [.ref (z 1), .ref (z 3), .int (nI nd), .int (nI nsg)])), (z 3, .inr (5, [.ref (z 4)])), (z 4, .inl (dA 0, 30, .inl tG)), (z 1, .inr (5, [.ref (z 2)])), (z 2, .inl (dA 0, 30, .inl tS))] H := hP
  have hD : va_D A [(z 0, .inr (7, [.ref (z 1), .ref (z 3), .int (nI nd), .int (nI nsg)])), (z 3, .inr (5, [.ref (z 4)])), (z 4, .inl (dA 0, 30, .inl tG)), (z 1, .inr (5, [.ref (z 2)])), (z 2, .inl (dA 0, 30, .inl tS))] := hD
  obtain rfl : r1 = tS d := hw3
  refine lv_i2c (v := tS d) hx hb dX4_stateOf_8 (AC_i2c hAC d) ?_
  refine W.widen (k := 0) (n := 0) (Nat.le_of_ble_eq_true rfl) (Nat.le_of_ble_eq_true rfl) ?_
  have hP9 := hP.sub (ws' := [(z 0, .inr (7, [.ref (z 1), .ref (z 3), .int (nI nd), .int (nI nsg)])), (z 1, .inr (5, [.ref (z 2)])), (z 2, .inl (dA 0, 30, .inl tS)), (z 3, .inr (5, [.ref (z 4)])), (z 4, .inl (dA 0, 30, .inl tG))]) [0, 3, 4, 1, 2] rfl
  have hD9 := hD.sub (ws' := [(z 0, .inr (7, [.ref (z 1), .ref (z 3), .int (nI nd), .int (nI nsg)])), (z 1, .inr (5, [.ref (z 2)])), (z 2, .inl (dA 0, 30, .inl tS)), (z 3, .inr (5, [.ref (z 4)])), (z 4, .inl (dA 0, 30, .inl tG))]) [0, 3, 4, 1, 2] (by decide) rfl
  exact W.zret (v := (tS d)) hx hb hr (AC_nar hAC d) (fun t ht hW => ⟨⟨(tS d), (), rfl, rfl, ⟨by rw [ht]; exact hP9, hD9⟩⟩, hS.F ht⟩) hS.2.2 dX4_stateOf_9

set_option maxHeartbeats 4000000 in
set_option maxRecDepth 100000 in
theorem s_lives (l : Launch) (D : va_G) (dA : Nat → ClassId) (E : Nat) (z : Nat → Nat) (tS tG : Nat → Int32) (nd nsg : Nat) (d : Nat) (sz : Nat) (hnd : nd ≤ 30) (hnsg : nsg ≤ 1000) (hd : d < 30) (hAC : AC tS)  : Met l yX4_lives (wq (.code yX4_lives cX4_lives 2 (some .boolean))) { frames := 2, cells := 0, slots := 0, locals := 42 } (va_Pc [.ref (z 0), .int (nI d)] (PcB D dA E [(z 0, .inr (7, [.ref (z 1), .ref (z 3), .int (nI nd), .int (nI nsg)])), (z 1, .inr (5, [.ref (z 2)])), (z 2, .inl (dA 0, 30, .inl tS)), (z 3, .inr (5, [.ref (z 4)])), (z 4, .inl (dA 0, 30, .inl tG))] sz)) (va_Qi (fun (r : Int32) (u : Unit) => r = bI (thB (tS d))) (fun u t => va_P D vwCl [(z 0, .inr (7, [.ref (z 1), .ref (z 3), .int (nI nd), .int (nI nsg)])), (z 1, .inr (5, [.ref (z 2)])), (z 2, .inl (dA 0, 30, .inl tS)), (z 3, .inr (5, [.ref (z 4)])), (z 4, .inl (dA 0, 30, .inl tG))] t.heap ∧ va_D (va_A [(z 0, .inr (7, [.ref (z 1), .ref (z 3), .int (nI nd), .int (nI nsg)])), (z 1, .inr (5, [.ref (z 2)])), (z 2, .inl (dA 0, 30, .inl tS)), (z 3, .inr (5, [.ref (z 4)])), (z 4, .inl (dA 0, 30, .inl tG))] sz) [(z 0, .inr (7, [.ref (z 1), .ref (z 3), .int (nI nd), .int (nI nsg)])), (z 1, .inr (5, [.ref (z 2)])), (z 2, .inl (dA 0, 30, .inl tS)), (z 3, .inr (5, [.ref (z 4)])), (z 4, .inl (dA 0, 30, .inl tG))]) (va_A [(z 0, .inr (7, [.ref (z 1), .ref (z 3), .int (nI nd), .int (nI nsg)])), (z 1, .inr (5, [.ref (z 2)])), (z 2, .inl (dA 0, 30, .inl tS)), (z 3, .inr (5, [.ref (z 4)])), (z 4, .inl (dA 0, 30, .inl tG))] sz)) 0 0 (va_A [(z 0, .inr (7, [.ref (z 1), .ref (z 3), .int (nI nd), .int (nI nsg)])), (z 1, .inr (5, [.ref (z 2)])), (z 2, .inl (dA 0, 30, .inl tS)), (z 3, .inr (5, [.ref (z 4)])), (z 4, .inl (dA 0, 30, .inl tG))] sz) := by
  refine mb_of (Qc := fun A => va_Qi (fun (r : Int32) (u : Unit) => r = bI (thB (tS d))) (fun u t => va_P D vwCl [(z 0, .inr (7, [.ref (z 1), .ref (z 3), .int (nI nd), .int (nI nsg)])), (z 1, .inr (5, [.ref (z 2)])), (z 2, .inl (dA 0, 30, .inl tS)), (z 3, .inr (5, [.ref (z 4)])), (z 4, .inl (dA 0, 30, .inl tG))] t.heap ∧ va_D A [(z 0, .inr (7, [.ref (z 1), .ref (z 3), .int (nI nd), .int (nI nsg)])), (z 1, .inr (5, [.ref (z 2)])), (z 2, .inl (dA 0, 30, .inl tS)), (z 3, .inr (5, [.ref (z 4)])), (z 4, .inl (dA 0, 30, .inl tG))]) A) RX4 rfl (by decide) (Nat.le_of_ble_eq_true rfl) ?_
  intro p e s m args below meth c hae hx hb hr hts hown hlocks hml hnm hP hK A hAe hD hZ hS hA ls hl
  have hl : lv_has ls 2 [(0, .ref (z 0)), (1, .int (nI d))] := hl
  refine lv_aload_n hx hb dX4_lives_0 rfl (lv_at hl 0 rfl) ?_
  refine lv_iload_n hx hb dX4_lives_1 rfl (lv_at hl 1 rfl) ?_
  have hPc := hP.sub (ws' := [(z 0, .inr (7, [.ref (z 1), .ref (z 3), .int (nI nd), .int (nI nsg)])), (z 1, .inr (5, [.ref (z 2)])), (z 2, .inl (dA 0, 30, .inl tS)), (z 3, .inr (5, [.ref (z 4)])), (z 4, .inl (dA 0, 30, .inl tG))]) [0, 1, 2, 3, 4] rfl
  have hDc := hD.sub (ws' := [(z 0, .inr (7, [.ref (z 1), .ref (z 3), .int (nI nd), .int (nI nsg)])), (z 1, .inr (5, [.ref (z 2)])), (z 2, .inl (dA 0, 30, .inl tS)), (z 3, .inr (5, [.ref (z 4)])), (z 4, .inl (dA 0, 30, .inl tG))]) [0, 1, 2, 3, 4] (by decide) rfl
  have hFc := va_free (wc := [(z 0, .inr (7, [.ref (z 1), .ref (z 3), .int (nI nd), .int (nI nsg)])), (z 1, .inr (5, [.ref (z 2)])), (z 2, .inl (dA 0, 30, .inl tS)), (z 3, .inr (5, [.ref (z 4)])), (z 4, .inl (dA 0, 30, .inl tG))]) hD hS hA [0, 1, 2, 3, 4] rfl
  refine va_calli (va_runV (As := [.int (nI d)]) (rest := []) ⟨hx, hb, hml, hown, hts⟩ (s_stateOf l D dA E z tS tG nd nsg d s.heap.size  (by omega) (by omega) (by omega) hAC) (cwV 1 hts (ga_V q239 q240 q237 q241 q238) rfl rfl rfl (by decide +kernel) ⟨(Nat.le_of_ble_eq_true rfl), (Nat.le_of_ble_eq_true rfl)⟩) ⟨pb_blind, va_recv hK hPc (ci := 7) (q0 := 0) rfl rfl, pb_pre hK hPc hDc hZ hS hFc _⟩ rfl rfl hl.1 rfl (lv_room (Nat.le_of_ble_eq_true rfl)) dX4_lives_2 ⟨(Nat.le_of_ble_eq_true rfl), (Nat.le_of_ble_eq_true rfl)⟩) hS (fun q _ h => hFc q h) hFc (fun r u t H1 locs ht hvm hw hB hz1 hk1 hS => ?_)
  refine W.widen (k := 0) (n := 0) (Nat.le_of_ble_eq_true rfl) (Nat.le_of_ble_eq_true rfl) ?_
  obtain ⟨r1, rfl⟩ : ∃ z, z = r := ⟨_, rfl⟩
  obtain ⟨u2, rfl⟩ : ∃ z, z = u := ⟨_, rfl⟩
  have hw3 := hw
  clear hw
  obtain ⟨hP1, hD1⟩ := hB
  rw [ht] at hP1
  obtain ⟨hP, hD⟩ := va_join (wr := []) (w1 := [(z 0, .inr (7, [.ref (z 1), .ref (z 3), .int (nI nd), .int (nI nsg)])), (z 1, .inr (5, [.ref (z 2)])), (z 2, .inl (dA 0, 30, .inl tS)), (z 3, .inr (5, [.ref (z 4)])), (z 4, .inl (dA 0, 30, .inl tG))]) hP hD [0, 1, 2, 3, 4] [] rfl rfl (by decide) (by decide) hk1 hFc hP1 hD1
  generalize H1 = H at hP hS ⊢
  have hP : va_P D vwCl [(z 0, .inr (7, [.ref (z 1), .ref (z 3), .int (nI nd), .int (nI nsg)])), (z 1, .inr (5, [.ref (z 2)])), (z 2, .inl (dA 0, 30, .inl tS)), (z 3, .inr (5, [.ref (z 4)])), (z 4, .inl (dA 0, 30, .inl tG))] H := hP
  have hD : va_D A [(z 0, .inr (7, [.ref (z 1), .ref (z 3), .int (nI nd), .int (nI nsg)])), (z 1, .inr (5, [.ref (z 2)])), (z 2, .inl (dA 0, 30, .inl tS)), (z 3, .inr (5, [.ref (z 4)])), (z 4, .inl (dA 0, 30, .inl tG))] := hD
  obtain rfl : r1 = tS d := hw3
  refine lv_bipush (v := 98) hx hb dX4_lives_5 (by decide) ?_
  refine lv_icmp_eq (tgt := 20) hx hb dX4_lives_7 (by decide) (fun c4 => ?_) (fun c4 => ?_)
  · refine lv_iconst (v := 1) hx hb dX4_lives_20 (by decide) ?_
    refine lv_goto (tgt := 25) hx hb dX4_lives_21 (by decide) ?_
    refine W.widen (k := 0) (n := 0) (Nat.le_of_ble_eq_true rfl) (Nat.le_of_ble_eq_true rfl) ?_
    have hP9 := hP.sub (ws' := [(z 0, .inr (7, [.ref (z 1), .ref (z 3), .int (nI nd), .int (nI nsg)])), (z 1, .inr (5, [.ref (z 2)])), (z 2, .inl (dA 0, 30, .inl tS)), (z 3, .inr (5, [.ref (z 4)])), (z 4, .inl (dA 0, 30, .inl tG))]) [0, 1, 2, 3, 4] rfl
    have hD9 := hD.sub (ws' := [(z 0, .inr (7, [.ref (z 1), .ref (z 3), .int (nI nd), .int (nI nsg)])), (z 1, .inr (5, [.ref (z 2)])), (z 2, .inl (dA 0, 30, .inl tS)), (z 3, .inr (5, [.ref (z 4)])), (z 4, .inl (dA 0, 30, .inl tG))]) [0, 1, 2, 3, 4] (by decide) rfl
    exact W.zret (v := 1) hx hb hr rfl (fun t ht hW => ⟨⟨1, (), rfl, (show _ = bI (thB (tS d)) from (congrArg bI (thB_1 c4)).symm), ⟨by rw [ht]; exact hP9, hD9⟩⟩, hS.F ht⟩) hS.2.2 dX4_lives_25
  · refine lv_aload_n hx hb dX4_lives_10 rfl (lv_at hl 0 rfl) ?_
    refine lv_iload_n hx hb dX4_lives_11 rfl (lv_at hl 1 rfl) ?_
    have hPc := hP.sub (ws' := [(z 0, .inr (7, [.ref (z 1), .ref (z 3), .int (nI nd), .int (nI nsg)])), (z 1, .inr (5, [.ref (z 2)])), (z 2, .inl (dA 0, 30, .inl tS)), (z 3, .inr (5, [.ref (z 4)])), (z 4, .inl (dA 0, 30, .inl tG))]) [0, 1, 2, 3, 4] rfl
    have hDc := hD.sub (ws' := [(z 0, .inr (7, [.ref (z 1), .ref (z 3), .int (nI nd), .int (nI nsg)])), (z 1, .inr (5, [.ref (z 2)])), (z 2, .inl (dA 0, 30, .inl tS)), (z 3, .inr (5, [.ref (z 4)])), (z 4, .inl (dA 0, 30, .inl tG))]) [0, 1, 2, 3, 4] (by decide) rfl
    have hFc := va_free (wc := [(z 0, .inr (7, [.ref (z 1), .ref (z 3), .int (nI nd), .int (nI nsg)])), (z 1, .inr (5, [.ref (z 2)])), (z 2, .inl (dA 0, 30, .inl tS)), (z 3, .inr (5, [.ref (z 4)])), (z 4, .inl (dA 0, 30, .inl tG))]) hD hS hA [0, 1, 2, 3, 4] rfl
    refine va_calli (va_runV (As := [.int (nI d)]) (rest := []) ⟨hx, hb, hml, hown, hts⟩ (s_stateOf l D dA E z tS tG nd nsg d H.size  (by omega) (by omega) (by omega) hAC) (cwV 1 hts (ga_V q239 q240 q237 q241 q238) rfl rfl rfl (by decide +kernel) ⟨(Nat.le_of_ble_eq_true rfl), (Nat.le_of_ble_eq_true rfl)⟩) ⟨pb_blind, va_recv hK hPc (ci := 7) (q0 := 0) rfl rfl, pb_pre hK hPc hDc hZ hS hFc _⟩ rfl rfl hl.1 rfl (lv_room (Nat.le_of_ble_eq_true rfl)) dX4_lives_12 ⟨(Nat.le_of_ble_eq_true rfl), (Nat.le_of_ble_eq_true rfl)⟩) hS (fun q _ h => hFc q h) hFc (fun r u t H1 locs ht hvm hw hB hz1 hk1 hS => ?_)
    refine W.widen (k := 0) (n := 0) (Nat.le_of_ble_eq_true rfl) (Nat.le_of_ble_eq_true rfl) ?_
    obtain ⟨r5, rfl⟩ : ∃ z, z = r := ⟨_, rfl⟩
    obtain ⟨u6, rfl⟩ : ∃ z, z = u := ⟨_, rfl⟩
    have hw7 := hw
    clear hw
    obtain ⟨hP1, hD1⟩ := hB
    rw [ht] at hP1
    obtain ⟨hP, hD⟩ := va_join (wr := []) (w1 := [(z 0, .inr (7, [.ref (z 1), .ref (z 3), .int (nI nd), .int (nI nsg)])), (z 1, .inr (5, [.ref (z 2)])), (z 2, .inl (dA 0, 30, .inl tS)), (z 3, .inr (5, [.ref (z 4)])), (z 4, .inl (dA 0, 30, .inl tG))]) hP hD [0, 1, 2, 3, 4] [] rfl rfl (by decide) (by decide) hk1 hFc hP1 hD1
    generalize H1 = H at hP hS ⊢
    have hP : va_P D vwCl [(z 0, .inr (7, [.ref (z 1), .ref (z 3), .int (nI nd), .int (nI nsg)])), (z 1, .inr (5, [.ref (z 2)])), (z 2, .inl (dA 0, 30, .inl tS)), (z 3, .inr (5, [.ref (z 4)])), (z 4, .inl (dA 0, 30, .inl tG))] H := hP
    have hD : va_D A [(z 0, .inr (7, [.ref (z 1), .ref (z 3), .int (nI nd), .int (nI nsg)])), (z 1, .inr (5, [.ref (z 2)])), (z 2, .inl (dA 0, 30, .inl tS)), (z 3, .inr (5, [.ref (z 4)])), (z 4, .inl (dA 0, 30, .inl tG))] := hD
    obtain rfl : r5 = tS d := hw7
    refine lv_bipush (v := 115) hx hb dX4_lives_15 (by decide) ?_
    refine lv_icmp_ne (tgt := 24) hx hb dX4_lives_17 (by decide) (fun c8 => ?_) (fun c8 => ?_)
    · refine lv_iconst (v := 0) hx hb dX4_lives_24 (by decide) ?_
      refine W.widen (k := 0) (n := 0) (Nat.le_of_ble_eq_true rfl) (Nat.le_of_ble_eq_true rfl) ?_
      have hP9 := hP.sub (ws' := [(z 0, .inr (7, [.ref (z 1), .ref (z 3), .int (nI nd), .int (nI nsg)])), (z 1, .inr (5, [.ref (z 2)])), (z 2, .inl (dA 0, 30, .inl tS)), (z 3, .inr (5, [.ref (z 4)])), (z 4, .inl (dA 0, 30, .inl tG))]) [0, 1, 2, 3, 4] rfl
      have hD9 := hD.sub (ws' := [(z 0, .inr (7, [.ref (z 1), .ref (z 3), .int (nI nd), .int (nI nsg)])), (z 1, .inr (5, [.ref (z 2)])), (z 2, .inl (dA 0, 30, .inl tS)), (z 3, .inr (5, [.ref (z 4)])), (z 4, .inl (dA 0, 30, .inl tG))]) [0, 1, 2, 3, 4] (by decide) rfl
      exact W.zret (v := 0) hx hb hr rfl (fun t ht hW => ⟨⟨0, (), rfl, (show _ = bI (thB (tS d)) from (congrArg bI (thB_0 c4 c8)).symm), ⟨by rw [ht]; exact hP9, hD9⟩⟩, hS.F ht⟩) hS.2.2 dX4_lives_25
    · refine lv_iconst (v := 1) hx hb dX4_lives_20 (by decide) ?_
      refine lv_goto (tgt := 25) hx hb dX4_lives_21 (by decide) ?_
      refine W.widen (k := 0) (n := 0) (Nat.le_of_ble_eq_true rfl) (Nat.le_of_ble_eq_true rfl) ?_
      have hP9 := hP.sub (ws' := [(z 0, .inr (7, [.ref (z 1), .ref (z 3), .int (nI nd), .int (nI nsg)])), (z 1, .inr (5, [.ref (z 2)])), (z 2, .inl (dA 0, 30, .inl tS)), (z 3, .inr (5, [.ref (z 4)])), (z 4, .inl (dA 0, 30, .inl tG))]) [0, 1, 2, 3, 4] rfl
      have hD9 := hD.sub (ws' := [(z 0, .inr (7, [.ref (z 1), .ref (z 3), .int (nI nd), .int (nI nsg)])), (z 1, .inr (5, [.ref (z 2)])), (z 2, .inl (dA 0, 30, .inl tS)), (z 3, .inr (5, [.ref (z 4)])), (z 4, .inl (dA 0, 30, .inl tG))]) [0, 1, 2, 3, 4] (by decide) rfl
      exact W.zret (v := 1) hx hb hr rfl (fun t ht hW => ⟨⟨1, (), rfl, (show _ = bI (thB (tS d)) from (congrArg bI (thB_2 c8)).symm), ⟨by rw [ht]; exact hP9, hD9⟩⟩, hS.F ht⟩) hS.2.2 dX4_lives_25

set_option maxHeartbeats 4000000 in
set_option maxRecDepth 100000 in
theorem s_takeOut (l : Launch) (D : va_G) (dA : Nat → ClassId) (E : Nat) (z : Nat → Nat) (tS tG : Nat → Int32) (nd nsg : Nat) (d : Nat) (sz : Nat) (hnd : nd ≤ 30) (hnsg : nsg ≤ 1000) (hd : d < 30)  : Met l yX4_takeOut (wq (.code yX4_takeOut cX4_takeOut 2 none)) { frames := 1, cells := 0, slots := 0, locals := 22 } (va_Pc [.ref (z 0), .int (nI d)] (PcB D dA E [(z 0, .inr (7, [.ref (z 1), .ref (z 3), .int (nI nd), .int (nI nsg)])), (z 1, .inr (5, [.ref (z 2)])), (z 2, .inl (dA 0, 30, .inl tS)), (z 3, .inr (5, [.ref (z 4)])), (z 4, .inl (dA 0, 30, .inl tG))] sz)) (va_Qv (fun (u : Unit) => True) (fun u t => va_P D vwCl [(z 0, .inr (7, [.ref (z 1), .ref (z 3), .int (nI nd), .int (nI nsg)])), (z 1, .inr (5, [.ref (z 2)])), (z 2, .inl (dA 0, 30, .inl (upd tS d 114))), (z 3, .inr (5, [.ref (z 4)])), (z 4, .inl (dA 0, 30, .inl tG))] t.heap ∧ va_D (va_A [(z 0, .inr (7, [.ref (z 1), .ref (z 3), .int (nI nd), .int (nI nsg)])), (z 1, .inr (5, [.ref (z 2)])), (z 2, .inl (dA 0, 30, .inl tS)), (z 3, .inr (5, [.ref (z 4)])), (z 4, .inl (dA 0, 30, .inl tG))] sz) [(z 0, .inr (7, [.ref (z 1), .ref (z 3), .int (nI nd), .int (nI nsg)])), (z 1, .inr (5, [.ref (z 2)])), (z 2, .inl (dA 0, 30, .inl (upd tS d 114))), (z 3, .inr (5, [.ref (z 4)])), (z 4, .inl (dA 0, 30, .inl tG))]) (va_A [(z 0, .inr (7, [.ref (z 1), .ref (z 3), .int (nI nd), .int (nI nsg)])), (z 1, .inr (5, [.ref (z 2)])), (z 2, .inl (dA 0, 30, .inl tS)), (z 3, .inr (5, [.ref (z 4)])), (z 4, .inl (dA 0, 30, .inl tG))] sz)) 0 0 (va_A [(z 0, .inr (7, [.ref (z 1), .ref (z 3), .int (nI nd), .int (nI nsg)])), (z 1, .inr (5, [.ref (z 2)])), (z 2, .inl (dA 0, 30, .inl tS)), (z 3, .inr (5, [.ref (z 4)])), (z 4, .inl (dA 0, 30, .inl tG))] sz) := by
  refine mb_of (Qc := fun A => va_Qv (fun (u : Unit) => True) (fun u t => va_P D vwCl [(z 0, .inr (7, [.ref (z 1), .ref (z 3), .int (nI nd), .int (nI nsg)])), (z 1, .inr (5, [.ref (z 2)])), (z 2, .inl (dA 0, 30, .inl (upd tS d 114))), (z 3, .inr (5, [.ref (z 4)])), (z 4, .inl (dA 0, 30, .inl tG))] t.heap ∧ va_D A [(z 0, .inr (7, [.ref (z 1), .ref (z 3), .int (nI nd), .int (nI nsg)])), (z 1, .inr (5, [.ref (z 2)])), (z 2, .inl (dA 0, 30, .inl (upd tS d 114))), (z 3, .inr (5, [.ref (z 4)])), (z 4, .inl (dA 0, 30, .inl tG))]) A) RX4 rfl (by decide) (Nat.le_of_ble_eq_true rfl) ?_
  intro p e s m args below meth c hae hx hb hr hts hown hlocks hml hnm hP hK A hAe hD hZ hS hA ls hl
  have hl : lv_has ls 2 [(0, .ref (z 0)), (1, .int (nI d))] := hl
  refine lv_aload_n hx hb dX4_takeOut_0 rfl (lv_at hl 0 rfl) ?_
  refine va_get (D := D) (ci := 7) (v := .ref (z 1)) (C := RX4) (T := TX4) (N := 4) hx hb hts inAX4 hown hK hP 0 rfl rfl 0 (by decide) (hts _ q235) (fun _ h9 => h9) rfl dX4_takeOut_1 ?_
  refine lv_iload_n hx hb dX4_takeOut_4 rfl (lv_at hl 1 rfl) ?_
  refine lv_bipush (v := 114) hx hb dX4_takeOut_5 (by decide) ?_
  have hPc := hP.sub (ws' := [(z 1, .inr (5, [.ref (z 2)])), (z 2, .inl (dA 0, 30, .inl tS))]) [1, 2] rfl
  have hDc := hD.sub (ws' := [(z 1, .inr (5, [.ref (z 2)])), (z 2, .inl (dA 0, 30, .inl tS))]) [1, 2] (by decide) rfl
  have hFc := va_free (wc := [(z 1, .inr (5, [.ref (z 2)])), (z 2, .inl (dA 0, 30, .inl tS))]) hD hS hA [1, 2] rfl
  refine va_callv (va_runV (As := [.int (nI d), .int 114]) (rest := []) ⟨hx, hb, hml, hown, hts⟩ (t_putN l D dA E (z 1) (z 2) 30 tS d 114 s.heap.size  (by omega) (by decide)) (cwV 2 hts (ga_V q242 q210 q207 q204 q208) rfl rfl rfl (by decide +kernel) ⟨(Nat.le_of_ble_eq_true rfl), (Nat.le_of_ble_eq_true rfl)⟩) ⟨pb_blind, va_recv hK hPc (ci := 5) (q0 := 0) rfl rfl, pb_pre hK hPc hDc hZ hS hFc _⟩ rfl rfl hl.1 rfl (lv_room (Nat.le_of_ble_eq_true rfl)) dX4_takeOut_7 ⟨(Nat.le_of_ble_eq_true rfl), (Nat.le_of_ble_eq_true rfl)⟩) hS (fun q _ h => hFc q h) hFc (fun u t H1 locs ht hvm hw hB hz1 hk1 hS => ?_)
  refine W.widen (k := 0) (n := 0) (Nat.le_of_ble_eq_true rfl) (Nat.le_of_ble_eq_true rfl) ?_
  obtain ⟨u1, rfl⟩ : ∃ z, z = u := ⟨_, rfl⟩
  have hw2 := hw
  clear hw
  obtain ⟨hP1, hD1⟩ := hB
  rw [ht] at hP1
  obtain ⟨hP, hD⟩ := va_join (wr := [(z 0, .inr (7, [.ref (z 1), .ref (z 3), .int (nI nd), .int (nI nsg)])), (z 3, .inr (5, [.ref (z 4)])), (z 4, .inl (dA 0, 30, .inl tG))]) (w1 := [(z 1, .inr (5, [.ref (z 2)])), (z 2, .inl (dA 0, 30, .inl (upd tS d 114)))]) hP hD [1, 2] [0, 3, 4] rfl rfl (by decide) (by decide) hk1 hFc hP1 hD1
  generalize H1 = H at hP hS ⊢
  have hP : va_P D vwCl [(z 0, .inr (7, [.ref (z 1), .ref (z 3), .int (nI nd), .int (nI nsg)])), (z 3, .inr (5, [.ref (z 4)])), (z 4, .inl (dA 0, 30, .inl tG)), (z 1, .inr (5, [.ref (z 2)])), (z 2, .inl (dA 0, 30, .inl (upd tS d 114)))] H := hP
  have hD : va_D A [(z 0, .inr (7, [.ref (z 1), .ref (z 3), .int (nI nd), .int (nI nsg)])), (z 3, .inr (5, [.ref (z 4)])), (z 4, .inl (dA 0, 30, .inl tG)), (z 1, .inr (5, [.ref (z 2)])), (z 2, .inl (dA 0, 30, .inl (upd tS d 114)))] := hD
  refine W.widen (k := 0) (n := 0) (Nat.le_of_ble_eq_true rfl) (Nat.le_of_ble_eq_true rfl) ?_
  have hP9 := hP.sub (ws' := [(z 0, .inr (7, [.ref (z 1), .ref (z 3), .int (nI nd), .int (nI nsg)])), (z 1, .inr (5, [.ref (z 2)])), (z 2, .inl (dA 0, 30, .inl (upd tS d 114))), (z 3, .inr (5, [.ref (z 4)])), (z 4, .inl (dA 0, 30, .inl tG))]) [0, 3, 4, 1, 2] rfl
  have hD9 := hD.sub (ws' := [(z 0, .inr (7, [.ref (z 1), .ref (z 3), .int (nI nd), .int (nI nsg)])), (z 1, .inr (5, [.ref (z 2)])), (z 2, .inl (dA 0, 30, .inl (upd tS d 114))), (z 3, .inr (5, [.ref (z 4)])), (z 4, .inl (dA 0, 30, .inl tG))]) [0, 3, 4, 1, 2] (by decide) rfl
  exact W.vret hx hb hr (fun t ht hW => ⟨⟨(), rfl, trivial, ⟨by rw [ht]; exact hP9, hD9⟩⟩, hS.F ht⟩) hS.2.2 dX4_takeOut_10

set_option maxHeartbeats 4000000 in
set_option maxRecDepth 100000 in
theorem s_addToBuffer (l : Launch) (D : va_G) (dA : Nat → ClassId) (E : Nat) (z : Nat → Nat) (tS tG : Nat → Int32) (nd nsg : Nat) (sz : Nat) (hnd : nd < 30) (hnsg : nsg ≤ 1000)  : Met l yX4_addToBuffer (wq (.code yX4_addToBuffer cX4_addToBuffer 1 none)) { frames := 1, cells := 0, slots := 0, locals := 22 } (va_Pc [.ref (z 0)] (PcB D dA E [(z 0, .inr (7, [.ref (z 1), .ref (z 3), .int (nI nd), .int (nI nsg)])), (z 1, .inr (5, [.ref (z 2)])), (z 2, .inl (dA 0, 30, .inl tS)), (z 3, .inr (5, [.ref (z 4)])), (z 4, .inl (dA 0, 30, .inl tG))] sz)) (va_Qv (fun (u : Unit) => True) (fun u t => va_P D vwCl [(z 0, .inr (7, [.ref (z 1), .ref (z 3), .int (nI (nd + 1)), .int (nI nsg)])), (z 1, .inr (5, [.ref (z 2)])), (z 2, .inl (dA 0, 30, .inl (upd tS nd 98))), (z 3, .inr (5, [.ref (z 4)])), (z 4, .inl (dA 0, 30, .inl (upd tG nd (-1))))] t.heap ∧ va_D (va_A [(z 0, .inr (7, [.ref (z 1), .ref (z 3), .int (nI nd), .int (nI nsg)])), (z 1, .inr (5, [.ref (z 2)])), (z 2, .inl (dA 0, 30, .inl tS)), (z 3, .inr (5, [.ref (z 4)])), (z 4, .inl (dA 0, 30, .inl tG))] sz) [(z 0, .inr (7, [.ref (z 1), .ref (z 3), .int (nI (nd + 1)), .int (nI nsg)])), (z 1, .inr (5, [.ref (z 2)])), (z 2, .inl (dA 0, 30, .inl (upd tS nd 98))), (z 3, .inr (5, [.ref (z 4)])), (z 4, .inl (dA 0, 30, .inl (upd tG nd (-1))))]) (va_A [(z 0, .inr (7, [.ref (z 1), .ref (z 3), .int (nI nd), .int (nI nsg)])), (z 1, .inr (5, [.ref (z 2)])), (z 2, .inl (dA 0, 30, .inl tS)), (z 3, .inr (5, [.ref (z 4)])), (z 4, .inl (dA 0, 30, .inl tG))] sz)) 0 0 (va_A [(z 0, .inr (7, [.ref (z 1), .ref (z 3), .int (nI nd), .int (nI nsg)])), (z 1, .inr (5, [.ref (z 2)])), (z 2, .inl (dA 0, 30, .inl tS)), (z 3, .inr (5, [.ref (z 4)])), (z 4, .inl (dA 0, 30, .inl tG))] sz) := by
  refine mb_of (Qc := fun A => va_Qv (fun (u : Unit) => True) (fun u t => va_P D vwCl [(z 0, .inr (7, [.ref (z 1), .ref (z 3), .int (nI (nd + 1)), .int (nI nsg)])), (z 1, .inr (5, [.ref (z 2)])), (z 2, .inl (dA 0, 30, .inl (upd tS nd 98))), (z 3, .inr (5, [.ref (z 4)])), (z 4, .inl (dA 0, 30, .inl (upd tG nd (-1))))] t.heap ∧ va_D A [(z 0, .inr (7, [.ref (z 1), .ref (z 3), .int (nI (nd + 1)), .int (nI nsg)])), (z 1, .inr (5, [.ref (z 2)])), (z 2, .inl (dA 0, 30, .inl (upd tS nd 98))), (z 3, .inr (5, [.ref (z 4)])), (z 4, .inl (dA 0, 30, .inl (upd tG nd (-1))))]) A) RX4 rfl (by decide) (Nat.le_of_ble_eq_true rfl) ?_
  intro p e s m args below meth c hae hx hb hr hts hown hlocks hml hnm hP hK A hAe hD hZ hS hA ls hl
  have hl : lv_has ls 1 [(0, .ref (z 0))] := hl
  refine lv_aload_n hx hb dX4_addToBuffer_0 rfl (lv_at hl 0 rfl) ?_
  refine va_get (D := D) (ci := 7) (v := .ref (z 1)) (C := RX4) (T := TX4) (N := 4) hx hb hts inAX4 hown hK hP 0 rfl rfl 0 (by decide) (hts _ q235) (fun _ h9 => h9) rfl dX4_addToBuffer_1 ?_
  refine lv_aload_n hx hb dX4_addToBuffer_4 rfl (lv_at hl 0 rfl) ?_
  refine va_get (D := D) (ci := 7) (v := .int (nI nd)) (C := RX4) (T := TX4) (N := 4) hx hb hts inAX4 hown hK hP 0 rfl rfl 2 (by decide) (hts _ q243) (fun _ h9 => h9) rfl dX4_addToBuffer_5 ?_
  refine lv_bipush (v := 98) hx hb dX4_addToBuffer_8 (by decide) ?_
  have hPc := hP.sub (ws' := [(z 1, .inr (5, [.ref (z 2)])), (z 2, .inl (dA 0, 30, .inl tS))]) [1, 2] rfl
  have hDc := hD.sub (ws' := [(z 1, .inr (5, [.ref (z 2)])), (z 2, .inl (dA 0, 30, .inl tS))]) [1, 2] (by decide) rfl
  have hFc := va_free (wc := [(z 1, .inr (5, [.ref (z 2)])), (z 2, .inl (dA 0, 30, .inl tS))]) hD hS hA [1, 2] rfl
  refine va_callv (va_runV (As := [.int (nI nd), .int 98]) (rest := []) ⟨hx, hb, hml, hown, hts⟩ (t_putN l D dA E (z 1) (z 2) 30 tS nd 98 s.heap.size  (by omega) (by decide)) (cwV 2 hts (ga_V q242 q210 q207 q204 q208) rfl rfl rfl (by decide +kernel) ⟨(Nat.le_of_ble_eq_true rfl), (Nat.le_of_ble_eq_true rfl)⟩) ⟨pb_blind, va_recv hK hPc (ci := 5) (q0 := 0) rfl rfl, pb_pre hK hPc hDc hZ hS hFc _⟩ rfl rfl hl.1 rfl (lv_room (Nat.le_of_ble_eq_true rfl)) dX4_addToBuffer_10 ⟨(Nat.le_of_ble_eq_true rfl), (Nat.le_of_ble_eq_true rfl)⟩) hS (fun q _ h => hFc q h) hFc (fun u t H1 locs ht hvm hw hB hz1 hk1 hS => ?_)
  refine W.widen (k := 0) (n := 0) (Nat.le_of_ble_eq_true rfl) (Nat.le_of_ble_eq_true rfl) ?_
  obtain ⟨u1, rfl⟩ : ∃ z, z = u := ⟨_, rfl⟩
  have hw2 := hw
  clear hw
  obtain ⟨hP1, hD1⟩ := hB
  rw [ht] at hP1
  obtain ⟨hP, hD⟩ := va_join (wr := [(z 0, .inr (7, [.ref (z 1), .ref (z 3), .int (nI nd), .int (nI nsg)])), (z 3, .inr (5, [.ref (z 4)])), (z 4, .inl (dA 0, 30, .inl tG))]) (w1 := [(z 1, .inr (5, [.ref (z 2)])), (z 2, .inl (dA 0, 30, .inl (upd tS nd 98)))]) hP hD [1, 2] [0, 3, 4] rfl rfl (by decide) (by decide) hk1 hFc hP1 hD1
  generalize H1 = H at hP hS ⊢
  have hP : va_P D vwCl [(z 0, .inr (7, [.ref (z 1), .ref (z 3), .int (nI nd), .int (nI nsg)])), (z 3, .inr (5, [.ref (z 4)])), (z 4, .inl (dA 0, 30, .inl tG)), (z 1, .inr (5, [.ref (z 2)])), (z 2, .inl (dA 0, 30, .inl (upd tS nd 98)))] H := hP
  have hD : va_D A [(z 0, .inr (7, [.ref (z 1), .ref (z 3), .int (nI nd), .int (nI nsg)])), (z 3, .inr (5, [.ref (z 4)])), (z 4, .inl (dA 0, 30, .inl tG)), (z 1, .inr (5, [.ref (z 2)])), (z 2, .inl (dA 0, 30, .inl (upd tS nd 98)))] := hD
  refine lv_aload_n hx hb dX4_addToBuffer_13 rfl (lv_at hl 0 rfl) ?_
  refine va_get (D := D) (ci := 7) (v := .ref (z 3)) (C := RX4) (T := TX4) (N := 4) hx hb hts inAX4 hown hK hP 0 rfl rfl 1 (by decide) (hts _ q244) (fun _ h9 => h9) rfl dX4_addToBuffer_14 ?_
  refine lv_aload_n hx hb dX4_addToBuffer_17 rfl (lv_at hl 0 rfl) ?_
  refine va_get (D := D) (ci := 7) (v := .int (nI nd)) (C := RX4) (T := TX4) (N := 4) hx hb hts inAX4 hown hK hP 0 rfl rfl 2 (by decide) (hts _ q243) (fun _ h9 => h9) rfl dX4_addToBuffer_18 ?_
  refine lv_iconst (v := (-1)) hx hb dX4_addToBuffer_21 (by decide) ?_
  have hPc := hP.sub (ws' := [(z 3, .inr (5, [.ref (z 4)])), (z 4, .inl (dA 0, 30, .inl tG))]) [1, 2] rfl
  have hDc := hD.sub (ws' := [(z 3, .inr (5, [.ref (z 4)])), (z 4, .inl (dA 0, 30, .inl tG))]) [1, 2] (by decide) rfl
  have hFc := va_free (wc := [(z 3, .inr (5, [.ref (z 4)])), (z 4, .inl (dA 0, 30, .inl tG))]) hD hS hA [1, 2] rfl
  refine va_callv (va_runV (As := [.int (nI nd), .int (-1)]) (rest := []) ⟨hx, hb, hml, hown, hts⟩ (t_putN l D dA E (z 3) (z 4) 30 tG nd (-1) H.size  (by omega) (by decide)) (cwV 2 hts (ga_V q242 q210 q207 q204 q208) rfl rfl rfl (by decide +kernel) ⟨(Nat.le_of_ble_eq_true rfl), (Nat.le_of_ble_eq_true rfl)⟩) ⟨pb_blind, va_recv hK hPc (ci := 5) (q0 := 0) rfl rfl, pb_pre hK hPc hDc hZ hS hFc _⟩ rfl rfl hl.1 rfl (lv_room (Nat.le_of_ble_eq_true rfl)) dX4_addToBuffer_22 ⟨(Nat.le_of_ble_eq_true rfl), (Nat.le_of_ble_eq_true rfl)⟩) hS (fun q _ h => hFc q h) hFc (fun u t H1 locs ht hvm hw hB hz1 hk1 hS => ?_)
  refine W.widen (k := 0) (n := 0) (Nat.le_of_ble_eq_true rfl) (Nat.le_of_ble_eq_true rfl) ?_
  obtain ⟨u3, rfl⟩ : ∃ z, z = u := ⟨_, rfl⟩
  have hw4 := hw
  clear hw
  obtain ⟨hP1, hD1⟩ := hB
  rw [ht] at hP1
  obtain ⟨hP, hD⟩ := va_join (wr := [(z 0, .inr (7, [.ref (z 1), .ref (z 3), .int (nI nd), .int (nI nsg)])), (z 1, .inr (5, [.ref (z 2)])), (z 2, .inl (dA 0, 30, .inl (upd tS nd 98)))]) (w1 := [(z 3, .inr (5, [.ref (z 4)])), (z 4, .inl (dA 0, 30, .inl (upd tG nd (-1))))]) hP hD [1, 2] [0, 3, 4] rfl rfl (by decide) (by decide) hk1 hFc hP1 hD1
  generalize H1 = H at hP hS ⊢
  have hP : va_P D vwCl [(z 0, .inr (7, [.ref (z 1), .ref (z 3), .int (nI nd), .int (nI nsg)])), (z 1, .inr (5, [.ref (z 2)])), (z 2, .inl (dA 0, 30, .inl (upd tS nd 98))), (z 3, .inr (5, [.ref (z 4)])), (z 4, .inl (dA 0, 30, .inl (upd tG nd (-1))))] H := hP
  have hD : va_D A [(z 0, .inr (7, [.ref (z 1), .ref (z 3), .int (nI nd), .int (nI nsg)])), (z 1, .inr (5, [.ref (z 2)])), (z 2, .inl (dA 0, 30, .inl (upd tS nd 98))), (z 3, .inr (5, [.ref (z 4)])), (z 4, .inl (dA 0, 30, .inl (upd tG nd (-1))))] := hD
  refine lv_aload_n hx hb dX4_addToBuffer_25 rfl (lv_at hl 0 rfl) ?_
  refine lv_dup hx hb dX4_addToBuffer_26 rfl ?_
  refine va_get (D := D) (ci := 7) (v := .int (nI nd)) (C := RX4) (T := TX4) (N := 4) hx hb hts inAX4 hown hK hP 0 rfl rfl 2 (by decide) (hts _ q243) (fun _ h9 => h9) rfl dX4_addToBuffer_27 ?_
  refine lv_iconst (v := 1) hx hb dX4_addToBuffer_30 (by decide) ?_
  refine lv_iadd hx hb dX4_addToBuffer_31 ?_
  refine lv_topi (fun x5 ex5 => ?_)
  obtain rfl : x5 = nI (nd + 1) := ex5.trans (nI_add nd 1)
  refine va_put (D := D) (ci := 7) (v := .int (nI (nd + 1))) (ty := .int) (C := RX4) (T := TX4) (N := 4) hx hb hts inAX4 tyX4 tyX4_ok nmX4 hown hK hP hD hS 0 rfl rfl 2 (by decide) (hts _ q243) (fun _ h9 => h9) rfl (tyX4_ok 2 (by decide)) rfl rfl (Nat.le_of_ble_eq_true rfl) dX4_addToBuffer_32 (fun H locs hP hD hS => ?_)
  have hP : va_P D vwCl [(z 0, .inr (7, [.ref (z 1), .ref (z 3), .int (nI (nd + 1)), .int (nI nsg)])), (z 1, .inr (5, [.ref (z 2)])), (z 2, .inl (dA 0, 30, .inl (upd tS nd 98))), (z 3, .inr (5, [.ref (z 4)])), (z 4, .inl (dA 0, 30, .inl (upd tG nd (-1))))] H := hP
  have hD : va_D A [(z 0, .inr (7, [.ref (z 1), .ref (z 3), .int (nI (nd + 1)), .int (nI nsg)])), (z 1, .inr (5, [.ref (z 2)])), (z 2, .inl (dA 0, 30, .inl (upd tS nd 98))), (z 3, .inr (5, [.ref (z 4)])), (z 4, .inl (dA 0, 30, .inl (upd tG nd (-1))))] := hD
  refine W.widen (k := 0) (n := 0) (Nat.le_of_ble_eq_true rfl) (Nat.le_of_ble_eq_true rfl) ?_
  have hP9 := hP.sub (ws' := [(z 0, .inr (7, [.ref (z 1), .ref (z 3), .int (nI (nd + 1)), .int (nI nsg)])), (z 1, .inr (5, [.ref (z 2)])), (z 2, .inl (dA 0, 30, .inl (upd tS nd 98))), (z 3, .inr (5, [.ref (z 4)])), (z 4, .inl (dA 0, 30, .inl (upd tG nd (-1))))]) [0, 1, 2, 3, 4] rfl
  have hD9 := hD.sub (ws' := [(z 0, .inr (7, [.ref (z 1), .ref (z 3), .int (nI (nd + 1)), .int (nI nsg)])), (z 1, .inr (5, [.ref (z 2)])), (z 2, .inl (dA 0, 30, .inl (upd tS nd 98))), (z 3, .inr (5, [.ref (z 4)])), (z 4, .inl (dA 0, 30, .inl (upd tG nd (-1))))]) [0, 1, 2, 3, 4] (by decide) rfl
  exact W.vret hx hb hr (fun t ht hW => ⟨⟨(), rfl, trivial, ⟨by rw [ht]; exact hP9, hD9⟩⟩, hS.F ht⟩) hS.2.2 dX4_addToBuffer_35

set_option maxHeartbeats 4000000 in
set_option maxRecDepth 100000 in
theorem s_writeBuffer (l : Launch) (D : va_G) (dA : Nat → ClassId) (E : Nat) (z : Nat → Nat) (tS tG : Nat → Int32) (nd nsg : Nat) (sz : Nat) (hnd : nd ≤ 30) (hnsg : nsg ≤ 1000) (hAC : AC tS)  : Met l yX4_writeBuffer (wq (.code yX4_writeBuffer cX4_writeBuffer 3 (some .int))) { frames := 2, cells := 0, slots := 0, locals := 42 } (va_Pc [.ref (z 0)] (PcB D dA E [(z 0, .inr (7, [.ref (z 1), .ref (z 3), .int (nI nd), .int (nI nsg)])), (z 1, .inr (5, [.ref (z 2)])), (z 2, .inl (dA 0, 30, .inl tS)), (z 3, .inr (5, [.ref (z 4)])), (z 4, .inl (dA 0, 30, .inl tG))] sz)) (va_Qi (fun (r : Int32) (u : Nat) => r = nI (wrN tS nd) ∧ u = (if 0 < wrN tS nd then 1 else 0)) (fun u t => va_P D vwCl [(z 0, .inr (7, [.ref (z 1), .ref (z 3), .int (nI nd), .int (nI (nsg + u))])), (z 1, .inr (5, [.ref (z 2)])), (z 2, .inl (dA 0, 30, .inl (fl (wrS tS) tS nd))), (z 3, .inr (5, [.ref (z 4)])), (z 4, .inl (dA 0, 30, .inl (fl (wrG tS tG nsg) tG nd)))] t.heap ∧ va_D (va_A [(z 0, .inr (7, [.ref (z 1), .ref (z 3), .int (nI nd), .int (nI nsg)])), (z 1, .inr (5, [.ref (z 2)])), (z 2, .inl (dA 0, 30, .inl tS)), (z 3, .inr (5, [.ref (z 4)])), (z 4, .inl (dA 0, 30, .inl tG))] sz) [(z 0, .inr (7, [.ref (z 1), .ref (z 3), .int (nI nd), .int (nI (nsg + u))])), (z 1, .inr (5, [.ref (z 2)])), (z 2, .inl (dA 0, 30, .inl (fl (wrS tS) tS nd))), (z 3, .inr (5, [.ref (z 4)])), (z 4, .inl (dA 0, 30, .inl (fl (wrG tS tG nsg) tG nd)))]) (va_A [(z 0, .inr (7, [.ref (z 1), .ref (z 3), .int (nI nd), .int (nI nsg)])), (z 1, .inr (5, [.ref (z 2)])), (z 2, .inl (dA 0, 30, .inl tS)), (z 3, .inr (5, [.ref (z 4)])), (z 4, .inl (dA 0, 30, .inl tG))] sz)) 0 0 (va_A [(z 0, .inr (7, [.ref (z 1), .ref (z 3), .int (nI nd), .int (nI nsg)])), (z 1, .inr (5, [.ref (z 2)])), (z 2, .inl (dA 0, 30, .inl tS)), (z 3, .inr (5, [.ref (z 4)])), (z 4, .inl (dA 0, 30, .inl tG))] sz) := by
  refine mb_of (Qc := fun A => va_Qi (fun (r : Int32) (u : Nat) => r = nI (wrN tS nd) ∧ u = (if 0 < wrN tS nd then 1 else 0)) (fun u t => va_P D vwCl [(z 0, .inr (7, [.ref (z 1), .ref (z 3), .int (nI nd), .int (nI (nsg + u))])), (z 1, .inr (5, [.ref (z 2)])), (z 2, .inl (dA 0, 30, .inl (fl (wrS tS) tS nd))), (z 3, .inr (5, [.ref (z 4)])), (z 4, .inl (dA 0, 30, .inl (fl (wrG tS tG nsg) tG nd)))] t.heap ∧ va_D A [(z 0, .inr (7, [.ref (z 1), .ref (z 3), .int (nI nd), .int (nI (nsg + u))])), (z 1, .inr (5, [.ref (z 2)])), (z 2, .inl (dA 0, 30, .inl (fl (wrS tS) tS nd))), (z 3, .inr (5, [.ref (z 4)])), (z 4, .inl (dA 0, 30, .inl (fl (wrG tS tG nsg) tG nd)))]) A) RX4 rfl (by decide) (Nat.le_of_ble_eq_true rfl) ?_
  intro p e s m args below meth c hae hx hb hr hts hown hlocks hml hnm hP hK A hAe hD hZ hS hA ls hl
  have hl : lv_has ls 3 [(0, .ref (z 0))] := hl
  refine lv_iconst (v := 0) hx hb dX4_writeBuffer_0 (by decide) ?_
  refine lv_istore_n (lv' := [(1, .int 0), (0, .ref (z 0))]) hx hb dX4_writeBuffer_1 rfl hl (by decide) rfl (fun ls hl => ?_)
  refine lv_iconst (v := 0) hx hb dX4_writeBuffer_2 (by decide) ?_
  refine lv_istore_n (lv' := [(2, .int 0), (1, .int 0), (0, .ref (z 0))]) hx hb dX4_writeBuffer_3 rfl hl (by decide) rfl (fun ls hl => ?_)
  have K4 : ∀ (k4 i4 : Nat) (g4_0 : Nat → Int32) (g4_1 : Nat → Int32) (g4_2 : Int32), 0 ≤ i4 → i4 ≤ nd → nd < i4 + k4 → (g4_0 = fl (wrS tS) tS i4) ∧ (g4_1 = fl (wrG tS tG nsg) tG i4) ∧ (g4_2 = nI (cn (fun d => decide (tS d = 98)) i4)) → ∀ (H : Heap) (locs : List Loc), va_P D vwCl [(z 0, .inr (7, [.ref (z 1), .ref (z 3), .int (nI nd), .int (nI nsg)])), (z 1, .inr (5, [.ref (z 2)])), (z 2, .inl (dA 0, 30, .inl g4_0)), (z 3, .inr (5, [.ref (z 4)])), (z 4, .inl (dA 0, 30, .inl g4_1))] H → va_D A [(z 0, .inr (7, [.ref (z 1), .ref (z 3), .int (nI nd), .int (nI nsg)])), (z 1, .inr (5, [.ref (z 2)])), (z 2, .inl (dA 0, 30, .inl g4_0)), (z 3, .inr (5, [.ref (z 4)])), (z 4, .inl (dA 0, 30, .inl g4_1))] → va_S A s.heap H locs → ∀ ls : Array Slot, lv_has ls 3 [(2, .int (nI i4)), (1, .int g4_2), (0, .ref (z 0))] → W p l e { frames := 2, cells := 0, slots := 0, locals := 42 } s m args below meth c H locs 0 0 (MQ below (va_Qi (fun (r : Int32) (u : Nat) => r = nI (wrN tS nd) ∧ u = (if 0 < wrN tS nd then 1 else 0)) (fun u t => va_P D vwCl [(z 0, .inr (7, [.ref (z 1), .ref (z 3), .int (nI nd), .int (nI (nsg + u))])), (z 1, .inr (5, [.ref (z 2)])), (z 2, .inl (dA 0, 30, .inl (fl (wrS tS) tS nd))), (z 3, .inr (5, [.ref (z 4)])), (z 4, .inl (dA 0, 30, .inl (fl (wrG tS tG nsg) tG nd)))] t.heap ∧ va_D A [(z 0, .inr (7, [.ref (z 1), .ref (z 3), .int (nI nd), .int (nI (nsg + u))])), (z 1, .inr (5, [.ref (z 2)])), (z 2, .inl (dA 0, 30, .inl (fl (wrS tS) tS nd))), (z 3, .inr (5, [.ref (z 4)])), (z 4, .inl (dA 0, 30, .inl (fl (wrG tS tG nsg) tG nd)))]) A) args s 0 0 A) (F0 m 4 ls []) := by
    intro k4
    induction k4 with
    | zero => intro i4 g4_0 g4_1 g4_2 h1 h2 h3; exact absurd h3 (by omega)
    | succ k4 ih4 =>
      intro i4 g4_0 g4_1 g4_2 hlo4 hhi4 hms4 hinv4 H locs hP hD hS ls hl
      obtain ⟨eg4_0, eg4_1, eg4_2⟩ := hinv4
      subst eg4_0
      subst eg4_1
      subst eg4_2
      have hcn := cn_le (fun d => decide (tS d = 98)) i4
      refine lv_iload_n hx hb dX4_writeBuffer_4 rfl (lv_at hl 0 rfl) ?_
      refine lv_aload_n hx hb dX4_writeBuffer_5 rfl (lv_at hl 2 rfl) ?_
      refine va_get (D := D) (ci := 7) (v := .int (nI nd)) (C := RX4) (T := TX4) (N := 4) hx hb hts inAX4 hown hK hP 0 rfl rfl 2 (by decide) (hts _ q243) (fun _ h9 => h9) rfl dX4_writeBuffer_6 ?_
      refine lv_icmp_ge (tgt := 56) hx hb dX4_writeBuffer_9 (by decide) (fun c1 => ?_) (fun c1 => ?_)
      · replace c1 := (nI_leI (a := nd) (b := i4) (by omega) (by omega)).mp c1
        obtain rfl : nd = i4 := (by omega)
        have hP : va_P D vwCl [(z 0, .inr (7, [.ref (z 1), .ref (z 3), .int (nI nd), .int (nI nsg)])), (z 1, .inr (5, [.ref (z 2)])), (z 2, .inl (dA 0, 30, .inl (fl (wrS tS) tS nd))), (z 3, .inr (5, [.ref (z 4)])), (z 4, .inl (dA 0, 30, .inl (fl (wrG tS tG nsg) tG nd)))] H := hP
        have hD : va_D A [(z 0, .inr (7, [.ref (z 1), .ref (z 3), .int (nI nd), .int (nI nsg)])), (z 1, .inr (5, [.ref (z 2)])), (z 2, .inl (dA 0, 30, .inl (fl (wrS tS) tS nd))), (z 3, .inr (5, [.ref (z 4)])), (z 4, .inl (dA 0, 30, .inl (fl (wrG tS tG nsg) tG nd)))] := hD
        refine lv_iload_n hx hb dX4_writeBuffer_56 rfl (lv_at hl 1 rfl) ?_
        refine lv_if_le (tgt := 70) hx hb dX4_writeBuffer_57 (by decide) (fun c2 => ?_) (fun c2 => ?_)
        · replace c2 := (nI_leI (a := (cn (fun d => decide (tS d = 98)) nd)) (b := 0) (by omega) (by omega)).mp c2
          refine lv_iload_n hx hb dX4_writeBuffer_70 rfl (lv_at hl 1 rfl) ?_
          refine W.widen (k := 0) (n := 0) (Nat.le_of_ble_eq_true rfl) (Nat.le_of_ble_eq_true rfl) ?_
          have hP9 := hP.sub (ws' := [(z 0, .inr (7, [.ref (z 1), .ref (z 3), .int (nI nd), .int (nI nsg)])), (z 1, .inr (5, [.ref (z 2)])), (z 2, .inl (dA 0, 30, .inl (fl (wrS tS) tS nd))), (z 3, .inr (5, [.ref (z 4)])), (z 4, .inl (dA 0, 30, .inl (fl (wrG tS tG nsg) tG nd)))]) [0, 1, 2, 3, 4] rfl
          have hD9 := hD.sub (ws' := [(z 0, .inr (7, [.ref (z 1), .ref (z 3), .int (nI nd), .int (nI nsg)])), (z 1, .inr (5, [.ref (z 2)])), (z 2, .inl (dA 0, 30, .inl (fl (wrS tS) tS nd))), (z 3, .inr (5, [.ref (z 4)])), (z 4, .inl (dA 0, 30, .inl (fl (wrG tS tG nsg) tG nd)))]) [0, 1, 2, 3, 4] (by decide) rfl
          exact W.iret (v := (nI (cn (fun d => decide (tS d = 98)) nd))) hx hb hr (fun t ht hW => ⟨⟨(nI (cn (fun d => decide (tS d = 98)) nd)), 0, rfl, ⟨rfl, (if_neg (by show ¬ 0 < cn (fun d => decide (tS d = 98)) nd; omega)).symm⟩, ⟨by rw [ht]; exact hP9, hD9⟩⟩, hS.F ht⟩) hS.2.2 dX4_writeBuffer_71
        · replace c2 := mt (nI_leI (a := (cn (fun d => decide (tS d = 98)) nd)) (b := 0) (by omega) (by omega)).mpr c2
          refine lv_aload_n hx hb dX4_writeBuffer_60 rfl (lv_at hl 2 rfl) ?_
          refine lv_dup hx hb dX4_writeBuffer_61 rfl ?_
          refine va_get (D := D) (ci := 7) (v := .int (nI nsg)) (C := RX4) (T := TX4) (N := 4) hx hb hts inAX4 hown hK hP 0 rfl rfl 3 (by decide) (hts _ q245) (fun _ h9 => h9) rfl dX4_writeBuffer_62 ?_
          refine lv_iconst (v := 1) hx hb dX4_writeBuffer_65 (by decide) ?_
          refine lv_iadd hx hb dX4_writeBuffer_66 ?_
          refine lv_topi (fun x3 ex3 => ?_)
          obtain rfl : x3 = nI (nsg + 1) := ex3.trans (nI_add nsg 1)
          refine va_put (D := D) (ci := 7) (v := .int (nI (nsg + 1))) (ty := .int) (C := RX4) (T := TX4) (N := 4) hx hb hts inAX4 tyX4 tyX4_ok nmX4 hown hK hP hD hS 0 rfl rfl 3 (by decide) (hts _ q245) (fun _ h9 => h9) rfl (tyX4_ok 3 (by decide)) rfl rfl (Nat.le_of_ble_eq_true rfl) dX4_writeBuffer_67 (fun H locs hP hD hS => ?_)
          have hP : va_P D vwCl [(z 0, .inr (7, [.ref (z 1), .ref (z 3), .int (nI nd), .int (nI (nsg + 1))])), (z 1, .inr (5, [.ref (z 2)])), (z 2, .inl (dA 0, 30, .inl (fl (wrS tS) tS nd))), (z 3, .inr (5, [.ref (z 4)])), (z 4, .inl (dA 0, 30, .inl (fl (wrG tS tG nsg) tG nd)))] H := hP
          have hD : va_D A [(z 0, .inr (7, [.ref (z 1), .ref (z 3), .int (nI nd), .int (nI (nsg + 1))])), (z 1, .inr (5, [.ref (z 2)])), (z 2, .inl (dA 0, 30, .inl (fl (wrS tS) tS nd))), (z 3, .inr (5, [.ref (z 4)])), (z 4, .inl (dA 0, 30, .inl (fl (wrG tS tG nsg) tG nd)))] := hD
          refine lv_iload_n hx hb dX4_writeBuffer_70 rfl (lv_at hl 1 rfl) ?_
          refine W.widen (k := 0) (n := 0) (Nat.le_of_ble_eq_true rfl) (Nat.le_of_ble_eq_true rfl) ?_
          have hP9 := hP.sub (ws' := [(z 0, .inr (7, [.ref (z 1), .ref (z 3), .int (nI nd), .int (nI (nsg + 1))])), (z 1, .inr (5, [.ref (z 2)])), (z 2, .inl (dA 0, 30, .inl (fl (wrS tS) tS nd))), (z 3, .inr (5, [.ref (z 4)])), (z 4, .inl (dA 0, 30, .inl (fl (wrG tS tG nsg) tG nd)))]) [0, 1, 2, 3, 4] rfl
          have hD9 := hD.sub (ws' := [(z 0, .inr (7, [.ref (z 1), .ref (z 3), .int (nI nd), .int (nI (nsg + 1))])), (z 1, .inr (5, [.ref (z 2)])), (z 2, .inl (dA 0, 30, .inl (fl (wrS tS) tS nd))), (z 3, .inr (5, [.ref (z 4)])), (z 4, .inl (dA 0, 30, .inl (fl (wrG tS tG nsg) tG nd)))]) [0, 1, 2, 3, 4] (by decide) rfl
          exact W.iret (v := (nI (cn (fun d => decide (tS d = 98)) nd))) hx hb hr (fun t ht hW => ⟨⟨(nI (cn (fun d => decide (tS d = 98)) nd)), 1, rfl, ⟨rfl, (if_pos (by show 0 < cn (fun d => decide (tS d = 98)) nd; omega)).symm⟩, ⟨by rw [ht]; exact hP9, hD9⟩⟩, hS.F ht⟩) hS.2.2 dX4_writeBuffer_71
      · replace c1 := mt (nI_leI (a := nd) (b := i4) (by omega) (by omega)).mpr c1
        refine lv_aload_n hx hb dX4_writeBuffer_12 rfl (lv_at hl 2 rfl) ?_
        refine lv_iload_n hx hb dX4_writeBuffer_13 rfl (lv_at hl 0 rfl) ?_
        have hPc := hP.sub (ws' := [(z 0, .inr (7, [.ref (z 1), .ref (z 3), .int (nI nd), .int (nI nsg)])), (z 1, .inr (5, [.ref (z 2)])), (z 2, .inl (dA 0, 30, .inl (fl (wrS tS) tS i4))), (z 3, .inr (5, [.ref (z 4)])), (z 4, .inl (dA 0, 30, .inl (fl (wrG tS tG nsg) tG i4)))]) [0, 1, 2, 3, 4] rfl
        have hDc := hD.sub (ws' := [(z 0, .inr (7, [.ref (z 1), .ref (z 3), .int (nI nd), .int (nI nsg)])), (z 1, .inr (5, [.ref (z 2)])), (z 2, .inl (dA 0, 30, .inl (fl (wrS tS) tS i4))), (z 3, .inr (5, [.ref (z 4)])), (z 4, .inl (dA 0, 30, .inl (fl (wrG tS tG nsg) tG i4)))]) [0, 1, 2, 3, 4] (by decide) rfl
        have hFc := va_free (wc := [(z 0, .inr (7, [.ref (z 1), .ref (z 3), .int (nI nd), .int (nI nsg)])), (z 1, .inr (5, [.ref (z 2)])), (z 2, .inl (dA 0, 30, .inl (fl (wrS tS) tS i4))), (z 3, .inr (5, [.ref (z 4)])), (z 4, .inl (dA 0, 30, .inl (fl (wrG tS tG nsg) tG i4)))]) hD hS hA [0, 1, 2, 3, 4] rfl
        refine va_calli (va_runV (As := [.int (nI i4)]) (rest := []) ⟨hx, hb, hml, hown, hts⟩ (s_stateOf l D dA E z (fl (wrS tS) tS i4) (fl (wrG tS tG nsg) tG i4) nd nsg i4 H.size  (by omega) (by omega) (by omega) (AC_fl hAC (AC_wr hAC))) (cwV 1 hts (ga_V q239 q240 q237 q241 q238) rfl rfl rfl (by decide +kernel) ⟨(Nat.le_of_ble_eq_true rfl), (Nat.le_of_ble_eq_true rfl)⟩) ⟨pb_blind, va_recv hK hPc (ci := 7) (q0 := 0) rfl rfl, pb_pre hK hPc hDc hZ hS hFc _⟩ rfl rfl hl.1 rfl (lv_room (Nat.le_of_ble_eq_true rfl)) dX4_writeBuffer_14 ⟨(Nat.le_of_ble_eq_true rfl), (Nat.le_of_ble_eq_true rfl)⟩) hS (fun q _ h => hFc q h) hFc (fun r u t H1 locs ht hvm hw hB hz1 hk1 hS => ?_)
        refine W.widen (k := 0) (n := 0) (Nat.le_of_ble_eq_true rfl) (Nat.le_of_ble_eq_true rfl) ?_
        obtain ⟨r4, rfl⟩ : ∃ z, z = r := ⟨_, rfl⟩
        obtain ⟨u5, rfl⟩ : ∃ z, z = u := ⟨_, rfl⟩
        have hw6 := hw
        clear hw
        obtain ⟨hP1, hD1⟩ := hB
        rw [ht] at hP1
        obtain ⟨hP, hD⟩ := va_join (wr := []) (w1 := [(z 0, .inr (7, [.ref (z 1), .ref (z 3), .int (nI nd), .int (nI nsg)])), (z 1, .inr (5, [.ref (z 2)])), (z 2, .inl (dA 0, 30, .inl (fl (wrS tS) tS i4))), (z 3, .inr (5, [.ref (z 4)])), (z 4, .inl (dA 0, 30, .inl (fl (wrG tS tG nsg) tG i4)))]) hP hD [0, 1, 2, 3, 4] [] rfl rfl (by decide) (by decide) hk1 hFc hP1 hD1
        generalize H1 = H at hP hS ⊢
        have hP : va_P D vwCl [(z 0, .inr (7, [.ref (z 1), .ref (z 3), .int (nI nd), .int (nI nsg)])), (z 1, .inr (5, [.ref (z 2)])), (z 2, .inl (dA 0, 30, .inl (fl (wrS tS) tS i4))), (z 3, .inr (5, [.ref (z 4)])), (z 4, .inl (dA 0, 30, .inl (fl (wrG tS tG nsg) tG i4)))] H := hP
        have hD : va_D A [(z 0, .inr (7, [.ref (z 1), .ref (z 3), .int (nI nd), .int (nI nsg)])), (z 1, .inr (5, [.ref (z 2)])), (z 2, .inl (dA 0, 30, .inl (fl (wrS tS) tS i4))), (z 3, .inr (5, [.ref (z 4)])), (z 4, .inl (dA 0, 30, .inl (fl (wrG tS tG nsg) tG i4)))] := hD
        obtain rfl : r4 = tS i4 := (show r4 = (fl (wrS tS) tS i4) i4 from hw6).trans (fl_out (Nat.le_refl _))
        refine lv_bipush (v := 98) hx hb dX4_writeBuffer_17 (by decide) ?_
        refine lv_icmp_eq (tgt := 25) hx hb dX4_writeBuffer_19 (by decide) (fun c7 => ?_) (fun c7 => ?_)
        · refine lv_aload_n hx hb dX4_writeBuffer_25 rfl (lv_at hl 2 rfl) ?_
          refine va_get (D := D) (ci := 7) (v := .ref (z 1)) (C := RX4) (T := TX4) (N := 4) hx hb hts inAX4 hown hK hP 0 rfl rfl 0 (by decide) (hts _ q235) (fun _ h9 => h9) rfl dX4_writeBuffer_26 ?_
          refine lv_iload_n hx hb dX4_writeBuffer_29 rfl (lv_at hl 0 rfl) ?_
          refine lv_bipush (v := 115) hx hb dX4_writeBuffer_30 (by decide) ?_
          have hPc := hP.sub (ws' := [(z 1, .inr (5, [.ref (z 2)])), (z 2, .inl (dA 0, 30, .inl (fl (wrS tS) tS i4)))]) [1, 2] rfl
          have hDc := hD.sub (ws' := [(z 1, .inr (5, [.ref (z 2)])), (z 2, .inl (dA 0, 30, .inl (fl (wrS tS) tS i4)))]) [1, 2] (by decide) rfl
          have hFc := va_free (wc := [(z 1, .inr (5, [.ref (z 2)])), (z 2, .inl (dA 0, 30, .inl (fl (wrS tS) tS i4)))]) hD hS hA [1, 2] rfl
          refine va_callv (va_runV (As := [.int (nI i4), .int 115]) (rest := []) ⟨hx, hb, hml, hown, hts⟩ (t_putN l D dA E (z 1) (z 2) 30 (fl (wrS tS) tS i4) i4 115 H.size  (by omega) (by decide)) (cwV 2 hts (ga_V q242 q210 q207 q204 q208) rfl rfl rfl (by decide +kernel) ⟨(Nat.le_of_ble_eq_true rfl), (Nat.le_of_ble_eq_true rfl)⟩) ⟨pb_blind, va_recv hK hPc (ci := 5) (q0 := 0) rfl rfl, pb_pre hK hPc hDc hZ hS hFc _⟩ rfl rfl hl.1 rfl (lv_room (Nat.le_of_ble_eq_true rfl)) dX4_writeBuffer_32 ⟨(Nat.le_of_ble_eq_true rfl), (Nat.le_of_ble_eq_true rfl)⟩) hS (fun q _ h => hFc q h) hFc (fun u t H1 locs ht hvm hw hB hz1 hk1 hS => ?_)
          refine W.widen (k := 0) (n := 0) (Nat.le_of_ble_eq_true rfl) (Nat.le_of_ble_eq_true rfl) ?_
          obtain ⟨u8, rfl⟩ : ∃ z, z = u := ⟨_, rfl⟩
          have hw9 := hw
          clear hw
          obtain ⟨hP1, hD1⟩ := hB
          rw [ht] at hP1
          obtain ⟨hP, hD⟩ := va_join (wr := [(z 0, .inr (7, [.ref (z 1), .ref (z 3), .int (nI nd), .int (nI nsg)])), (z 3, .inr (5, [.ref (z 4)])), (z 4, .inl (dA 0, 30, .inl (fl (wrG tS tG nsg) tG i4)))]) (w1 := [(z 1, .inr (5, [.ref (z 2)])), (z 2, .inl (dA 0, 30, .inl (upd (fl (wrS tS) tS i4) i4 115)))]) hP hD [1, 2] [0, 3, 4] rfl rfl (by decide) (by decide) hk1 hFc hP1 hD1
          generalize H1 = H at hP hS ⊢
          have hP : va_P D vwCl [(z 0, .inr (7, [.ref (z 1), .ref (z 3), .int (nI nd), .int (nI nsg)])), (z 3, .inr (5, [.ref (z 4)])), (z 4, .inl (dA 0, 30, .inl (fl (wrG tS tG nsg) tG i4))), (z 1, .inr (5, [.ref (z 2)])), (z 2, .inl (dA 0, 30, .inl (upd (fl (wrS tS) tS i4) i4 115)))] H := hP
          have hD : va_D A [(z 0, .inr (7, [.ref (z 1), .ref (z 3), .int (nI nd), .int (nI nsg)])), (z 3, .inr (5, [.ref (z 4)])), (z 4, .inl (dA 0, 30, .inl (fl (wrG tS tG nsg) tG i4))), (z 1, .inr (5, [.ref (z 2)])), (z 2, .inl (dA 0, 30, .inl (upd (fl (wrS tS) tS i4) i4 115)))] := hD
          refine lv_aload_n hx hb dX4_writeBuffer_35 rfl (lv_at hl 2 rfl) ?_
          refine va_get (D := D) (ci := 7) (v := .ref (z 3)) (C := RX4) (T := TX4) (N := 4) hx hb hts inAX4 hown hK hP 0 rfl rfl 1 (by decide) (hts _ q244) (fun _ h9 => h9) rfl dX4_writeBuffer_36 ?_
          refine lv_iload_n hx hb dX4_writeBuffer_39 rfl (lv_at hl 0 rfl) ?_
          refine lv_aload_n hx hb dX4_writeBuffer_40 rfl (lv_at hl 2 rfl) ?_
          refine va_get (D := D) (ci := 7) (v := .int (nI nsg)) (C := RX4) (T := TX4) (N := 4) hx hb hts inAX4 hown hK hP 0 rfl rfl 3 (by decide) (hts _ q245) (fun _ h9 => h9) rfl dX4_writeBuffer_41 ?_
          have hPc := hP.sub (ws' := [(z 3, .inr (5, [.ref (z 4)])), (z 4, .inl (dA 0, 30, .inl (fl (wrG tS tG nsg) tG i4)))]) [1, 2] rfl
          have hDc := hD.sub (ws' := [(z 3, .inr (5, [.ref (z 4)])), (z 4, .inl (dA 0, 30, .inl (fl (wrG tS tG nsg) tG i4)))]) [1, 2] (by decide) rfl
          have hFc := va_free (wc := [(z 3, .inr (5, [.ref (z 4)])), (z 4, .inl (dA 0, 30, .inl (fl (wrG tS tG nsg) tG i4)))]) hD hS hA [1, 2] rfl
          refine va_callv (va_runV (As := [.int (nI i4), .int (nI nsg)]) (rest := []) ⟨hx, hb, hml, hown, hts⟩ (t_putN l D dA E (z 3) (z 4) 30 (fl (wrG tS tG nsg) tG i4) i4 (nI nsg) H.size  (by omega) (by decide)) (cwV 2 hts (ga_V q242 q210 q207 q204 q208) rfl rfl rfl (by decide +kernel) ⟨(Nat.le_of_ble_eq_true rfl), (Nat.le_of_ble_eq_true rfl)⟩) ⟨pb_blind, va_recv hK hPc (ci := 5) (q0 := 0) rfl rfl, pb_pre hK hPc hDc hZ hS hFc _⟩ rfl rfl hl.1 rfl (lv_room (Nat.le_of_ble_eq_true rfl)) dX4_writeBuffer_44 ⟨(Nat.le_of_ble_eq_true rfl), (Nat.le_of_ble_eq_true rfl)⟩) hS (fun q _ h => hFc q h) hFc (fun u t H1 locs ht hvm hw hB hz1 hk1 hS => ?_)
          refine W.widen (k := 0) (n := 0) (Nat.le_of_ble_eq_true rfl) (Nat.le_of_ble_eq_true rfl) ?_
          obtain ⟨u10, rfl⟩ : ∃ z, z = u := ⟨_, rfl⟩
          have hw11 := hw
          clear hw
          obtain ⟨hP1, hD1⟩ := hB
          rw [ht] at hP1
          obtain ⟨hP, hD⟩ := va_join (wr := [(z 0, .inr (7, [.ref (z 1), .ref (z 3), .int (nI nd), .int (nI nsg)])), (z 1, .inr (5, [.ref (z 2)])), (z 2, .inl (dA 0, 30, .inl (upd (fl (wrS tS) tS i4) i4 115)))]) (w1 := [(z 3, .inr (5, [.ref (z 4)])), (z 4, .inl (dA 0, 30, .inl (upd (fl (wrG tS tG nsg) tG i4) i4 (nI nsg))))]) hP hD [1, 2] [0, 3, 4] rfl rfl (by decide) (by decide) hk1 hFc hP1 hD1
          generalize H1 = H at hP hS ⊢
          have hP : va_P D vwCl [(z 0, .inr (7, [.ref (z 1), .ref (z 3), .int (nI nd), .int (nI nsg)])), (z 1, .inr (5, [.ref (z 2)])), (z 2, .inl (dA 0, 30, .inl (upd (fl (wrS tS) tS i4) i4 115))), (z 3, .inr (5, [.ref (z 4)])), (z 4, .inl (dA 0, 30, .inl (upd (fl (wrG tS tG nsg) tG i4) i4 (nI nsg))))] H := hP
          have hD : va_D A [(z 0, .inr (7, [.ref (z 1), .ref (z 3), .int (nI nd), .int (nI nsg)])), (z 1, .inr (5, [.ref (z 2)])), (z 2, .inl (dA 0, 30, .inl (upd (fl (wrS tS) tS i4) i4 115))), (z 3, .inr (5, [.ref (z 4)])), (z 4, .inl (dA 0, 30, .inl (upd (fl (wrG tS tG nsg) tG i4) i4 (nI nsg))))] := hD
          refine lv_iinc (v := nI ((cn (fun d => decide (tS d = 98)) i4) + 1)) (lv' := [(1, .int (nI ((cn (fun d => decide (tS d = 98)) i4) + 1))), (2, .int (nI i4)), (0, .ref (z 0))]) hx hb dX4_writeBuffer_47 hl (k := 1) rfl (nI_add (cn (fun d => decide (tS d = 98)) i4) 1) (by decide) rfl (fun ls hl => ?_)
          refine lv_iinc (v := nI (i4 + 1)) (lv' := [(2, .int (nI (i4 + 1))), (1, .int (nI ((cn (fun d => decide (tS d = 98)) i4) + 1))), (0, .ref (z 0))]) hx hb dX4_writeBuffer_50 hl (k := 1) rfl (nI_add i4 1) (by decide) rfl (fun ls hl => ?_)
          refine lv_goto (tgt := 4) hx hb dX4_writeBuffer_53 (by decide) ?_
          exact ih4 (i4 + 1) (upd (fl (wrS tS) tS i4) i4 115) (upd (fl (wrG tS tG nsg) tG i4) i4 (nI nsg)) (nI ((cn (fun d => decide (tS d = 98)) i4) + 1)) (by omega) (by omega) (by omega) ⟨(fl_succ (by show _ = wrS _ _; rw [wrS, if_pos c7])), (fl_succ (by show _ = wrG _ _ _ _; rw [wrG, if_pos c7])), (cn_y (f := fun d => decide (tS d = 98)) (dec_1 c7))⟩ _ _ hP hD hS ls (lv_sub hl [0, 1, 2] rfl)
        · refine lv_goto (tgt := 50) hx hb dX4_writeBuffer_22 (by decide) ?_
          refine lv_iinc (v := nI (i4 + 1)) (lv' := [(2, .int (nI (i4 + 1))), (1, .int (nI (cn (fun d => decide (tS d = 98)) i4))), (0, .ref (z 0))]) hx hb dX4_writeBuffer_50 hl (k := 0) rfl (nI_add i4 1) (by decide) rfl (fun ls hl => ?_)
          refine lv_goto (tgt := 4) hx hb dX4_writeBuffer_53 (by decide) ?_
          exact ih4 (i4 + 1) (fl (wrS tS) tS i4) (fl (wrG tS tG nsg) tG i4) (nI (cn (fun d => decide (tS d = 98)) i4)) (by omega) (by omega) (by omega) ⟨(fl_keep (by rw [wrS, if_neg c7])), (fl_keep (by rw [wrG, if_neg c7])), (cn_n' (f := fun d => decide (tS d = 98)) (dec_0 c7))⟩ _ _ hP hD hS ls (lv_sub hl [0, 1, 2] rfl)
  exact K4 (nd + 1) 0 tS tG 0 (by omega) (by omega) (by omega) ⟨fl_0.symm, fl_0.symm, rfl⟩ _ _ hP hD hS ls hl

set_option maxHeartbeats 4000000 in
set_option maxRecDepth 100000 in
theorem s_hasSegment1 (l : Launch) (D : va_G) (dA : Nat → ClassId) (E : Nat) (z : Nat → Nat) (tS tG : Nat → Int32) (nd nsg : Nat) (sm : Nat) (sz : Nat) (hnd : nd ≤ 30) (hnsg : nsg ≤ 1000) (hs : sm < nsg)  : Met l yX4_hasSegment (wq (.code yX4_hasSegment cX4_hasSegment 2 (some .boolean))) { frames := 0, cells := 0, slots := 0, locals := 0 } (va_Pc [.ref (z 0), .int (nI sm)] (PcB D dA E [(z 0, .inr (7, [.ref (z 1), .ref (z 3), .int (nI nd), .int (nI nsg)])), (z 1, .inr (5, [.ref (z 2)])), (z 2, .inl (dA 0, 30, .inl tS)), (z 3, .inr (5, [.ref (z 4)])), (z 4, .inl (dA 0, 30, .inl tG))] sz)) (va_Qi (fun (r : Int32) (u : Unit) => r = 1) (fun u t => va_P D vwCl [(z 0, .inr (7, [.ref (z 1), .ref (z 3), .int (nI nd), .int (nI nsg)])), (z 1, .inr (5, [.ref (z 2)])), (z 2, .inl (dA 0, 30, .inl tS)), (z 3, .inr (5, [.ref (z 4)])), (z 4, .inl (dA 0, 30, .inl tG))] t.heap ∧ va_D (va_A [(z 0, .inr (7, [.ref (z 1), .ref (z 3), .int (nI nd), .int (nI nsg)])), (z 1, .inr (5, [.ref (z 2)])), (z 2, .inl (dA 0, 30, .inl tS)), (z 3, .inr (5, [.ref (z 4)])), (z 4, .inl (dA 0, 30, .inl tG))] sz) [(z 0, .inr (7, [.ref (z 1), .ref (z 3), .int (nI nd), .int (nI nsg)])), (z 1, .inr (5, [.ref (z 2)])), (z 2, .inl (dA 0, 30, .inl tS)), (z 3, .inr (5, [.ref (z 4)])), (z 4, .inl (dA 0, 30, .inl tG))]) (va_A [(z 0, .inr (7, [.ref (z 1), .ref (z 3), .int (nI nd), .int (nI nsg)])), (z 1, .inr (5, [.ref (z 2)])), (z 2, .inl (dA 0, 30, .inl tS)), (z 3, .inr (5, [.ref (z 4)])), (z 4, .inl (dA 0, 30, .inl tG))] sz)) 0 0 (va_A [(z 0, .inr (7, [.ref (z 1), .ref (z 3), .int (nI nd), .int (nI nsg)])), (z 1, .inr (5, [.ref (z 2)])), (z 2, .inl (dA 0, 30, .inl tS)), (z 3, .inr (5, [.ref (z 4)])), (z 4, .inl (dA 0, 30, .inl tG))] sz) := by
  refine mb_of (Qc := fun A => va_Qi (fun (r : Int32) (u : Unit) => r = 1) (fun u t => va_P D vwCl [(z 0, .inr (7, [.ref (z 1), .ref (z 3), .int (nI nd), .int (nI nsg)])), (z 1, .inr (5, [.ref (z 2)])), (z 2, .inl (dA 0, 30, .inl tS)), (z 3, .inr (5, [.ref (z 4)])), (z 4, .inl (dA 0, 30, .inl tG))] t.heap ∧ va_D A [(z 0, .inr (7, [.ref (z 1), .ref (z 3), .int (nI nd), .int (nI nsg)])), (z 1, .inr (5, [.ref (z 2)])), (z 2, .inl (dA 0, 30, .inl tS)), (z 3, .inr (5, [.ref (z 4)])), (z 4, .inl (dA 0, 30, .inl tG))]) A) RX4 rfl (by decide) (Nat.le_of_ble_eq_true rfl) ?_
  intro p e s m args below meth c hae hx hb hr hts hown hlocks hml hnm hP hK A hAe hD hZ hS hA ls hl
  have hl : lv_has ls 2 [(0, .ref (z 0)), (1, .int (nI sm))] := hl
  refine lv_iload_n hx hb dX4_hasSegment_0 rfl (lv_at hl 1 rfl) ?_
  refine lv_if_lt (tgt := 16) hx hb dX4_hasSegment_1 (by decide) (fun c1 => absurd ((nI_ltI (a := sm) (b := 0) (by omega) (by omega)).mp c1) (by omega)) (fun _ => ?_)
  refine lv_iload_n hx hb dX4_hasSegment_4 rfl (lv_at hl 1 rfl) ?_
  refine lv_aload_n hx hb dX4_hasSegment_5 rfl (lv_at hl 0 rfl) ?_
  refine va_get (D := D) (ci := 7) (v := .int (nI nsg)) (C := RX4) (T := TX4) (N := 4) hx hb hts inAX4 hown hK hP 0 rfl rfl 3 (by decide) (hts _ q245) (fun _ h9 => h9) rfl dX4_hasSegment_6 ?_
  refine lv_icmp_ge (tgt := 16) hx hb dX4_hasSegment_9 (by decide) (fun c2 => absurd ((nI_leI (a := nsg) (b := sm) (by omega) (by omega)).mp c2) (by omega)) (fun _ => ?_)
  refine lv_iconst (v := 1) hx hb dX4_hasSegment_12 (by decide) ?_
  refine lv_goto (tgt := 17) hx hb dX4_hasSegment_13 (by decide) ?_
  refine W.widen (k := 0) (n := 0) (Nat.le_of_ble_eq_true rfl) (Nat.le_of_ble_eq_true rfl) ?_
  have hP9 := hP.sub (ws' := [(z 0, .inr (7, [.ref (z 1), .ref (z 3), .int (nI nd), .int (nI nsg)])), (z 1, .inr (5, [.ref (z 2)])), (z 2, .inl (dA 0, 30, .inl tS)), (z 3, .inr (5, [.ref (z 4)])), (z 4, .inl (dA 0, 30, .inl tG))]) [0, 1, 2, 3, 4] rfl
  have hD9 := hD.sub (ws' := [(z 0, .inr (7, [.ref (z 1), .ref (z 3), .int (nI nd), .int (nI nsg)])), (z 1, .inr (5, [.ref (z 2)])), (z 2, .inl (dA 0, 30, .inl tS)), (z 3, .inr (5, [.ref (z 4)])), (z 4, .inl (dA 0, 30, .inl tG))]) [0, 1, 2, 3, 4] (by decide) rfl
  exact W.zret (v := 1) hx hb hr rfl (fun t ht hW => ⟨⟨1, (), rfl, rfl, ⟨by rw [ht]; exact hP9, hD9⟩⟩, hS.F ht⟩) hS.2.2 dX4_hasSegment_17

set_option maxHeartbeats 4000000 in
set_option maxRecDepth 100000 in
theorem s_hasSegment0 (l : Launch) (D : va_G) (dA : Nat → ClassId) (E : Nat) (z : Nat → Nat) (tS tG : Nat → Int32) (nd nsg : Nat) (p0 : Int32) (sz : Nat) (hnd : nd ≤ 30) (hnsg : nsg ≤ 1000) (hin : inR 0 (nI nsg - 1) p0 = false)  : Met l yX4_hasSegment (wq (.code yX4_hasSegment cX4_hasSegment 2 (some .boolean))) { frames := 0, cells := 0, slots := 0, locals := 0 } (va_Pc [.ref (z 0), .int p0] (PcB D dA E [(z 0, .inr (7, [.ref (z 1), .ref (z 3), .int (nI nd), .int (nI nsg)])), (z 1, .inr (5, [.ref (z 2)])), (z 2, .inl (dA 0, 30, .inl tS)), (z 3, .inr (5, [.ref (z 4)])), (z 4, .inl (dA 0, 30, .inl tG))] sz)) (va_Qi (fun (r : Int32) (u : Unit) => r = 0) (fun u t => va_P D vwCl [(z 0, .inr (7, [.ref (z 1), .ref (z 3), .int (nI nd), .int (nI nsg)])), (z 1, .inr (5, [.ref (z 2)])), (z 2, .inl (dA 0, 30, .inl tS)), (z 3, .inr (5, [.ref (z 4)])), (z 4, .inl (dA 0, 30, .inl tG))] t.heap ∧ va_D (va_A [(z 0, .inr (7, [.ref (z 1), .ref (z 3), .int (nI nd), .int (nI nsg)])), (z 1, .inr (5, [.ref (z 2)])), (z 2, .inl (dA 0, 30, .inl tS)), (z 3, .inr (5, [.ref (z 4)])), (z 4, .inl (dA 0, 30, .inl tG))] sz) [(z 0, .inr (7, [.ref (z 1), .ref (z 3), .int (nI nd), .int (nI nsg)])), (z 1, .inr (5, [.ref (z 2)])), (z 2, .inl (dA 0, 30, .inl tS)), (z 3, .inr (5, [.ref (z 4)])), (z 4, .inl (dA 0, 30, .inl tG))]) (va_A [(z 0, .inr (7, [.ref (z 1), .ref (z 3), .int (nI nd), .int (nI nsg)])), (z 1, .inr (5, [.ref (z 2)])), (z 2, .inl (dA 0, 30, .inl tS)), (z 3, .inr (5, [.ref (z 4)])), (z 4, .inl (dA 0, 30, .inl tG))] sz)) 0 0 (va_A [(z 0, .inr (7, [.ref (z 1), .ref (z 3), .int (nI nd), .int (nI nsg)])), (z 1, .inr (5, [.ref (z 2)])), (z 2, .inl (dA 0, 30, .inl tS)), (z 3, .inr (5, [.ref (z 4)])), (z 4, .inl (dA 0, 30, .inl tG))] sz) := by
  refine mb_of (Qc := fun A => va_Qi (fun (r : Int32) (u : Unit) => r = 0) (fun u t => va_P D vwCl [(z 0, .inr (7, [.ref (z 1), .ref (z 3), .int (nI nd), .int (nI nsg)])), (z 1, .inr (5, [.ref (z 2)])), (z 2, .inl (dA 0, 30, .inl tS)), (z 3, .inr (5, [.ref (z 4)])), (z 4, .inl (dA 0, 30, .inl tG))] t.heap ∧ va_D A [(z 0, .inr (7, [.ref (z 1), .ref (z 3), .int (nI nd), .int (nI nsg)])), (z 1, .inr (5, [.ref (z 2)])), (z 2, .inl (dA 0, 30, .inl tS)), (z 3, .inr (5, [.ref (z 4)])), (z 4, .inl (dA 0, 30, .inl tG))]) A) RX4 rfl (by decide) (Nat.le_of_ble_eq_true rfl) ?_
  intro p e s m args below meth c hae hx hb hr hts hown hlocks hml hnm hP hK A hAe hD hZ hS hA ls hl
  have hl : lv_has ls 2 [(0, .ref (z 0)), (1, .int p0)] := hl
  refine lv_iload_n hx hb dX4_hasSegment_0 rfl (lv_at hl 1 rfl) ?_
  refine lv_if_lt (tgt := 16) hx hb dX4_hasSegment_1 (by decide) (fun c1 => ?_) (fun c1 => ?_)
  · refine lv_iconst (v := 0) hx hb dX4_hasSegment_16 (by decide) ?_
    refine W.widen (k := 0) (n := 0) (Nat.le_of_ble_eq_true rfl) (Nat.le_of_ble_eq_true rfl) ?_
    have hP9 := hP.sub (ws' := [(z 0, .inr (7, [.ref (z 1), .ref (z 3), .int (nI nd), .int (nI nsg)])), (z 1, .inr (5, [.ref (z 2)])), (z 2, .inl (dA 0, 30, .inl tS)), (z 3, .inr (5, [.ref (z 4)])), (z 4, .inl (dA 0, 30, .inl tG))]) [0, 1, 2, 3, 4] rfl
    have hD9 := hD.sub (ws' := [(z 0, .inr (7, [.ref (z 1), .ref (z 3), .int (nI nd), .int (nI nsg)])), (z 1, .inr (5, [.ref (z 2)])), (z 2, .inl (dA 0, 30, .inl tS)), (z 3, .inr (5, [.ref (z 4)])), (z 4, .inl (dA 0, 30, .inl tG))]) [0, 1, 2, 3, 4] (by decide) rfl
    exact W.zret (v := 0) hx hb hr rfl (fun t ht hW => ⟨⟨0, (), rfl, rfl, ⟨by rw [ht]; exact hP9, hD9⟩⟩, hS.F ht⟩) hS.2.2 dX4_hasSegment_17
  · refine lv_iload_n hx hb dX4_hasSegment_4 rfl (lv_at hl 1 rfl) ?_
    refine lv_aload_n hx hb dX4_hasSegment_5 rfl (lv_at hl 0 rfl) ?_
    refine va_get (D := D) (ci := 7) (v := .int (nI nsg)) (C := RX4) (T := TX4) (N := 4) hx hb hts inAX4 hown hK hP 0 rfl rfl 3 (by decide) (hts _ q245) (fun _ h9 => h9) rfl dX4_hasSegment_6 ?_
    refine lv_icmp_ge (tgt := 16) hx hb dX4_hasSegment_9 (by decide) (fun c2 => ?_) (fun c2 => ?_)
    · refine lv_iconst (v := 0) hx hb dX4_hasSegment_16 (by decide) ?_
      refine W.widen (k := 0) (n := 0) (Nat.le_of_ble_eq_true rfl) (Nat.le_of_ble_eq_true rfl) ?_
      have hP9 := hP.sub (ws' := [(z 0, .inr (7, [.ref (z 1), .ref (z 3), .int (nI nd), .int (nI nsg)])), (z 1, .inr (5, [.ref (z 2)])), (z 2, .inl (dA 0, 30, .inl tS)), (z 3, .inr (5, [.ref (z 4)])), (z 4, .inl (dA 0, 30, .inl tG))]) [0, 1, 2, 3, 4] rfl
      have hD9 := hD.sub (ws' := [(z 0, .inr (7, [.ref (z 1), .ref (z 3), .int (nI nd), .int (nI nsg)])), (z 1, .inr (5, [.ref (z 2)])), (z 2, .inl (dA 0, 30, .inl tS)), (z 3, .inr (5, [.ref (z 4)])), (z 4, .inl (dA 0, 30, .inl tG))]) [0, 1, 2, 3, 4] (by decide) rfl
      exact W.zret (v := 0) hx hb hr rfl (fun t ht hW => ⟨⟨0, (), rfl, rfl, ⟨by rw [ht]; exact hP9, hD9⟩⟩, hS.F ht⟩) hS.2.2 dX4_hasSegment_17
    · refine lv_iconst (v := 1) hx hb dX4_hasSegment_12 (by decide) ?_
      refine lv_goto (tgt := 17) hx hb dX4_hasSegment_13 (by decide) ?_
      refine W.widen (k := 0) (n := 0) (Nat.le_of_ble_eq_true rfl) (Nat.le_of_ble_eq_true rfl) ?_
      have hP9 := hP.sub (ws' := [(z 0, .inr (7, [.ref (z 1), .ref (z 3), .int (nI nd), .int (nI nsg)])), (z 1, .inr (5, [.ref (z 2)])), (z 2, .inl (dA 0, 30, .inl tS)), (z 3, .inr (5, [.ref (z 4)])), (z 4, .inl (dA 0, 30, .inl tG))]) [0, 1, 2, 3, 4] rfl
      have hD9 := hD.sub (ws' := [(z 0, .inr (7, [.ref (z 1), .ref (z 3), .int (nI nd), .int (nI nsg)])), (z 1, .inr (5, [.ref (z 2)])), (z 2, .inl (dA 0, 30, .inl tS)), (z 3, .inr (5, [.ref (z 4)])), (z 4, .inl (dA 0, 30, .inl tG))]) [0, 1, 2, 3, 4] (by decide) rfl
      exact W.zret (v := 1) hx hb hr rfl (fun t ht hW => ⟨⟨1, (), rfl, (hs_0 hnsg hin c1 c2).elim, ⟨by rw [ht]; exact hP9, hD9⟩⟩, hS.F ht⟩) hS.2.2 dX4_hasSegment_17

set_option maxHeartbeats 4000000 in
set_option maxRecDepth 100000 in
theorem s_documentsIn (l : Launch) (D : va_G) (dA : Nat → ClassId) (E : Nat) (z : Nat → Nat) (tS tG : Nat → Int32) (nd nsg : Nat) (p0 : Int32) (sz : Nat) (hnd : nd ≤ 30) (hnsg : nsg ≤ 1000)  : Met l yX4_documentsIn (wq (.code yX4_documentsIn cX4_documentsIn 4 (some .int))) { frames := 1, cells := 0, slots := 0, locals := 21 } (va_Pc [.ref (z 0), .int p0] (PcB D dA E [(z 0, .inr (7, [.ref (z 1), .ref (z 3), .int (nI nd), .int (nI nsg)])), (z 1, .inr (5, [.ref (z 2)])), (z 2, .inl (dA 0, 30, .inl tS)), (z 3, .inr (5, [.ref (z 4)])), (z 4, .inl (dA 0, 30, .inl tG))] sz)) (va_Qi (fun (r : Int32) (u : Unit) => r = nI (cn (fun d => decide (tG d = p0)) nd)) (fun u t => va_P D vwCl [(z 0, .inr (7, [.ref (z 1), .ref (z 3), .int (nI nd), .int (nI nsg)])), (z 1, .inr (5, [.ref (z 2)])), (z 2, .inl (dA 0, 30, .inl tS)), (z 3, .inr (5, [.ref (z 4)])), (z 4, .inl (dA 0, 30, .inl tG))] t.heap ∧ va_D (va_A [(z 0, .inr (7, [.ref (z 1), .ref (z 3), .int (nI nd), .int (nI nsg)])), (z 1, .inr (5, [.ref (z 2)])), (z 2, .inl (dA 0, 30, .inl tS)), (z 3, .inr (5, [.ref (z 4)])), (z 4, .inl (dA 0, 30, .inl tG))] sz) [(z 0, .inr (7, [.ref (z 1), .ref (z 3), .int (nI nd), .int (nI nsg)])), (z 1, .inr (5, [.ref (z 2)])), (z 2, .inl (dA 0, 30, .inl tS)), (z 3, .inr (5, [.ref (z 4)])), (z 4, .inl (dA 0, 30, .inl tG))]) (va_A [(z 0, .inr (7, [.ref (z 1), .ref (z 3), .int (nI nd), .int (nI nsg)])), (z 1, .inr (5, [.ref (z 2)])), (z 2, .inl (dA 0, 30, .inl tS)), (z 3, .inr (5, [.ref (z 4)])), (z 4, .inl (dA 0, 30, .inl tG))] sz)) 0 0 (va_A [(z 0, .inr (7, [.ref (z 1), .ref (z 3), .int (nI nd), .int (nI nsg)])), (z 1, .inr (5, [.ref (z 2)])), (z 2, .inl (dA 0, 30, .inl tS)), (z 3, .inr (5, [.ref (z 4)])), (z 4, .inl (dA 0, 30, .inl tG))] sz) := by
  refine mb_of (Qc := fun A => va_Qi (fun (r : Int32) (u : Unit) => r = nI (cn (fun d => decide (tG d = p0)) nd)) (fun u t => va_P D vwCl [(z 0, .inr (7, [.ref (z 1), .ref (z 3), .int (nI nd), .int (nI nsg)])), (z 1, .inr (5, [.ref (z 2)])), (z 2, .inl (dA 0, 30, .inl tS)), (z 3, .inr (5, [.ref (z 4)])), (z 4, .inl (dA 0, 30, .inl tG))] t.heap ∧ va_D A [(z 0, .inr (7, [.ref (z 1), .ref (z 3), .int (nI nd), .int (nI nsg)])), (z 1, .inr (5, [.ref (z 2)])), (z 2, .inl (dA 0, 30, .inl tS)), (z 3, .inr (5, [.ref (z 4)])), (z 4, .inl (dA 0, 30, .inl tG))]) A) RX4 rfl (by decide) (Nat.le_of_ble_eq_true rfl) ?_
  intro p e s m args below meth c hae hx hb hr hts hown hlocks hml hnm hP hK A hAe hD hZ hS hA ls hl
  have hl : lv_has ls 4 [(0, .ref (z 0)), (1, .int p0)] := hl
  refine lv_iconst (v := 0) hx hb dX4_documentsIn_0 (by decide) ?_
  refine lv_istore_n (lv' := [(2, .int 0), (0, .ref (z 0)), (1, .int p0)]) hx hb dX4_documentsIn_1 rfl hl (by decide) rfl (fun ls hl => ?_)
  refine lv_iconst (v := 0) hx hb dX4_documentsIn_2 (by decide) ?_
  refine lv_istore_n (lv' := [(3, .int 0), (2, .int 0), (0, .ref (z 0)), (1, .int p0)]) hx hb dX4_documentsIn_3 rfl hl (by decide) rfl (fun ls hl => ?_)
  have K4 : ∀ (k4 i4 : Nat) (g4_0 : Int32), 0 ≤ i4 → i4 ≤ nd → nd < i4 + k4 → (g4_0 = nI (cn (fun d => decide (tG d = p0)) i4)) → ∀ (H : Heap) (locs : List Loc), va_P D vwCl [(z 0, .inr (7, [.ref (z 1), .ref (z 3), .int (nI nd), .int (nI nsg)])), (z 1, .inr (5, [.ref (z 2)])), (z 2, .inl (dA 0, 30, .inl tS)), (z 3, .inr (5, [.ref (z 4)])), (z 4, .inl (dA 0, 30, .inl tG))] H → va_D A [(z 0, .inr (7, [.ref (z 1), .ref (z 3), .int (nI nd), .int (nI nsg)])), (z 1, .inr (5, [.ref (z 2)])), (z 2, .inl (dA 0, 30, .inl tS)), (z 3, .inr (5, [.ref (z 4)])), (z 4, .inl (dA 0, 30, .inl tG))] → va_S A s.heap H locs → ∀ ls : Array Slot, lv_has ls 4 [(3, .int (nI i4)), (2, .int g4_0), (0, .ref (z 0)), (1, .int p0)] → W p l e { frames := 1, cells := 0, slots := 0, locals := 21 } s m args below meth c H locs 0 0 (MQ below (va_Qi (fun (r : Int32) (u : Unit) => r = nI (cn (fun d => decide (tG d = p0)) nd)) (fun u t => va_P D vwCl [(z 0, .inr (7, [.ref (z 1), .ref (z 3), .int (nI nd), .int (nI nsg)])), (z 1, .inr (5, [.ref (z 2)])), (z 2, .inl (dA 0, 30, .inl tS)), (z 3, .inr (5, [.ref (z 4)])), (z 4, .inl (dA 0, 30, .inl tG))] t.heap ∧ va_D A [(z 0, .inr (7, [.ref (z 1), .ref (z 3), .int (nI nd), .int (nI nsg)])), (z 1, .inr (5, [.ref (z 2)])), (z 2, .inl (dA 0, 30, .inl tS)), (z 3, .inr (5, [.ref (z 4)])), (z 4, .inl (dA 0, 30, .inl tG))]) A) args s 0 0 A) (F0 m 4 ls []) := by
    intro k4
    induction k4 with
    | zero => intro i4 g4_0 h1 h2 h3; exact absurd h3 (by omega)
    | succ k4 ih4 =>
      intro i4 g4_0 hlo4 hhi4 hms4 hinv4 H locs hP hD hS ls hl
      have eg4_0 := hinv4
      subst eg4_0
      have hcn := cn_le (fun d => decide (tG d = p0)) i4
      refine lv_iload_n hx hb dX4_documentsIn_4 rfl (lv_at hl 0 rfl) ?_
      refine lv_aload_n hx hb dX4_documentsIn_5 rfl (lv_at hl 2 rfl) ?_
      refine va_get (D := D) (ci := 7) (v := .int (nI nd)) (C := RX4) (T := TX4) (N := 4) hx hb hts inAX4 hown hK hP 0 rfl rfl 2 (by decide) (hts _ q243) (fun _ h9 => h9) rfl dX4_documentsIn_6 ?_
      refine lv_icmp_ge (tgt := 33) hx hb dX4_documentsIn_9 (by decide) (fun c1 => ?_) (fun c1 => ?_)
      · replace c1 := (nI_leI (a := nd) (b := i4) (by omega) (by omega)).mp c1
        obtain rfl : nd = i4 := (by omega)
        have hP : va_P D vwCl [(z 0, .inr (7, [.ref (z 1), .ref (z 3), .int (nI nd), .int (nI nsg)])), (z 1, .inr (5, [.ref (z 2)])), (z 2, .inl (dA 0, 30, .inl tS)), (z 3, .inr (5, [.ref (z 4)])), (z 4, .inl (dA 0, 30, .inl tG))] H := hP
        have hD : va_D A [(z 0, .inr (7, [.ref (z 1), .ref (z 3), .int (nI nd), .int (nI nsg)])), (z 1, .inr (5, [.ref (z 2)])), (z 2, .inl (dA 0, 30, .inl tS)), (z 3, .inr (5, [.ref (z 4)])), (z 4, .inl (dA 0, 30, .inl tG))] := hD
        refine lv_iload_n hx hb dX4_documentsIn_33 rfl (lv_at hl 1 rfl) ?_
        refine W.widen (k := 0) (n := 0) (Nat.le_of_ble_eq_true rfl) (Nat.le_of_ble_eq_true rfl) ?_
        have hP9 := hP.sub (ws' := [(z 0, .inr (7, [.ref (z 1), .ref (z 3), .int (nI nd), .int (nI nsg)])), (z 1, .inr (5, [.ref (z 2)])), (z 2, .inl (dA 0, 30, .inl tS)), (z 3, .inr (5, [.ref (z 4)])), (z 4, .inl (dA 0, 30, .inl tG))]) [0, 1, 2, 3, 4] rfl
        have hD9 := hD.sub (ws' := [(z 0, .inr (7, [.ref (z 1), .ref (z 3), .int (nI nd), .int (nI nsg)])), (z 1, .inr (5, [.ref (z 2)])), (z 2, .inl (dA 0, 30, .inl tS)), (z 3, .inr (5, [.ref (z 4)])), (z 4, .inl (dA 0, 30, .inl tG))]) [0, 1, 2, 3, 4] (by decide) rfl
        exact W.iret (v := (nI (cn (fun d => decide (tG d = p0)) nd))) hx hb hr (fun t ht hW => ⟨⟨(nI (cn (fun d => decide (tG d = p0)) nd)), (), rfl, rfl, ⟨by rw [ht]; exact hP9, hD9⟩⟩, hS.F ht⟩) hS.2.2 dX4_documentsIn_34
      · replace c1 := mt (nI_leI (a := nd) (b := i4) (by omega) (by omega)).mpr c1
        refine lv_aload_n hx hb dX4_documentsIn_12 rfl (lv_at hl 2 rfl) ?_
        refine va_get (D := D) (ci := 7) (v := .ref (z 3)) (C := RX4) (T := TX4) (N := 4) hx hb hts inAX4 hown hK hP 0 rfl rfl 1 (by decide) (hts _ q244) (fun _ h9 => h9) rfl dX4_documentsIn_13 ?_
        refine lv_iload_n hx hb dX4_documentsIn_16 rfl (lv_at hl 0 rfl) ?_
        have hPc := hP.sub (ws' := [(z 3, .inr (5, [.ref (z 4)])), (z 4, .inl (dA 0, 30, .inl tG))]) [3, 4] rfl
        have hDc := hD.sub (ws' := [(z 3, .inr (5, [.ref (z 4)])), (z 4, .inl (dA 0, 30, .inl tG))]) [3, 4] (by decide) rfl
        have hFc := va_free (wc := [(z 3, .inr (5, [.ref (z 4)])), (z 4, .inl (dA 0, 30, .inl tG))]) hD hS hA [3, 4] rfl
        refine va_calli (va_runV (As := [.int (nI i4)]) (rest := []) ⟨hx, hb, hml, hown, hts⟩ (t_getN l D dA E (z 3) (z 4) 30 tG i4 H.size  (by omega) (by decide)) (cwV 1 hts (ga_V q236 q203 q200 q204 q201) rfl rfl rfl (by decide +kernel) ⟨(Nat.le_of_ble_eq_true rfl), (Nat.le_of_ble_eq_true rfl)⟩) ⟨pb_blind, va_recv hK hPc (ci := 5) (q0 := 0) rfl rfl, pb_pre hK hPc hDc hZ hS hFc _⟩ rfl rfl hl.1 rfl (lv_room (Nat.le_of_ble_eq_true rfl)) dX4_documentsIn_17 ⟨(Nat.le_of_ble_eq_true rfl), (Nat.le_of_ble_eq_true rfl)⟩) hS (fun q _ h => hFc q h) hFc (fun r u t H1 locs ht hvm hw hB hz1 hk1 hS => ?_)
        refine W.widen (k := 0) (n := 0) (Nat.le_of_ble_eq_true rfl) (Nat.le_of_ble_eq_true rfl) ?_
        obtain ⟨r2, rfl⟩ : ∃ z, z = r := ⟨_, rfl⟩
        obtain ⟨u3, rfl⟩ : ∃ z, z = u := ⟨_, rfl⟩
        have hw4 := hw
        clear hw
        obtain ⟨hP1, hD1⟩ := hB
        rw [ht] at hP1
        obtain ⟨hP, hD⟩ := va_join (wr := [(z 0, .inr (7, [.ref (z 1), .ref (z 3), .int (nI nd), .int (nI nsg)])), (z 1, .inr (5, [.ref (z 2)])), (z 2, .inl (dA 0, 30, .inl tS))]) (w1 := [(z 3, .inr (5, [.ref (z 4)])), (z 4, .inl (dA 0, 30, .inl tG))]) hP hD [3, 4] [0, 1, 2] rfl rfl (by decide) (by decide) hk1 hFc hP1 hD1
        generalize H1 = H at hP hS ⊢
        have hP : va_P D vwCl [(z 0, .inr (7, [.ref (z 1), .ref (z 3), .int (nI nd), .int (nI nsg)])), (z 1, .inr (5, [.ref (z 2)])), (z 2, .inl (dA 0, 30, .inl tS)), (z 3, .inr (5, [.ref (z 4)])), (z 4, .inl (dA 0, 30, .inl tG))] H := hP
        have hD : va_D A [(z 0, .inr (7, [.ref (z 1), .ref (z 3), .int (nI nd), .int (nI nsg)])), (z 1, .inr (5, [.ref (z 2)])), (z 2, .inl (dA 0, 30, .inl tS)), (z 3, .inr (5, [.ref (z 4)])), (z 4, .inl (dA 0, 30, .inl tG))] := hD
        obtain rfl : r2 = tG i4 := hw4
        refine lv_iload_n hx hb dX4_documentsIn_20 rfl (lv_at hl 3 rfl) ?_
        refine lv_icmp_ne (tgt := 27) hx hb dX4_documentsIn_21 (by decide) (fun c5 => ?_) (fun c5 => ?_)
        · refine lv_iinc (v := nI (i4 + 1)) (lv' := [(3, .int (nI (i4 + 1))), (2, .int (nI (cn (fun d => decide (tG d = p0)) i4))), (0, .ref (z 0)), (1, .int p0)]) hx hb dX4_documentsIn_27 hl (k := 0) rfl (nI_add i4 1) (by decide) rfl (fun ls hl => ?_)
          refine lv_goto (tgt := 4) hx hb dX4_documentsIn_30 (by decide) ?_
          exact ih4 (i4 + 1) (nI (cn (fun d => decide (tG d = p0)) i4)) (by omega) (by omega) (by omega) (cn_n' (f := fun d => decide (tG d = p0)) (dec_0 c5)) _ _ hP hD hS ls (lv_sub hl [0, 1, 2, 3] rfl)
        · refine lv_iinc (v := nI ((cn (fun d => decide (tG d = p0)) i4) + 1)) (lv' := [(2, .int (nI ((cn (fun d => decide (tG d = p0)) i4) + 1))), (3, .int (nI i4)), (0, .ref (z 0)), (1, .int p0)]) hx hb dX4_documentsIn_24 hl (k := 1) rfl (nI_add (cn (fun d => decide (tG d = p0)) i4) 1) (by decide) rfl (fun ls hl => ?_)
          refine lv_iinc (v := nI (i4 + 1)) (lv' := [(3, .int (nI (i4 + 1))), (2, .int (nI ((cn (fun d => decide (tG d = p0)) i4) + 1))), (0, .ref (z 0)), (1, .int p0)]) hx hb dX4_documentsIn_27 hl (k := 1) rfl (nI_add i4 1) (by decide) rfl (fun ls hl => ?_)
          refine lv_goto (tgt := 4) hx hb dX4_documentsIn_30 (by decide) ?_
          exact ih4 (i4 + 1) (nI ((cn (fun d => decide (tG d = p0)) i4) + 1)) (by omega) (by omega) (by omega) (cn_y (f := fun d => decide (tG d = p0)) (dec_1 c5)) _ _ hP hD hS ls (lv_sub hl [0, 1, 2, 3] rfl)
  exact K4 (nd + 1) 0 0 (by omega) (by omega) (by omega) rfl _ _ hP hD hS ls hl

set_option maxHeartbeats 4000000 in
set_option maxRecDepth 100000 in
theorem s_moveUp (l : Launch) (D : va_G) (dA : Nat → ClassId) (E : Nat) (z : Nat → Nat) (tS tG : Nat → Int32) (nd nsg : Nat) (sm nb : Nat) (sz : Nat) (hnd : nd ≤ 30) (hnsg : nsg ≤ 1000) (hb2 : nb ≤ 2)  : Met l yX4_moveUp (wq (.code yX4_moveUp cX4_moveUp 5 none)) { frames := 1, cells := 0, slots := 0, locals := 22 } (va_Pc [.ref (z 0), .int (nI sm), .int (nI nb)] (PcB D dA E [(z 0, .inr (7, [.ref (z 1), .ref (z 3), .int (nI nd), .int (nI (nsg + nb))])), (z 1, .inr (5, [.ref (z 2)])), (z 2, .inl (dA 0, 30, .inl tS)), (z 3, .inr (5, [.ref (z 4)])), (z 4, .inl (dA 0, 30, .inl tG))] sz)) (va_Qv (fun (u : Unit) => True) (fun u t => va_P D vwCl [(z 0, .inr (7, [.ref (z 1), .ref (z 3), .int (nI nd), .int (nI nsg)])), (z 1, .inr (5, [.ref (z 2)])), (z 2, .inl (dA 0, 30, .inl tS)), (z 3, .inr (5, [.ref (z 4)])), (z 4, .inl (dA 0, 30, .inl (fl (mvF sm nb tG) tG nd)))] t.heap ∧ va_D (va_A [(z 0, .inr (7, [.ref (z 1), .ref (z 3), .int (nI nd), .int (nI (nsg + nb))])), (z 1, .inr (5, [.ref (z 2)])), (z 2, .inl (dA 0, 30, .inl tS)), (z 3, .inr (5, [.ref (z 4)])), (z 4, .inl (dA 0, 30, .inl tG))] sz) [(z 0, .inr (7, [.ref (z 1), .ref (z 3), .int (nI nd), .int (nI nsg)])), (z 1, .inr (5, [.ref (z 2)])), (z 2, .inl (dA 0, 30, .inl tS)), (z 3, .inr (5, [.ref (z 4)])), (z 4, .inl (dA 0, 30, .inl (fl (mvF sm nb tG) tG nd)))]) (va_A [(z 0, .inr (7, [.ref (z 1), .ref (z 3), .int (nI nd), .int (nI (nsg + nb))])), (z 1, .inr (5, [.ref (z 2)])), (z 2, .inl (dA 0, 30, .inl tS)), (z 3, .inr (5, [.ref (z 4)])), (z 4, .inl (dA 0, 30, .inl tG))] sz)) 0 0 (va_A [(z 0, .inr (7, [.ref (z 1), .ref (z 3), .int (nI nd), .int (nI (nsg + nb))])), (z 1, .inr (5, [.ref (z 2)])), (z 2, .inl (dA 0, 30, .inl tS)), (z 3, .inr (5, [.ref (z 4)])), (z 4, .inl (dA 0, 30, .inl tG))] sz) := by
  refine mb_of (Qc := fun A => va_Qv (fun (u : Unit) => True) (fun u t => va_P D vwCl [(z 0, .inr (7, [.ref (z 1), .ref (z 3), .int (nI nd), .int (nI nsg)])), (z 1, .inr (5, [.ref (z 2)])), (z 2, .inl (dA 0, 30, .inl tS)), (z 3, .inr (5, [.ref (z 4)])), (z 4, .inl (dA 0, 30, .inl (fl (mvF sm nb tG) tG nd)))] t.heap ∧ va_D A [(z 0, .inr (7, [.ref (z 1), .ref (z 3), .int (nI nd), .int (nI nsg)])), (z 1, .inr (5, [.ref (z 2)])), (z 2, .inl (dA 0, 30, .inl tS)), (z 3, .inr (5, [.ref (z 4)])), (z 4, .inl (dA 0, 30, .inl (fl (mvF sm nb tG) tG nd)))]) A) RX4 rfl (by decide) (Nat.le_of_ble_eq_true rfl) ?_
  intro p e s m args below meth c hae hx hb hr hts hown hlocks hml hnm hP hK A hAe hD hZ hS hA ls hl
  have hl : lv_has ls 5 [(0, .ref (z 0)), (1, .int (nI sm)), (2, .int (nI nb))] := hl
  refine lv_iconst (v := 0) hx hb dX4_moveUp_0 (by decide) ?_
  refine lv_istore_n (lv' := [(3, .int 0), (0, .ref (z 0)), (1, .int (nI sm)), (2, .int (nI nb))]) hx hb dX4_moveUp_1 rfl hl (by decide) rfl (fun ls hl => ?_)
  have K2 : ∀ (k2 i2 : Nat) (g2_0 : Nat → Int32), 0 ≤ i2 → i2 ≤ nd → nd < i2 + k2 → (g2_0 = fl (mvF sm nb tG) tG i2) → ∀ (H : Heap) (locs : List Loc), va_P D vwCl [(z 0, .inr (7, [.ref (z 1), .ref (z 3), .int (nI nd), .int (nI (nsg + nb))])), (z 1, .inr (5, [.ref (z 2)])), (z 2, .inl (dA 0, 30, .inl tS)), (z 3, .inr (5, [.ref (z 4)])), (z 4, .inl (dA 0, 30, .inl g2_0))] H → va_D A [(z 0, .inr (7, [.ref (z 1), .ref (z 3), .int (nI nd), .int (nI (nsg + nb))])), (z 1, .inr (5, [.ref (z 2)])), (z 2, .inl (dA 0, 30, .inl tS)), (z 3, .inr (5, [.ref (z 4)])), (z 4, .inl (dA 0, 30, .inl g2_0))] → va_S A s.heap H locs → ∀ ls : Array Slot, lv_has ls 5 [(3, .int (nI i2)), (0, .ref (z 0)), (1, .int (nI sm)), (2, .int (nI nb))] → W p l e { frames := 1, cells := 0, slots := 0, locals := 22 } s m args below meth c H locs 0 0 (MQ below (va_Qv (fun (u : Unit) => True) (fun u t => va_P D vwCl [(z 0, .inr (7, [.ref (z 1), .ref (z 3), .int (nI nd), .int (nI nsg)])), (z 1, .inr (5, [.ref (z 2)])), (z 2, .inl (dA 0, 30, .inl tS)), (z 3, .inr (5, [.ref (z 4)])), (z 4, .inl (dA 0, 30, .inl (fl (mvF sm nb tG) tG nd)))] t.heap ∧ va_D A [(z 0, .inr (7, [.ref (z 1), .ref (z 3), .int (nI nd), .int (nI nsg)])), (z 1, .inr (5, [.ref (z 2)])), (z 2, .inl (dA 0, 30, .inl tS)), (z 3, .inr (5, [.ref (z 4)])), (z 4, .inl (dA 0, 30, .inl (fl (mvF sm nb tG) tG nd)))]) A) args s 0 0 A) (F0 m 2 ls []) := by
    intro k2
    induction k2 with
    | zero => intro i2 g2_0 h1 h2 h3; exact absurd h3 (by omega)
    | succ k2 ih2 =>
      intro i2 g2_0 hlo2 hhi2 hms2 hinv2 H locs hP hD hS ls hl
      have eg2_0 := hinv2
      subst eg2_0
      refine lv_iload_n hx hb dX4_moveUp_2 rfl (lv_at hl 0 rfl) ?_
      refine lv_aload_n hx hb dX4_moveUp_3 rfl (lv_at hl 1 rfl) ?_
      refine va_get (D := D) (ci := 7) (v := .int (nI nd)) (C := RX4) (T := TX4) (N := 4) hx hb hts inAX4 hown hK hP 0 rfl rfl 2 (by decide) (hts _ q243) (fun _ h9 => h9) rfl dX4_moveUp_4 ?_
      refine lv_icmp_ge (tgt := 44) hx hb dX4_moveUp_7 (by decide) (fun c1 => ?_) (fun c1 => ?_)
      · replace c1 := (nI_leI (a := nd) (b := i2) (by omega) (by omega)).mp c1
        obtain rfl : nd = i2 := (by omega)
        have hP : va_P D vwCl [(z 0, .inr (7, [.ref (z 1), .ref (z 3), .int (nI nd), .int (nI (nsg + nb))])), (z 1, .inr (5, [.ref (z 2)])), (z 2, .inl (dA 0, 30, .inl tS)), (z 3, .inr (5, [.ref (z 4)])), (z 4, .inl (dA 0, 30, .inl (fl (mvF sm nb tG) tG nd)))] H := hP
        have hD : va_D A [(z 0, .inr (7, [.ref (z 1), .ref (z 3), .int (nI nd), .int (nI (nsg + nb))])), (z 1, .inr (5, [.ref (z 2)])), (z 2, .inl (dA 0, 30, .inl tS)), (z 3, .inr (5, [.ref (z 4)])), (z 4, .inl (dA 0, 30, .inl (fl (mvF sm nb tG) tG nd)))] := hD
        refine lv_aload_n hx hb dX4_moveUp_44 rfl (lv_at hl 1 rfl) ?_
        refine lv_dup hx hb dX4_moveUp_45 rfl ?_
        refine va_get (D := D) (ci := 7) (v := .int (nI (nsg + nb))) (C := RX4) (T := TX4) (N := 4) hx hb hts inAX4 hown hK hP 0 rfl rfl 3 (by decide) (hts _ q245) (fun _ h9 => h9) rfl dX4_moveUp_46 ?_
        refine lv_iload_n hx hb dX4_moveUp_49 rfl (lv_at hl 3 rfl) ?_
        refine lv_isub hx hb dX4_moveUp_50 ?_
        refine lv_topi (fun x2 ex2 => ?_)
        obtain rfl : x2 = nI nsg := ex2.trans ((pk_sub (a := nsg + nb) (b := nb) (by omega)).trans (by rw [Nat.add_sub_cancel]))
        refine va_put (D := D) (ci := 7) (v := .int (nI nsg)) (ty := .int) (C := RX4) (T := TX4) (N := 4) hx hb hts inAX4 tyX4 tyX4_ok nmX4 hown hK hP hD hS 0 rfl rfl 3 (by decide) (hts _ q245) (fun _ h9 => h9) rfl (tyX4_ok 3 (by decide)) rfl rfl (Nat.le_of_ble_eq_true rfl) dX4_moveUp_51 (fun H locs hP hD hS => ?_)
        have hP : va_P D vwCl [(z 0, .inr (7, [.ref (z 1), .ref (z 3), .int (nI nd), .int (nI nsg)])), (z 1, .inr (5, [.ref (z 2)])), (z 2, .inl (dA 0, 30, .inl tS)), (z 3, .inr (5, [.ref (z 4)])), (z 4, .inl (dA 0, 30, .inl (fl (mvF sm nb tG) tG nd)))] H := hP
        have hD : va_D A [(z 0, .inr (7, [.ref (z 1), .ref (z 3), .int (nI nd), .int (nI nsg)])), (z 1, .inr (5, [.ref (z 2)])), (z 2, .inl (dA 0, 30, .inl tS)), (z 3, .inr (5, [.ref (z 4)])), (z 4, .inl (dA 0, 30, .inl (fl (mvF sm nb tG) tG nd)))] := hD
        refine W.widen (k := 0) (n := 0) (Nat.le_of_ble_eq_true rfl) (Nat.le_of_ble_eq_true rfl) ?_
        have hP9 := hP.sub (ws' := [(z 0, .inr (7, [.ref (z 1), .ref (z 3), .int (nI nd), .int (nI nsg)])), (z 1, .inr (5, [.ref (z 2)])), (z 2, .inl (dA 0, 30, .inl tS)), (z 3, .inr (5, [.ref (z 4)])), (z 4, .inl (dA 0, 30, .inl (fl (mvF sm nb tG) tG nd)))]) [0, 1, 2, 3, 4] rfl
        have hD9 := hD.sub (ws' := [(z 0, .inr (7, [.ref (z 1), .ref (z 3), .int (nI nd), .int (nI nsg)])), (z 1, .inr (5, [.ref (z 2)])), (z 2, .inl (dA 0, 30, .inl tS)), (z 3, .inr (5, [.ref (z 4)])), (z 4, .inl (dA 0, 30, .inl (fl (mvF sm nb tG) tG nd)))]) [0, 1, 2, 3, 4] (by decide) rfl
        exact W.vret hx hb hr (fun t ht hW => ⟨⟨(), rfl, trivial, ⟨by rw [ht]; exact hP9, hD9⟩⟩, hS.F ht⟩) hS.2.2 dX4_moveUp_54
      · replace c1 := mt (nI_leI (a := nd) (b := i2) (by omega) (by omega)).mpr c1
        refine lv_aload_n hx hb dX4_moveUp_10 rfl (lv_at hl 1 rfl) ?_
        refine va_get (D := D) (ci := 7) (v := .ref (z 3)) (C := RX4) (T := TX4) (N := 4) hx hb hts inAX4 hown hK hP 0 rfl rfl 1 (by decide) (hts _ q244) (fun _ h9 => h9) rfl dX4_moveUp_11 ?_
        refine lv_iload_n hx hb dX4_moveUp_14 rfl (lv_at hl 0 rfl) ?_
        have hPc := hP.sub (ws' := [(z 3, .inr (5, [.ref (z 4)])), (z 4, .inl (dA 0, 30, .inl (fl (mvF sm nb tG) tG i2)))]) [3, 4] rfl
        have hDc := hD.sub (ws' := [(z 3, .inr (5, [.ref (z 4)])), (z 4, .inl (dA 0, 30, .inl (fl (mvF sm nb tG) tG i2)))]) [3, 4] (by decide) rfl
        have hFc := va_free (wc := [(z 3, .inr (5, [.ref (z 4)])), (z 4, .inl (dA 0, 30, .inl (fl (mvF sm nb tG) tG i2)))]) hD hS hA [3, 4] rfl
        refine va_calli (va_runV (As := [.int (nI i2)]) (rest := []) ⟨hx, hb, hml, hown, hts⟩ (t_getN l D dA E (z 3) (z 4) 30 (fl (mvF sm nb tG) tG i2) i2 H.size  (by omega) (by decide)) (cwV 1 hts (ga_V q236 q203 q200 q204 q201) rfl rfl rfl (by decide +kernel) ⟨(Nat.le_of_ble_eq_true rfl), (Nat.le_of_ble_eq_true rfl)⟩) ⟨pb_blind, va_recv hK hPc (ci := 5) (q0 := 0) rfl rfl, pb_pre hK hPc hDc hZ hS hFc _⟩ rfl rfl hl.1 rfl (lv_room (Nat.le_of_ble_eq_true rfl)) dX4_moveUp_15 ⟨(Nat.le_of_ble_eq_true rfl), (Nat.le_of_ble_eq_true rfl)⟩) hS (fun q _ h => hFc q h) hFc (fun r u t H1 locs ht hvm hw hB hz1 hk1 hS => ?_)
        refine W.widen (k := 0) (n := 0) (Nat.le_of_ble_eq_true rfl) (Nat.le_of_ble_eq_true rfl) ?_
        obtain ⟨r3, rfl⟩ : ∃ z, z = r := ⟨_, rfl⟩
        obtain ⟨u4, rfl⟩ : ∃ z, z = u := ⟨_, rfl⟩
        have hw5 := hw
        clear hw
        obtain ⟨hP1, hD1⟩ := hB
        rw [ht] at hP1
        obtain ⟨hP, hD⟩ := va_join (wr := [(z 0, .inr (7, [.ref (z 1), .ref (z 3), .int (nI nd), .int (nI (nsg + nb))])), (z 1, .inr (5, [.ref (z 2)])), (z 2, .inl (dA 0, 30, .inl tS))]) (w1 := [(z 3, .inr (5, [.ref (z 4)])), (z 4, .inl (dA 0, 30, .inl (fl (mvF sm nb tG) tG i2)))]) hP hD [3, 4] [0, 1, 2] rfl rfl (by decide) (by decide) hk1 hFc hP1 hD1
        generalize H1 = H at hP hS ⊢
        have hP : va_P D vwCl [(z 0, .inr (7, [.ref (z 1), .ref (z 3), .int (nI nd), .int (nI (nsg + nb))])), (z 1, .inr (5, [.ref (z 2)])), (z 2, .inl (dA 0, 30, .inl tS)), (z 3, .inr (5, [.ref (z 4)])), (z 4, .inl (dA 0, 30, .inl (fl (mvF sm nb tG) tG i2)))] H := hP
        have hD : va_D A [(z 0, .inr (7, [.ref (z 1), .ref (z 3), .int (nI nd), .int (nI (nsg + nb))])), (z 1, .inr (5, [.ref (z 2)])), (z 2, .inl (dA 0, 30, .inl tS)), (z 3, .inr (5, [.ref (z 4)])), (z 4, .inl (dA 0, 30, .inl (fl (mvF sm nb tG) tG i2)))] := hD
        obtain rfl : r3 = tG i2 := (show r3 = (fl (mvF sm nb tG) tG i2) i2 from hw5).trans (fl_out (Nat.le_refl _))
        refine lv_istore (lv' := [(4, .int (tG i2)), (3, .int (nI i2)), (0, .ref (z 0)), (1, .int (nI sm)), (2, .int (nI nb))]) hx hb dX4_moveUp_18 hl (by decide) rfl (fun ls hl => ?_)
        refine lv_iload hx hb dX4_moveUp_20 (lv_at hl 0 rfl) ?_
        refine lv_iload_n hx hb dX4_moveUp_22 rfl (lv_at hl 3 rfl) ?_
        refine lv_icmp_le (tgt := 38) hx hb dX4_moveUp_23 (by decide) (fun c6 => ?_) (fun c6 => ?_)
        · refine lv_iinc (v := nI (i2 + 1)) (lv' := [(3, .int (nI (i2 + 1))), (4, .int (tG i2)), (0, .ref (z 0)), (1, .int (nI sm)), (2, .int (nI nb))]) hx hb dX4_moveUp_38 hl (k := 1) rfl (nI_add i2 1) (by decide) rfl (fun ls hl => ?_)
          refine lv_goto (tgt := 2) hx hb dX4_moveUp_41 (by decide) ?_
          exact ih2 (i2 + 1) (fl (mvF sm nb tG) tG i2) (by omega) (by omega) (by omega) (fl_keep (if_neg (Int32.not_lt.mpr c6))) _ _ hP hD hS ls (lv_sub hl [0, 2, 3, 4] rfl)
        · refine lv_aload_n hx hb dX4_moveUp_26 rfl (lv_at hl 2 rfl) ?_
          refine va_get (D := D) (ci := 7) (v := .ref (z 3)) (C := RX4) (T := TX4) (N := 4) hx hb hts inAX4 hown hK hP 0 rfl rfl 1 (by decide) (hts _ q244) (fun _ h9 => h9) rfl dX4_moveUp_27 ?_
          refine lv_iload_n hx hb dX4_moveUp_30 rfl (lv_at hl 1 rfl) ?_
          refine lv_iload hx hb dX4_moveUp_31 (lv_at hl 0 rfl) ?_
          refine lv_iload_n hx hb dX4_moveUp_33 rfl (lv_at hl 4 rfl) ?_
          refine lv_isub hx hb dX4_moveUp_34 ?_
          have hPc := hP.sub (ws' := [(z 3, .inr (5, [.ref (z 4)])), (z 4, .inl (dA 0, 30, .inl (fl (mvF sm nb tG) tG i2)))]) [3, 4] rfl
          have hDc := hD.sub (ws' := [(z 3, .inr (5, [.ref (z 4)])), (z 4, .inl (dA 0, 30, .inl (fl (mvF sm nb tG) tG i2)))]) [3, 4] (by decide) rfl
          have hFc := va_free (wc := [(z 3, .inr (5, [.ref (z 4)])), (z 4, .inl (dA 0, 30, .inl (fl (mvF sm nb tG) tG i2)))]) hD hS hA [3, 4] rfl
          refine va_callv (va_runV (As := [.int (nI i2), .int ((tG i2) - (nI nb))]) (rest := []) ⟨hx, hb, hml, hown, hts⟩ (t_putN l D dA E (z 3) (z 4) 30 (fl (mvF sm nb tG) tG i2) i2 ((tG i2) - (nI nb)) H.size  (by omega) (by decide)) (cwV 2 hts (ga_V q242 q210 q207 q204 q208) rfl rfl rfl (by decide +kernel) ⟨(Nat.le_of_ble_eq_true rfl), (Nat.le_of_ble_eq_true rfl)⟩) ⟨pb_blind, va_recv hK hPc (ci := 5) (q0 := 0) rfl rfl, pb_pre hK hPc hDc hZ hS hFc _⟩ rfl rfl hl.1 rfl (lv_room (Nat.le_of_ble_eq_true rfl)) dX4_moveUp_35 ⟨(Nat.le_of_ble_eq_true rfl), (Nat.le_of_ble_eq_true rfl)⟩) hS (fun q _ h => hFc q h) hFc (fun u t H1 locs ht hvm hw hB hz1 hk1 hS => ?_)
          refine W.widen (k := 0) (n := 0) (Nat.le_of_ble_eq_true rfl) (Nat.le_of_ble_eq_true rfl) ?_
          obtain ⟨u7, rfl⟩ : ∃ z, z = u := ⟨_, rfl⟩
          have hw8 := hw
          clear hw
          obtain ⟨hP1, hD1⟩ := hB
          rw [ht] at hP1
          obtain ⟨hP, hD⟩ := va_join (wr := [(z 0, .inr (7, [.ref (z 1), .ref (z 3), .int (nI nd), .int (nI (nsg + nb))])), (z 1, .inr (5, [.ref (z 2)])), (z 2, .inl (dA 0, 30, .inl tS))]) (w1 := [(z 3, .inr (5, [.ref (z 4)])), (z 4, .inl (dA 0, 30, .inl (upd (fl (mvF sm nb tG) tG i2) i2 ((tG i2) - (nI nb)))))]) hP hD [3, 4] [0, 1, 2] rfl rfl (by decide) (by decide) hk1 hFc hP1 hD1
          generalize H1 = H at hP hS ⊢
          have hP : va_P D vwCl [(z 0, .inr (7, [.ref (z 1), .ref (z 3), .int (nI nd), .int (nI (nsg + nb))])), (z 1, .inr (5, [.ref (z 2)])), (z 2, .inl (dA 0, 30, .inl tS)), (z 3, .inr (5, [.ref (z 4)])), (z 4, .inl (dA 0, 30, .inl (upd (fl (mvF sm nb tG) tG i2) i2 ((tG i2) - (nI nb)))))] H := hP
          have hD : va_D A [(z 0, .inr (7, [.ref (z 1), .ref (z 3), .int (nI nd), .int (nI (nsg + nb))])), (z 1, .inr (5, [.ref (z 2)])), (z 2, .inl (dA 0, 30, .inl tS)), (z 3, .inr (5, [.ref (z 4)])), (z 4, .inl (dA 0, 30, .inl (upd (fl (mvF sm nb tG) tG i2) i2 ((tG i2) - (nI nb)))))] := hD
          refine lv_iinc (v := nI (i2 + 1)) (lv' := [(3, .int (nI (i2 + 1))), (4, .int (tG i2)), (0, .ref (z 0)), (1, .int (nI sm)), (2, .int (nI nb))]) hx hb dX4_moveUp_38 hl (k := 1) rfl (nI_add i2 1) (by decide) rfl (fun ls hl => ?_)
          refine lv_goto (tgt := 2) hx hb dX4_moveUp_41 (by decide) ?_
          exact ih2 (i2 + 1) (upd (fl (mvF sm nb tG) tG i2) i2 ((tG i2) - (nI nb))) (by omega) (by omega) (by omega) (fl_succ (if_pos (Int32.not_le.mp c6)).symm) _ _ hP hD hS ls (lv_sub hl [0, 2, 3, 4] rfl)
  exact K2 (nd + 1) 0 tG (by omega) (by omega) (by omega) fl_0.symm _ _ hP hD hS ls hl

set_option maxHeartbeats 4000000 in
set_option maxRecDepth 100000 in
theorem s_mergeWithNext (l : Launch) (D : va_G) (dA : Nat → ClassId) (E : Nat) (z : Nat → Nat) (tS tG : Nat → Int32) (nd n2 sm : Nat) (sz : Nat) (hnd : nd ≤ 30) (hn2 : n2 ≤ 900) (hs : sm ≤ n2) (hAC : AC tS)  : Met l yX4_mergeWithNext (wq (.code yX4_mergeWithNext cX4_mergeWithNext 6 (some .int))) { frames := 2, cells := 0, slots := 0, locals := 46 } (va_Pc [.ref (z 0), .int (nI sm)] (PcB D dA E [(z 0, .inr (7, [.ref (z 1), .ref (z 3), .int (nI nd), .int (nI ((n2 + 1) + 1))])), (z 1, .inr (5, [.ref (z 2)])), (z 2, .inl (dA 0, 30, .inl tS)), (z 3, .inr (5, [.ref (z 4)])), (z 4, .inl (dA 0, 30, .inl tG))] sz)) (va_Qi (fun (r : Int32) (u : (Nat → Int32) × Nat) => r = nI (cn (mgB sm tS tG) nd) ∧ ((0 < cn (mgL sm tS tG) nd ∧ u = (fl (mvF (sm + 1) 1 (fl (mgA sm tS tG) tG nd)) (fl (mgA sm tS tG) tG nd) nd, n2 + 1)) ∨ (cn (mgL sm tS tG) nd = 0 ∧ u = (fl (mvF (sm + 1) 2 (fl (mgA sm tS tG) tG nd)) (fl (mgA sm tS tG) tG nd) nd, n2)))) (fun u t => va_P D vwCl [(z 0, .inr (7, [.ref (z 1), .ref (z 3), .int (nI nd), .int (nI u.2)])), (z 1, .inr (5, [.ref (z 2)])), (z 2, .inl (dA 0, 30, .inl tS)), (z 3, .inr (5, [.ref (z 4)])), (z 4, .inl (dA 0, 30, .inl u.1))] t.heap ∧ va_D (va_A [(z 0, .inr (7, [.ref (z 1), .ref (z 3), .int (nI nd), .int (nI ((n2 + 1) + 1))])), (z 1, .inr (5, [.ref (z 2)])), (z 2, .inl (dA 0, 30, .inl tS)), (z 3, .inr (5, [.ref (z 4)])), (z 4, .inl (dA 0, 30, .inl tG))] sz) [(z 0, .inr (7, [.ref (z 1), .ref (z 3), .int (nI nd), .int (nI u.2)])), (z 1, .inr (5, [.ref (z 2)])), (z 2, .inl (dA 0, 30, .inl tS)), (z 3, .inr (5, [.ref (z 4)])), (z 4, .inl (dA 0, 30, .inl u.1))]) (va_A [(z 0, .inr (7, [.ref (z 1), .ref (z 3), .int (nI nd), .int (nI ((n2 + 1) + 1))])), (z 1, .inr (5, [.ref (z 2)])), (z 2, .inl (dA 0, 30, .inl tS)), (z 3, .inr (5, [.ref (z 4)])), (z 4, .inl (dA 0, 30, .inl tG))] sz)) 0 0 (va_A [(z 0, .inr (7, [.ref (z 1), .ref (z 3), .int (nI nd), .int (nI ((n2 + 1) + 1))])), (z 1, .inr (5, [.ref (z 2)])), (z 2, .inl (dA 0, 30, .inl tS)), (z 3, .inr (5, [.ref (z 4)])), (z 4, .inl (dA 0, 30, .inl tG))] sz) := by
  refine mb_of (Qc := fun A => va_Qi (fun (r : Int32) (u : (Nat → Int32) × Nat) => r = nI (cn (mgB sm tS tG) nd) ∧ ((0 < cn (mgL sm tS tG) nd ∧ u = (fl (mvF (sm + 1) 1 (fl (mgA sm tS tG) tG nd)) (fl (mgA sm tS tG) tG nd) nd, n2 + 1)) ∨ (cn (mgL sm tS tG) nd = 0 ∧ u = (fl (mvF (sm + 1) 2 (fl (mgA sm tS tG) tG nd)) (fl (mgA sm tS tG) tG nd) nd, n2)))) (fun u t => va_P D vwCl [(z 0, .inr (7, [.ref (z 1), .ref (z 3), .int (nI nd), .int (nI u.2)])), (z 1, .inr (5, [.ref (z 2)])), (z 2, .inl (dA 0, 30, .inl tS)), (z 3, .inr (5, [.ref (z 4)])), (z 4, .inl (dA 0, 30, .inl u.1))] t.heap ∧ va_D A [(z 0, .inr (7, [.ref (z 1), .ref (z 3), .int (nI nd), .int (nI u.2)])), (z 1, .inr (5, [.ref (z 2)])), (z 2, .inl (dA 0, 30, .inl tS)), (z 3, .inr (5, [.ref (z 4)])), (z 4, .inl (dA 0, 30, .inl u.1))]) A) RX4 rfl (by decide) (Nat.le_of_ble_eq_true rfl) ?_
  intro p e s m args below meth c hae hx hb hr hts hown hlocks hml hnm hP hK A hAe hD hZ hS hA ls hl
  have hl : lv_has ls 6 [(0, .ref (z 0)), (1, .int (nI sm))] := hl
  refine lv_iconst (v := 0) hx hb dX4_mergeWithNext_0 (by decide) ?_
  refine lv_istore_n (lv' := [(2, .int 0), (0, .ref (z 0)), (1, .int (nI sm))]) hx hb dX4_mergeWithNext_1 rfl hl (by decide) rfl (fun ls hl => ?_)
  refine lv_iconst (v := 0) hx hb dX4_mergeWithNext_2 (by decide) ?_
  refine lv_istore_n (lv' := [(3, .int 0), (2, .int 0), (0, .ref (z 0)), (1, .int (nI sm))]) hx hb dX4_mergeWithNext_3 rfl hl (by decide) rfl (fun ls hl => ?_)
  refine lv_iconst (v := 0) hx hb dX4_mergeWithNext_4 (by decide) ?_
  refine lv_istore (lv' := [(4, .int 0), (3, .int 0), (2, .int 0), (0, .ref (z 0)), (1, .int (nI sm))]) hx hb dX4_mergeWithNext_5 hl (by decide) rfl (fun ls hl => ?_)
  have K7 : ∀ (k7 i7 : Nat) (g7_0 : Nat → Int32) (g7_1 : Int32) (g7_2 : Int32), 0 ≤ i7 → i7 ≤ nd → nd < i7 + k7 → (g7_0 = fl (mgA sm tS tG) tG i7) ∧ (g7_1 = nI (cn (mgB sm tS tG) i7)) ∧ (g7_2 = nI (cn (mgL sm tS tG) i7)) → ∀ (H : Heap) (locs : List Loc), va_P D vwCl [(z 0, .inr (7, [.ref (z 1), .ref (z 3), .int (nI nd), .int (nI ((n2 + 1) + 1))])), (z 1, .inr (5, [.ref (z 2)])), (z 2, .inl (dA 0, 30, .inl tS)), (z 3, .inr (5, [.ref (z 4)])), (z 4, .inl (dA 0, 30, .inl g7_0))] H → va_D A [(z 0, .inr (7, [.ref (z 1), .ref (z 3), .int (nI nd), .int (nI ((n2 + 1) + 1))])), (z 1, .inr (5, [.ref (z 2)])), (z 2, .inl (dA 0, 30, .inl tS)), (z 3, .inr (5, [.ref (z 4)])), (z 4, .inl (dA 0, 30, .inl g7_0))] → va_S A s.heap H locs → ∀ ls : Array Slot, lv_has ls 6 [(4, .int (nI i7)), (3, .int g7_2), (2, .int g7_1), (0, .ref (z 0)), (1, .int (nI sm))] → W p l e { frames := 2, cells := 0, slots := 0, locals := 46 } s m args below meth c H locs 0 0 (MQ below (va_Qi (fun (r : Int32) (u : (Nat → Int32) × Nat) => r = nI (cn (mgB sm tS tG) nd) ∧ ((0 < cn (mgL sm tS tG) nd ∧ u = (fl (mvF (sm + 1) 1 (fl (mgA sm tS tG) tG nd)) (fl (mgA sm tS tG) tG nd) nd, n2 + 1)) ∨ (cn (mgL sm tS tG) nd = 0 ∧ u = (fl (mvF (sm + 1) 2 (fl (mgA sm tS tG) tG nd)) (fl (mgA sm tS tG) tG nd) nd, n2)))) (fun u t => va_P D vwCl [(z 0, .inr (7, [.ref (z 1), .ref (z 3), .int (nI nd), .int (nI u.2)])), (z 1, .inr (5, [.ref (z 2)])), (z 2, .inl (dA 0, 30, .inl tS)), (z 3, .inr (5, [.ref (z 4)])), (z 4, .inl (dA 0, 30, .inl u.1))] t.heap ∧ va_D A [(z 0, .inr (7, [.ref (z 1), .ref (z 3), .int (nI nd), .int (nI u.2)])), (z 1, .inr (5, [.ref (z 2)])), (z 2, .inl (dA 0, 30, .inl tS)), (z 3, .inr (5, [.ref (z 4)])), (z 4, .inl (dA 0, 30, .inl u.1))]) A) args s 0 0 A) (F0 m 7 ls []) := by
    intro k7
    induction k7 with
    | zero => intro i7 g7_0 g7_1 g7_2 h1 h2 h3; exact absurd h3 (by omega)
    | succ k7 ih7 =>
      intro i7 g7_0 g7_1 g7_2 hlo7 hhi7 hms7 hinv7 H locs hP hD hS ls hl
      obtain ⟨eg7_0, eg7_1, eg7_2⟩ := hinv7
      subst eg7_0
      subst eg7_1
      subst eg7_2
      have hcb := cn_le (mgB sm tS tG) i7
      have hcl := cn_le (mgL sm tS tG) i7
      refine lv_iload hx hb dX4_mergeWithNext_7 (lv_at hl 0 rfl) ?_
      refine lv_aload_n hx hb dX4_mergeWithNext_9 rfl (lv_at hl 3 rfl) ?_
      refine va_get (D := D) (ci := 7) (v := .int (nI nd)) (C := RX4) (T := TX4) (N := 4) hx hb hts inAX4 hown hK hP 0 rfl rfl 2 (by decide) (hts _ q243) (fun _ h9 => h9) rfl dX4_mergeWithNext_10 ?_
      refine lv_icmp_ge (tgt := 90) hx hb dX4_mergeWithNext_13 (by decide) (fun c1 => ?_) (fun c1 => ?_)
      · replace c1 := (nI_leI (a := nd) (b := i7) (by omega) (by omega)).mp c1
        obtain rfl : nd = i7 := (by omega)
        have hP : va_P D vwCl [(z 0, .inr (7, [.ref (z 1), .ref (z 3), .int (nI nd), .int (nI ((n2 + 1) + 1))])), (z 1, .inr (5, [.ref (z 2)])), (z 2, .inl (dA 0, 30, .inl tS)), (z 3, .inr (5, [.ref (z 4)])), (z 4, .inl (dA 0, 30, .inl (fl (mgA sm tS tG) tG nd)))] H := hP
        have hD : va_D A [(z 0, .inr (7, [.ref (z 1), .ref (z 3), .int (nI nd), .int (nI ((n2 + 1) + 1))])), (z 1, .inr (5, [.ref (z 2)])), (z 2, .inl (dA 0, 30, .inl tS)), (z 3, .inr (5, [.ref (z 4)])), (z 4, .inl (dA 0, 30, .inl (fl (mgA sm tS tG) tG nd)))] := hD
        refine lv_aload_n hx hb dX4_mergeWithNext_90 rfl (lv_at hl 3 rfl) ?_
        refine lv_iload_n hx hb dX4_mergeWithNext_91 rfl (lv_at hl 4 rfl) ?_
        refine lv_iconst (v := 1) hx hb dX4_mergeWithNext_92 (by decide) ?_
        refine lv_iadd hx hb dX4_mergeWithNext_93 ?_
        refine lv_topi (fun x2 ex2 => ?_)
        obtain rfl : x2 = nI (sm + 1) := ex2.trans (nI_add sm 1)
        refine lv_iload_n hx hb dX4_mergeWithNext_94 rfl (lv_at hl 1 rfl) ?_
        refine lv_if_ne (tgt := 102) hx hb dX4_mergeWithNext_95 (by decide) (fun c3 => ?_) (fun c3 => ?_)
        · replace c3 := mt (nI_eq (a := (cn (mgL sm tS tG) nd)) (b := 0) (by omega) (by omega)).mpr c3
          refine lv_iconst (v := 1) hx hb dX4_mergeWithNext_102 (by decide) ?_
          have hPc := hP.sub (ws' := [(z 0, .inr (7, [.ref (z 1), .ref (z 3), .int (nI nd), .int (nI ((n2 + 1) + 1))])), (z 1, .inr (5, [.ref (z 2)])), (z 2, .inl (dA 0, 30, .inl tS)), (z 3, .inr (5, [.ref (z 4)])), (z 4, .inl (dA 0, 30, .inl (fl (mgA sm tS tG) tG nd)))]) [0, 1, 2, 3, 4] rfl
          have hDc := hD.sub (ws' := [(z 0, .inr (7, [.ref (z 1), .ref (z 3), .int (nI nd), .int (nI ((n2 + 1) + 1))])), (z 1, .inr (5, [.ref (z 2)])), (z 2, .inl (dA 0, 30, .inl tS)), (z 3, .inr (5, [.ref (z 4)])), (z 4, .inl (dA 0, 30, .inl (fl (mgA sm tS tG) tG nd)))]) [0, 1, 2, 3, 4] (by decide) rfl
          have hFc := va_free (wc := [(z 0, .inr (7, [.ref (z 1), .ref (z 3), .int (nI nd), .int (nI ((n2 + 1) + 1))])), (z 1, .inr (5, [.ref (z 2)])), (z 2, .inl (dA 0, 30, .inl tS)), (z 3, .inr (5, [.ref (z 4)])), (z 4, .inl (dA 0, 30, .inl (fl (mgA sm tS tG) tG nd)))]) hD hS hA [0, 1, 2, 3, 4] rfl
          refine va_callv (va_runV (As := [.int (nI (sm + 1)), .int 1]) (rest := []) ⟨hx, hb, hml, hown, hts⟩ (s_moveUp l D dA E z tS (fl (mgA sm tS tG) tG nd) nd (n2 + 1) (sm + 1) 1 H.size  (by omega) (by omega) (by omega)) (cwV 2 hts (ga_V q248 q249 q246 q241 q247) rfl rfl rfl (by decide +kernel) ⟨(Nat.le_of_ble_eq_true rfl), (Nat.le_of_ble_eq_true rfl)⟩) ⟨pb_blind, va_recv hK hPc (ci := 7) (q0 := 0) rfl rfl, pb_pre hK hPc hDc hZ hS hFc _⟩ rfl rfl hl.1 rfl (lv_room (Nat.le_of_ble_eq_true rfl)) dX4_mergeWithNext_103 ⟨(Nat.le_of_ble_eq_true rfl), (Nat.le_of_ble_eq_true rfl)⟩) hS (fun q _ h => hFc q h) hFc (fun u t H1 locs ht hvm hw hB hz1 hk1 hS => ?_)
          refine W.widen (k := 0) (n := 0) (Nat.le_of_ble_eq_true rfl) (Nat.le_of_ble_eq_true rfl) ?_
          obtain ⟨u4, rfl⟩ : ∃ z, z = u := ⟨_, rfl⟩
          have hw5 := hw
          clear hw
          obtain ⟨hP1, hD1⟩ := hB
          rw [ht] at hP1
          obtain ⟨hP, hD⟩ := va_join (wr := []) (w1 := [(z 0, .inr (7, [.ref (z 1), .ref (z 3), .int (nI nd), .int (nI (n2 + 1))])), (z 1, .inr (5, [.ref (z 2)])), (z 2, .inl (dA 0, 30, .inl tS)), (z 3, .inr (5, [.ref (z 4)])), (z 4, .inl (dA 0, 30, .inl (fl (mvF (sm + 1) 1 (fl (mgA sm tS tG) tG nd)) (fl (mgA sm tS tG) tG nd) nd)))]) hP hD [0, 1, 2, 3, 4] [] rfl rfl (by decide) (by decide) hk1 hFc hP1 hD1
          generalize H1 = H at hP hS ⊢
          have hP : va_P D vwCl [(z 0, .inr (7, [.ref (z 1), .ref (z 3), .int (nI nd), .int (nI (n2 + 1))])), (z 1, .inr (5, [.ref (z 2)])), (z 2, .inl (dA 0, 30, .inl tS)), (z 3, .inr (5, [.ref (z 4)])), (z 4, .inl (dA 0, 30, .inl (fl (mvF (sm + 1) 1 (fl (mgA sm tS tG) tG nd)) (fl (mgA sm tS tG) tG nd) nd)))] H := hP
          have hD : va_D A [(z 0, .inr (7, [.ref (z 1), .ref (z 3), .int (nI nd), .int (nI (n2 + 1))])), (z 1, .inr (5, [.ref (z 2)])), (z 2, .inl (dA 0, 30, .inl tS)), (z 3, .inr (5, [.ref (z 4)])), (z 4, .inl (dA 0, 30, .inl (fl (mvF (sm + 1) 1 (fl (mgA sm tS tG) tG nd)) (fl (mgA sm tS tG) tG nd) nd)))] := hD
          refine lv_iload_n hx hb dX4_mergeWithNext_106 rfl (lv_at hl 2 rfl) ?_
          refine W.widen (k := 0) (n := 0) (Nat.le_of_ble_eq_true rfl) (Nat.le_of_ble_eq_true rfl) ?_
          have hP9 := hP.sub (ws' := [(z 0, .inr (7, [.ref (z 1), .ref (z 3), .int (nI nd), .int (nI (n2 + 1))])), (z 1, .inr (5, [.ref (z 2)])), (z 2, .inl (dA 0, 30, .inl tS)), (z 3, .inr (5, [.ref (z 4)])), (z 4, .inl (dA 0, 30, .inl (fl (mvF (sm + 1) 1 (fl (mgA sm tS tG) tG nd)) (fl (mgA sm tS tG) tG nd) nd)))]) [0, 1, 2, 3, 4] rfl
          have hD9 := hD.sub (ws' := [(z 0, .inr (7, [.ref (z 1), .ref (z 3), .int (nI nd), .int (nI (n2 + 1))])), (z 1, .inr (5, [.ref (z 2)])), (z 2, .inl (dA 0, 30, .inl tS)), (z 3, .inr (5, [.ref (z 4)])), (z 4, .inl (dA 0, 30, .inl (fl (mvF (sm + 1) 1 (fl (mgA sm tS tG) tG nd)) (fl (mgA sm tS tG) tG nd) nd)))]) [0, 1, 2, 3, 4] (by decide) rfl
          exact W.iret (v := (nI (cn (mgB sm tS tG) nd))) hx hb hr (fun t ht hW => ⟨⟨(nI (cn (mgB sm tS tG) nd)), (fl (mvF (sm + 1) 1 (fl (mgA sm tS tG) tG nd)) (fl (mgA sm tS tG) tG nd) nd, (n2 + 1)), rfl, ⟨rfl, Or.inl ⟨by omega, rfl⟩⟩, ⟨by rw [ht]; exact hP9, hD9⟩⟩, hS.F ht⟩) hS.2.2 dX4_mergeWithNext_107
        · replace c3 := (nI_eq (a := (cn (mgL sm tS tG) nd)) (b := 0) (by omega) (by omega)).mp c3
          refine lv_iconst (v := 2) hx hb dX4_mergeWithNext_98 (by decide) ?_
          refine lv_goto (tgt := 103) hx hb dX4_mergeWithNext_99 (by decide) ?_
          have hPc := hP.sub (ws' := [(z 0, .inr (7, [.ref (z 1), .ref (z 3), .int (nI nd), .int (nI ((n2 + 1) + 1))])), (z 1, .inr (5, [.ref (z 2)])), (z 2, .inl (dA 0, 30, .inl tS)), (z 3, .inr (5, [.ref (z 4)])), (z 4, .inl (dA 0, 30, .inl (fl (mgA sm tS tG) tG nd)))]) [0, 1, 2, 3, 4] rfl
          have hDc := hD.sub (ws' := [(z 0, .inr (7, [.ref (z 1), .ref (z 3), .int (nI nd), .int (nI ((n2 + 1) + 1))])), (z 1, .inr (5, [.ref (z 2)])), (z 2, .inl (dA 0, 30, .inl tS)), (z 3, .inr (5, [.ref (z 4)])), (z 4, .inl (dA 0, 30, .inl (fl (mgA sm tS tG) tG nd)))]) [0, 1, 2, 3, 4] (by decide) rfl
          have hFc := va_free (wc := [(z 0, .inr (7, [.ref (z 1), .ref (z 3), .int (nI nd), .int (nI ((n2 + 1) + 1))])), (z 1, .inr (5, [.ref (z 2)])), (z 2, .inl (dA 0, 30, .inl tS)), (z 3, .inr (5, [.ref (z 4)])), (z 4, .inl (dA 0, 30, .inl (fl (mgA sm tS tG) tG nd)))]) hD hS hA [0, 1, 2, 3, 4] rfl
          refine va_callv (va_runV (As := [.int (nI (sm + 1)), .int 2]) (rest := []) ⟨hx, hb, hml, hown, hts⟩ (s_moveUp l D dA E z tS (fl (mgA sm tS tG) tG nd) nd n2 (sm + 1) 2 H.size  (by omega) (by omega) (by omega)) (cwV 2 hts (ga_V q248 q249 q246 q241 q247) rfl rfl rfl (by decide +kernel) ⟨(Nat.le_of_ble_eq_true rfl), (Nat.le_of_ble_eq_true rfl)⟩) ⟨pb_blind, va_recv hK hPc (ci := 7) (q0 := 0) rfl rfl, pb_pre hK hPc hDc hZ hS hFc _⟩ rfl rfl hl.1 rfl (lv_room (Nat.le_of_ble_eq_true rfl)) dX4_mergeWithNext_103 ⟨(Nat.le_of_ble_eq_true rfl), (Nat.le_of_ble_eq_true rfl)⟩) hS (fun q _ h => hFc q h) hFc (fun u t H1 locs ht hvm hw hB hz1 hk1 hS => ?_)
          refine W.widen (k := 0) (n := 0) (Nat.le_of_ble_eq_true rfl) (Nat.le_of_ble_eq_true rfl) ?_
          obtain ⟨u6, rfl⟩ : ∃ z, z = u := ⟨_, rfl⟩
          have hw7 := hw
          clear hw
          obtain ⟨hP1, hD1⟩ := hB
          rw [ht] at hP1
          obtain ⟨hP, hD⟩ := va_join (wr := []) (w1 := [(z 0, .inr (7, [.ref (z 1), .ref (z 3), .int (nI nd), .int (nI n2)])), (z 1, .inr (5, [.ref (z 2)])), (z 2, .inl (dA 0, 30, .inl tS)), (z 3, .inr (5, [.ref (z 4)])), (z 4, .inl (dA 0, 30, .inl (fl (mvF (sm + 1) 2 (fl (mgA sm tS tG) tG nd)) (fl (mgA sm tS tG) tG nd) nd)))]) hP hD [0, 1, 2, 3, 4] [] rfl rfl (by decide) (by decide) hk1 hFc hP1 hD1
          generalize H1 = H at hP hS ⊢
          have hP : va_P D vwCl [(z 0, .inr (7, [.ref (z 1), .ref (z 3), .int (nI nd), .int (nI n2)])), (z 1, .inr (5, [.ref (z 2)])), (z 2, .inl (dA 0, 30, .inl tS)), (z 3, .inr (5, [.ref (z 4)])), (z 4, .inl (dA 0, 30, .inl (fl (mvF (sm + 1) 2 (fl (mgA sm tS tG) tG nd)) (fl (mgA sm tS tG) tG nd) nd)))] H := hP
          have hD : va_D A [(z 0, .inr (7, [.ref (z 1), .ref (z 3), .int (nI nd), .int (nI n2)])), (z 1, .inr (5, [.ref (z 2)])), (z 2, .inl (dA 0, 30, .inl tS)), (z 3, .inr (5, [.ref (z 4)])), (z 4, .inl (dA 0, 30, .inl (fl (mvF (sm + 1) 2 (fl (mgA sm tS tG) tG nd)) (fl (mgA sm tS tG) tG nd) nd)))] := hD
          refine lv_iload_n hx hb dX4_mergeWithNext_106 rfl (lv_at hl 2 rfl) ?_
          refine W.widen (k := 0) (n := 0) (Nat.le_of_ble_eq_true rfl) (Nat.le_of_ble_eq_true rfl) ?_
          have hP9 := hP.sub (ws' := [(z 0, .inr (7, [.ref (z 1), .ref (z 3), .int (nI nd), .int (nI n2)])), (z 1, .inr (5, [.ref (z 2)])), (z 2, .inl (dA 0, 30, .inl tS)), (z 3, .inr (5, [.ref (z 4)])), (z 4, .inl (dA 0, 30, .inl (fl (mvF (sm + 1) 2 (fl (mgA sm tS tG) tG nd)) (fl (mgA sm tS tG) tG nd) nd)))]) [0, 1, 2, 3, 4] rfl
          have hD9 := hD.sub (ws' := [(z 0, .inr (7, [.ref (z 1), .ref (z 3), .int (nI nd), .int (nI n2)])), (z 1, .inr (5, [.ref (z 2)])), (z 2, .inl (dA 0, 30, .inl tS)), (z 3, .inr (5, [.ref (z 4)])), (z 4, .inl (dA 0, 30, .inl (fl (mvF (sm + 1) 2 (fl (mgA sm tS tG) tG nd)) (fl (mgA sm tS tG) tG nd) nd)))]) [0, 1, 2, 3, 4] (by decide) rfl
          exact W.iret (v := (nI (cn (mgB sm tS tG) nd))) hx hb hr (fun t ht hW => ⟨⟨(nI (cn (mgB sm tS tG) nd)), (fl (mvF (sm + 1) 2 (fl (mgA sm tS tG) tG nd)) (fl (mgA sm tS tG) tG nd) nd, n2), rfl, ⟨rfl, Or.inr ⟨by omega, rfl⟩⟩, ⟨by rw [ht]; exact hP9, hD9⟩⟩, hS.F ht⟩) hS.2.2 dX4_mergeWithNext_107
      · replace c1 := mt (nI_leI (a := nd) (b := i7) (by omega) (by omega)).mpr c1
        refine lv_aload_n hx hb dX4_mergeWithNext_16 rfl (lv_at hl 3 rfl) ?_
        refine va_get (D := D) (ci := 7) (v := .ref (z 3)) (C := RX4) (T := TX4) (N := 4) hx hb hts inAX4 hown hK hP 0 rfl rfl 1 (by decide) (hts _ q244) (fun _ h9 => h9) rfl dX4_mergeWithNext_17 ?_
        refine lv_iload hx hb dX4_mergeWithNext_20 (lv_at hl 0 rfl) ?_
        have hPc := hP.sub (ws' := [(z 3, .inr (5, [.ref (z 4)])), (z 4, .inl (dA 0, 30, .inl (fl (mgA sm tS tG) tG i7)))]) [3, 4] rfl
        have hDc := hD.sub (ws' := [(z 3, .inr (5, [.ref (z 4)])), (z 4, .inl (dA 0, 30, .inl (fl (mgA sm tS tG) tG i7)))]) [3, 4] (by decide) rfl
        have hFc := va_free (wc := [(z 3, .inr (5, [.ref (z 4)])), (z 4, .inl (dA 0, 30, .inl (fl (mgA sm tS tG) tG i7)))]) hD hS hA [3, 4] rfl
        refine va_calli (va_runV (As := [.int (nI i7)]) (rest := []) ⟨hx, hb, hml, hown, hts⟩ (t_getN l D dA E (z 3) (z 4) 30 (fl (mgA sm tS tG) tG i7) i7 H.size  (by omega) (by decide)) (cwV 1 hts (ga_V q236 q203 q200 q204 q201) rfl rfl rfl (by decide +kernel) ⟨(Nat.le_of_ble_eq_true rfl), (Nat.le_of_ble_eq_true rfl)⟩) ⟨pb_blind, va_recv hK hPc (ci := 5) (q0 := 0) rfl rfl, pb_pre hK hPc hDc hZ hS hFc _⟩ rfl rfl hl.1 rfl (lv_room (Nat.le_of_ble_eq_true rfl)) dX4_mergeWithNext_22 ⟨(Nat.le_of_ble_eq_true rfl), (Nat.le_of_ble_eq_true rfl)⟩) hS (fun q _ h => hFc q h) hFc (fun r u t H1 locs ht hvm hw hB hz1 hk1 hS => ?_)
        refine W.widen (k := 0) (n := 0) (Nat.le_of_ble_eq_true rfl) (Nat.le_of_ble_eq_true rfl) ?_
        obtain ⟨r8, rfl⟩ : ∃ z, z = r := ⟨_, rfl⟩
        obtain ⟨u9, rfl⟩ : ∃ z, z = u := ⟨_, rfl⟩
        have hw10 := hw
        clear hw
        obtain ⟨hP1, hD1⟩ := hB
        rw [ht] at hP1
        obtain ⟨hP, hD⟩ := va_join (wr := [(z 0, .inr (7, [.ref (z 1), .ref (z 3), .int (nI nd), .int (nI ((n2 + 1) + 1))])), (z 1, .inr (5, [.ref (z 2)])), (z 2, .inl (dA 0, 30, .inl tS))]) (w1 := [(z 3, .inr (5, [.ref (z 4)])), (z 4, .inl (dA 0, 30, .inl (fl (mgA sm tS tG) tG i7)))]) hP hD [3, 4] [0, 1, 2] rfl rfl (by decide) (by decide) hk1 hFc hP1 hD1
        generalize H1 = H at hP hS ⊢
        have hP : va_P D vwCl [(z 0, .inr (7, [.ref (z 1), .ref (z 3), .int (nI nd), .int (nI ((n2 + 1) + 1))])), (z 1, .inr (5, [.ref (z 2)])), (z 2, .inl (dA 0, 30, .inl tS)), (z 3, .inr (5, [.ref (z 4)])), (z 4, .inl (dA 0, 30, .inl (fl (mgA sm tS tG) tG i7)))] H := hP
        have hD : va_D A [(z 0, .inr (7, [.ref (z 1), .ref (z 3), .int (nI nd), .int (nI ((n2 + 1) + 1))])), (z 1, .inr (5, [.ref (z 2)])), (z 2, .inl (dA 0, 30, .inl tS)), (z 3, .inr (5, [.ref (z 4)])), (z 4, .inl (dA 0, 30, .inl (fl (mgA sm tS tG) tG i7)))] := hD
        obtain rfl : r8 = tG i7 := (show r8 = (fl (mgA sm tS tG) tG i7) i7 from hw10).trans (fl_out (Nat.le_refl _))
        refine lv_istore (lv' := [(5, .int (tG i7)), (4, .int (nI i7)), (3, .int (nI (cn (mgL sm tS tG) i7))), (2, .int (nI (cn (mgB sm tS tG) i7))), (0, .ref (z 0)), (1, .int (nI sm))]) hx hb dX4_mergeWithNext_25 hl (by decide) rfl (fun ls hl => ?_)
        refine lv_iload hx hb dX4_mergeWithNext_27 (lv_at hl 0 rfl) ?_
        refine lv_iload_n hx hb dX4_mergeWithNext_29 rfl (lv_at hl 5 rfl) ?_
        refine lv_icmp_eq (tgt := 44) hx hb dX4_mergeWithNext_30 (by decide) (fun c11 => ?_) (fun c11 => ?_)
        · refine lv_aload_n hx hb dX4_mergeWithNext_44 rfl (lv_at hl 4 rfl) ?_
          refine lv_iload hx hb dX4_mergeWithNext_45 (lv_at hl 1 rfl) ?_
          have hPc := hP.sub (ws' := [(z 0, .inr (7, [.ref (z 1), .ref (z 3), .int (nI nd), .int (nI ((n2 + 1) + 1))])), (z 1, .inr (5, [.ref (z 2)])), (z 2, .inl (dA 0, 30, .inl tS)), (z 3, .inr (5, [.ref (z 4)])), (z 4, .inl (dA 0, 30, .inl (fl (mgA sm tS tG) tG i7)))]) [0, 1, 2, 3, 4] rfl
          have hDc := hD.sub (ws' := [(z 0, .inr (7, [.ref (z 1), .ref (z 3), .int (nI nd), .int (nI ((n2 + 1) + 1))])), (z 1, .inr (5, [.ref (z 2)])), (z 2, .inl (dA 0, 30, .inl tS)), (z 3, .inr (5, [.ref (z 4)])), (z 4, .inl (dA 0, 30, .inl (fl (mgA sm tS tG) tG i7)))]) [0, 1, 2, 3, 4] (by decide) rfl
          have hFc := va_free (wc := [(z 0, .inr (7, [.ref (z 1), .ref (z 3), .int (nI nd), .int (nI ((n2 + 1) + 1))])), (z 1, .inr (5, [.ref (z 2)])), (z 2, .inl (dA 0, 30, .inl tS)), (z 3, .inr (5, [.ref (z 4)])), (z 4, .inl (dA 0, 30, .inl (fl (mgA sm tS tG) tG i7)))]) hD hS hA [0, 1, 2, 3, 4] rfl
          refine va_calli (va_runV (As := [.int (nI i7)]) (rest := []) ⟨hx, hb, hml, hown, hts⟩ (s_stateOf l D dA E z tS (fl (mgA sm tS tG) tG i7) nd ((n2 + 1) + 1) i7 H.size  (by omega) (by omega) (by omega) hAC) (cwV 1 hts (ga_V q239 q240 q237 q241 q238) rfl rfl rfl (by decide +kernel) ⟨(Nat.le_of_ble_eq_true rfl), (Nat.le_of_ble_eq_true rfl)⟩) ⟨pb_blind, va_recv hK hPc (ci := 7) (q0 := 0) rfl rfl, pb_pre hK hPc hDc hZ hS hFc _⟩ rfl rfl hl.1 rfl (lv_room (Nat.le_of_ble_eq_true rfl)) dX4_mergeWithNext_47 ⟨(Nat.le_of_ble_eq_true rfl), (Nat.le_of_ble_eq_true rfl)⟩) hS (fun q _ h => hFc q h) hFc (fun r u t H1 locs ht hvm hw hB hz1 hk1 hS => ?_)
          refine W.widen (k := 0) (n := 0) (Nat.le_of_ble_eq_true rfl) (Nat.le_of_ble_eq_true rfl) ?_
          obtain ⟨r12, rfl⟩ : ∃ z, z = r := ⟨_, rfl⟩
          obtain ⟨u13, rfl⟩ : ∃ z, z = u := ⟨_, rfl⟩
          have hw14 := hw
          clear hw
          obtain ⟨hP1, hD1⟩ := hB
          rw [ht] at hP1
          obtain ⟨hP, hD⟩ := va_join (wr := []) (w1 := [(z 0, .inr (7, [.ref (z 1), .ref (z 3), .int (nI nd), .int (nI ((n2 + 1) + 1))])), (z 1, .inr (5, [.ref (z 2)])), (z 2, .inl (dA 0, 30, .inl tS)), (z 3, .inr (5, [.ref (z 4)])), (z 4, .inl (dA 0, 30, .inl (fl (mgA sm tS tG) tG i7)))]) hP hD [0, 1, 2, 3, 4] [] rfl rfl (by decide) (by decide) hk1 hFc hP1 hD1
          generalize H1 = H at hP hS ⊢
          have hP : va_P D vwCl [(z 0, .inr (7, [.ref (z 1), .ref (z 3), .int (nI nd), .int (nI ((n2 + 1) + 1))])), (z 1, .inr (5, [.ref (z 2)])), (z 2, .inl (dA 0, 30, .inl tS)), (z 3, .inr (5, [.ref (z 4)])), (z 4, .inl (dA 0, 30, .inl (fl (mgA sm tS tG) tG i7)))] H := hP
          have hD : va_D A [(z 0, .inr (7, [.ref (z 1), .ref (z 3), .int (nI nd), .int (nI ((n2 + 1) + 1))])), (z 1, .inr (5, [.ref (z 2)])), (z 2, .inl (dA 0, 30, .inl tS)), (z 3, .inr (5, [.ref (z 4)])), (z 4, .inl (dA 0, 30, .inl (fl (mgA sm tS tG) tG i7)))] := hD
          obtain rfl : r12 = tS i7 := hw14
          refine lv_bipush (v := 114) hx hb dX4_mergeWithNext_50 (by decide) ?_
          refine lv_icmp_ne (tgt := 71) hx hb dX4_mergeWithNext_52 (by decide) (fun c15 => ?_) (fun c15 => ?_)
          · refine lv_aload_n hx hb dX4_mergeWithNext_71 rfl (lv_at hl 4 rfl) ?_
            refine va_get (D := D) (ci := 7) (v := .ref (z 3)) (C := RX4) (T := TX4) (N := 4) hx hb hts inAX4 hown hK hP 0 rfl rfl 1 (by decide) (hts _ q244) (fun _ h9 => h9) rfl dX4_mergeWithNext_72 ?_
            refine lv_iload hx hb dX4_mergeWithNext_75 (lv_at hl 1 rfl) ?_
            refine lv_iload_n hx hb dX4_mergeWithNext_77 rfl (lv_at hl 5 rfl) ?_
            have hPc := hP.sub (ws' := [(z 3, .inr (5, [.ref (z 4)])), (z 4, .inl (dA 0, 30, .inl (fl (mgA sm tS tG) tG i7)))]) [3, 4] rfl
            have hDc := hD.sub (ws' := [(z 3, .inr (5, [.ref (z 4)])), (z 4, .inl (dA 0, 30, .inl (fl (mgA sm tS tG) tG i7)))]) [3, 4] (by decide) rfl
            have hFc := va_free (wc := [(z 3, .inr (5, [.ref (z 4)])), (z 4, .inl (dA 0, 30, .inl (fl (mgA sm tS tG) tG i7)))]) hD hS hA [3, 4] rfl
            refine va_callv (va_runV (As := [.int (nI i7), .int (nI sm)]) (rest := []) ⟨hx, hb, hml, hown, hts⟩ (t_putN l D dA E (z 3) (z 4) 30 (fl (mgA sm tS tG) tG i7) i7 (nI sm) H.size  (by omega) (by decide)) (cwV 2 hts (ga_V q242 q210 q207 q204 q208) rfl rfl rfl (by decide +kernel) ⟨(Nat.le_of_ble_eq_true rfl), (Nat.le_of_ble_eq_true rfl)⟩) ⟨pb_blind, va_recv hK hPc (ci := 5) (q0 := 0) rfl rfl, pb_pre hK hPc hDc hZ hS hFc _⟩ rfl rfl hl.1 rfl (lv_room (Nat.le_of_ble_eq_true rfl)) dX4_mergeWithNext_78 ⟨(Nat.le_of_ble_eq_true rfl), (Nat.le_of_ble_eq_true rfl)⟩) hS (fun q _ h => hFc q h) hFc (fun u t H1 locs ht hvm hw hB hz1 hk1 hS => ?_)
            refine W.widen (k := 0) (n := 0) (Nat.le_of_ble_eq_true rfl) (Nat.le_of_ble_eq_true rfl) ?_
            obtain ⟨u16, rfl⟩ : ∃ z, z = u := ⟨_, rfl⟩
            have hw17 := hw
            clear hw
            obtain ⟨hP1, hD1⟩ := hB
            rw [ht] at hP1
            obtain ⟨hP, hD⟩ := va_join (wr := [(z 0, .inr (7, [.ref (z 1), .ref (z 3), .int (nI nd), .int (nI ((n2 + 1) + 1))])), (z 1, .inr (5, [.ref (z 2)])), (z 2, .inl (dA 0, 30, .inl tS))]) (w1 := [(z 3, .inr (5, [.ref (z 4)])), (z 4, .inl (dA 0, 30, .inl (upd (fl (mgA sm tS tG) tG i7) i7 (nI sm))))]) hP hD [3, 4] [0, 1, 2] rfl rfl (by decide) (by decide) hk1 hFc hP1 hD1
            generalize H1 = H at hP hS ⊢
            have hP : va_P D vwCl [(z 0, .inr (7, [.ref (z 1), .ref (z 3), .int (nI nd), .int (nI ((n2 + 1) + 1))])), (z 1, .inr (5, [.ref (z 2)])), (z 2, .inl (dA 0, 30, .inl tS)), (z 3, .inr (5, [.ref (z 4)])), (z 4, .inl (dA 0, 30, .inl (upd (fl (mgA sm tS tG) tG i7) i7 (nI sm))))] H := hP
            have hD : va_D A [(z 0, .inr (7, [.ref (z 1), .ref (z 3), .int (nI nd), .int (nI ((n2 + 1) + 1))])), (z 1, .inr (5, [.ref (z 2)])), (z 2, .inl (dA 0, 30, .inl tS)), (z 3, .inr (5, [.ref (z 4)])), (z 4, .inl (dA 0, 30, .inl (upd (fl (mgA sm tS tG) tG i7) i7 (nI sm))))] := hD
            refine lv_iinc (v := nI ((cn (mgL sm tS tG) i7) + 1)) (lv' := [(3, .int (nI ((cn (mgL sm tS tG) i7) + 1))), (5, .int (tG i7)), (4, .int (nI i7)), (2, .int (nI (cn (mgB sm tS tG) i7))), (0, .ref (z 0)), (1, .int (nI sm))]) hx hb dX4_mergeWithNext_81 hl (k := 2) rfl (nI_add (cn (mgL sm tS tG) i7) 1) (by decide) rfl (fun ls hl => ?_)
            refine lv_iinc (v := nI (i7 + 1)) (lv' := [(4, .int (nI (i7 + 1))), (3, .int (nI ((cn (mgL sm tS tG) i7) + 1))), (5, .int (tG i7)), (2, .int (nI (cn (mgB sm tS tG) i7))), (0, .ref (z 0)), (1, .int (nI sm))]) hx hb dX4_mergeWithNext_84 hl (k := 2) rfl (nI_add i7 1) (by decide) rfl (fun ls hl => ?_)
            refine lv_goto (tgt := 7) hx hb dX4_mergeWithNext_87 (by decide) ?_
            exact ih7 (i7 + 1) (upd (fl (mgA sm tS tG) tG i7) i7 (nI sm)) (nI (cn (mgB sm tS tG) i7)) (nI ((cn (mgL sm tS tG) i7) + 1)) (by omega) (by omega) (by omega) ⟨(fl_succ (by show _ = mgA _ _ _ _; simp [mgA, c11, c15])), (cn_n' (f := mgB sm tS tG) (by simp [mgB, c11, c15])), (cn_y (f := mgL sm tS tG) (by simp [mgL, c11, c15]))⟩ _ _ hP hD hS ls (lv_sub hl [0, 1, 3, 4, 5] rfl)
          · refine lv_aload_n hx hb dX4_mergeWithNext_55 rfl (lv_at hl 4 rfl) ?_
            refine va_get (D := D) (ci := 7) (v := .ref (z 3)) (C := RX4) (T := TX4) (N := 4) hx hb hts inAX4 hown hK hP 0 rfl rfl 1 (by decide) (hts _ q244) (fun _ h9 => h9) rfl dX4_mergeWithNext_56 ?_
            refine lv_iload hx hb dX4_mergeWithNext_59 (lv_at hl 1 rfl) ?_
            refine lv_iconst (v := (-1)) hx hb dX4_mergeWithNext_61 (by decide) ?_
            have hPc := hP.sub (ws' := [(z 3, .inr (5, [.ref (z 4)])), (z 4, .inl (dA 0, 30, .inl (fl (mgA sm tS tG) tG i7)))]) [3, 4] rfl
            have hDc := hD.sub (ws' := [(z 3, .inr (5, [.ref (z 4)])), (z 4, .inl (dA 0, 30, .inl (fl (mgA sm tS tG) tG i7)))]) [3, 4] (by decide) rfl
            have hFc := va_free (wc := [(z 3, .inr (5, [.ref (z 4)])), (z 4, .inl (dA 0, 30, .inl (fl (mgA sm tS tG) tG i7)))]) hD hS hA [3, 4] rfl
            refine va_callv (va_runV (As := [.int (nI i7), .int (-1)]) (rest := []) ⟨hx, hb, hml, hown, hts⟩ (t_putN l D dA E (z 3) (z 4) 30 (fl (mgA sm tS tG) tG i7) i7 (-1) H.size  (by omega) (by decide)) (cwV 2 hts (ga_V q242 q210 q207 q204 q208) rfl rfl rfl (by decide +kernel) ⟨(Nat.le_of_ble_eq_true rfl), (Nat.le_of_ble_eq_true rfl)⟩) ⟨pb_blind, va_recv hK hPc (ci := 5) (q0 := 0) rfl rfl, pb_pre hK hPc hDc hZ hS hFc _⟩ rfl rfl hl.1 rfl (lv_room (Nat.le_of_ble_eq_true rfl)) dX4_mergeWithNext_62 ⟨(Nat.le_of_ble_eq_true rfl), (Nat.le_of_ble_eq_true rfl)⟩) hS (fun q _ h => hFc q h) hFc (fun u t H1 locs ht hvm hw hB hz1 hk1 hS => ?_)
            refine W.widen (k := 0) (n := 0) (Nat.le_of_ble_eq_true rfl) (Nat.le_of_ble_eq_true rfl) ?_
            obtain ⟨u18, rfl⟩ : ∃ z, z = u := ⟨_, rfl⟩
            have hw19 := hw
            clear hw
            obtain ⟨hP1, hD1⟩ := hB
            rw [ht] at hP1
            obtain ⟨hP, hD⟩ := va_join (wr := [(z 0, .inr (7, [.ref (z 1), .ref (z 3), .int (nI nd), .int (nI ((n2 + 1) + 1))])), (z 1, .inr (5, [.ref (z 2)])), (z 2, .inl (dA 0, 30, .inl tS))]) (w1 := [(z 3, .inr (5, [.ref (z 4)])), (z 4, .inl (dA 0, 30, .inl (upd (fl (mgA sm tS tG) tG i7) i7 (-1))))]) hP hD [3, 4] [0, 1, 2] rfl rfl (by decide) (by decide) hk1 hFc hP1 hD1
            generalize H1 = H at hP hS ⊢
            have hP : va_P D vwCl [(z 0, .inr (7, [.ref (z 1), .ref (z 3), .int (nI nd), .int (nI ((n2 + 1) + 1))])), (z 1, .inr (5, [.ref (z 2)])), (z 2, .inl (dA 0, 30, .inl tS)), (z 3, .inr (5, [.ref (z 4)])), (z 4, .inl (dA 0, 30, .inl (upd (fl (mgA sm tS tG) tG i7) i7 (-1))))] H := hP
            have hD : va_D A [(z 0, .inr (7, [.ref (z 1), .ref (z 3), .int (nI nd), .int (nI ((n2 + 1) + 1))])), (z 1, .inr (5, [.ref (z 2)])), (z 2, .inl (dA 0, 30, .inl tS)), (z 3, .inr (5, [.ref (z 4)])), (z 4, .inl (dA 0, 30, .inl (upd (fl (mgA sm tS tG) tG i7) i7 (-1))))] := hD
            refine lv_iinc (v := nI ((cn (mgB sm tS tG) i7) + 1)) (lv' := [(2, .int (nI ((cn (mgB sm tS tG) i7) + 1))), (5, .int (tG i7)), (4, .int (nI i7)), (3, .int (nI (cn (mgL sm tS tG) i7))), (0, .ref (z 0)), (1, .int (nI sm))]) hx hb dX4_mergeWithNext_65 hl (k := 3) rfl (nI_add (cn (mgB sm tS tG) i7) 1) (by decide) rfl (fun ls hl => ?_)
            refine lv_goto (tgt := 84) hx hb dX4_mergeWithNext_68 (by decide) ?_
            refine lv_iinc (v := nI (i7 + 1)) (lv' := [(4, .int (nI (i7 + 1))), (2, .int (nI ((cn (mgB sm tS tG) i7) + 1))), (5, .int (tG i7)), (3, .int (nI (cn (mgL sm tS tG) i7))), (0, .ref (z 0)), (1, .int (nI sm))]) hx hb dX4_mergeWithNext_84 hl (k := 2) rfl (nI_add i7 1) (by decide) rfl (fun ls hl => ?_)
            refine lv_goto (tgt := 7) hx hb dX4_mergeWithNext_87 (by decide) ?_
            exact ih7 (i7 + 1) (upd (fl (mgA sm tS tG) tG i7) i7 (-1)) (nI ((cn (mgB sm tS tG) i7) + 1)) (nI (cn (mgL sm tS tG) i7)) (by omega) (by omega) (by omega) ⟨(fl_succ (by show _ = mgA _ _ _ _; simp [mgA, c11, c15])), (cn_y (f := mgB sm tS tG) (by simp [mgB, c11, c15])), (cn_n' (f := mgL sm tS tG) (by simp [mgL, c11, c15]))⟩ _ _ hP hD hS ls (lv_sub hl [0, 3, 1, 4, 5] rfl)
        · refine lv_iload hx hb dX4_mergeWithNext_33 (lv_at hl 0 rfl) ?_
          refine lv_iload_n hx hb dX4_mergeWithNext_35 rfl (lv_at hl 5 rfl) ?_
          refine lv_iconst (v := 1) hx hb dX4_mergeWithNext_36 (by decide) ?_
          refine lv_iadd hx hb dX4_mergeWithNext_37 ?_
          refine lv_topi (fun x20 ex20 => ?_)
          obtain rfl : x20 = nI (sm + 1) := ex20.trans (nI_add sm 1)
          refine lv_icmp_eq (tgt := 44) hx hb dX4_mergeWithNext_38 (by decide) (fun c21 => ?_) (fun c21 => ?_)
          · refine lv_aload_n hx hb dX4_mergeWithNext_44 rfl (lv_at hl 4 rfl) ?_
            refine lv_iload hx hb dX4_mergeWithNext_45 (lv_at hl 1 rfl) ?_
            have hPc := hP.sub (ws' := [(z 0, .inr (7, [.ref (z 1), .ref (z 3), .int (nI nd), .int (nI ((n2 + 1) + 1))])), (z 1, .inr (5, [.ref (z 2)])), (z 2, .inl (dA 0, 30, .inl tS)), (z 3, .inr (5, [.ref (z 4)])), (z 4, .inl (dA 0, 30, .inl (fl (mgA sm tS tG) tG i7)))]) [0, 1, 2, 3, 4] rfl
            have hDc := hD.sub (ws' := [(z 0, .inr (7, [.ref (z 1), .ref (z 3), .int (nI nd), .int (nI ((n2 + 1) + 1))])), (z 1, .inr (5, [.ref (z 2)])), (z 2, .inl (dA 0, 30, .inl tS)), (z 3, .inr (5, [.ref (z 4)])), (z 4, .inl (dA 0, 30, .inl (fl (mgA sm tS tG) tG i7)))]) [0, 1, 2, 3, 4] (by decide) rfl
            have hFc := va_free (wc := [(z 0, .inr (7, [.ref (z 1), .ref (z 3), .int (nI nd), .int (nI ((n2 + 1) + 1))])), (z 1, .inr (5, [.ref (z 2)])), (z 2, .inl (dA 0, 30, .inl tS)), (z 3, .inr (5, [.ref (z 4)])), (z 4, .inl (dA 0, 30, .inl (fl (mgA sm tS tG) tG i7)))]) hD hS hA [0, 1, 2, 3, 4] rfl
            refine va_calli (va_runV (As := [.int (nI i7)]) (rest := []) ⟨hx, hb, hml, hown, hts⟩ (s_stateOf l D dA E z tS (fl (mgA sm tS tG) tG i7) nd ((n2 + 1) + 1) i7 H.size  (by omega) (by omega) (by omega) hAC) (cwV 1 hts (ga_V q239 q240 q237 q241 q238) rfl rfl rfl (by decide +kernel) ⟨(Nat.le_of_ble_eq_true rfl), (Nat.le_of_ble_eq_true rfl)⟩) ⟨pb_blind, va_recv hK hPc (ci := 7) (q0 := 0) rfl rfl, pb_pre hK hPc hDc hZ hS hFc _⟩ rfl rfl hl.1 rfl (lv_room (Nat.le_of_ble_eq_true rfl)) dX4_mergeWithNext_47 ⟨(Nat.le_of_ble_eq_true rfl), (Nat.le_of_ble_eq_true rfl)⟩) hS (fun q _ h => hFc q h) hFc (fun r u t H1 locs ht hvm hw hB hz1 hk1 hS => ?_)
            refine W.widen (k := 0) (n := 0) (Nat.le_of_ble_eq_true rfl) (Nat.le_of_ble_eq_true rfl) ?_
            obtain ⟨r22, rfl⟩ : ∃ z, z = r := ⟨_, rfl⟩
            obtain ⟨u23, rfl⟩ : ∃ z, z = u := ⟨_, rfl⟩
            have hw24 := hw
            clear hw
            obtain ⟨hP1, hD1⟩ := hB
            rw [ht] at hP1
            obtain ⟨hP, hD⟩ := va_join (wr := []) (w1 := [(z 0, .inr (7, [.ref (z 1), .ref (z 3), .int (nI nd), .int (nI ((n2 + 1) + 1))])), (z 1, .inr (5, [.ref (z 2)])), (z 2, .inl (dA 0, 30, .inl tS)), (z 3, .inr (5, [.ref (z 4)])), (z 4, .inl (dA 0, 30, .inl (fl (mgA sm tS tG) tG i7)))]) hP hD [0, 1, 2, 3, 4] [] rfl rfl (by decide) (by decide) hk1 hFc hP1 hD1
            generalize H1 = H at hP hS ⊢
            have hP : va_P D vwCl [(z 0, .inr (7, [.ref (z 1), .ref (z 3), .int (nI nd), .int (nI ((n2 + 1) + 1))])), (z 1, .inr (5, [.ref (z 2)])), (z 2, .inl (dA 0, 30, .inl tS)), (z 3, .inr (5, [.ref (z 4)])), (z 4, .inl (dA 0, 30, .inl (fl (mgA sm tS tG) tG i7)))] H := hP
            have hD : va_D A [(z 0, .inr (7, [.ref (z 1), .ref (z 3), .int (nI nd), .int (nI ((n2 + 1) + 1))])), (z 1, .inr (5, [.ref (z 2)])), (z 2, .inl (dA 0, 30, .inl tS)), (z 3, .inr (5, [.ref (z 4)])), (z 4, .inl (dA 0, 30, .inl (fl (mgA sm tS tG) tG i7)))] := hD
            obtain rfl : r22 = tS i7 := hw24
            refine lv_bipush (v := 114) hx hb dX4_mergeWithNext_50 (by decide) ?_
            refine lv_icmp_ne (tgt := 71) hx hb dX4_mergeWithNext_52 (by decide) (fun c25 => ?_) (fun c25 => ?_)
            · refine lv_aload_n hx hb dX4_mergeWithNext_71 rfl (lv_at hl 4 rfl) ?_
              refine va_get (D := D) (ci := 7) (v := .ref (z 3)) (C := RX4) (T := TX4) (N := 4) hx hb hts inAX4 hown hK hP 0 rfl rfl 1 (by decide) (hts _ q244) (fun _ h9 => h9) rfl dX4_mergeWithNext_72 ?_
              refine lv_iload hx hb dX4_mergeWithNext_75 (lv_at hl 1 rfl) ?_
              refine lv_iload_n hx hb dX4_mergeWithNext_77 rfl (lv_at hl 5 rfl) ?_
              have hPc := hP.sub (ws' := [(z 3, .inr (5, [.ref (z 4)])), (z 4, .inl (dA 0, 30, .inl (fl (mgA sm tS tG) tG i7)))]) [3, 4] rfl
              have hDc := hD.sub (ws' := [(z 3, .inr (5, [.ref (z 4)])), (z 4, .inl (dA 0, 30, .inl (fl (mgA sm tS tG) tG i7)))]) [3, 4] (by decide) rfl
              have hFc := va_free (wc := [(z 3, .inr (5, [.ref (z 4)])), (z 4, .inl (dA 0, 30, .inl (fl (mgA sm tS tG) tG i7)))]) hD hS hA [3, 4] rfl
              refine va_callv (va_runV (As := [.int (nI i7), .int (nI sm)]) (rest := []) ⟨hx, hb, hml, hown, hts⟩ (t_putN l D dA E (z 3) (z 4) 30 (fl (mgA sm tS tG) tG i7) i7 (nI sm) H.size  (by omega) (by decide)) (cwV 2 hts (ga_V q242 q210 q207 q204 q208) rfl rfl rfl (by decide +kernel) ⟨(Nat.le_of_ble_eq_true rfl), (Nat.le_of_ble_eq_true rfl)⟩) ⟨pb_blind, va_recv hK hPc (ci := 5) (q0 := 0) rfl rfl, pb_pre hK hPc hDc hZ hS hFc _⟩ rfl rfl hl.1 rfl (lv_room (Nat.le_of_ble_eq_true rfl)) dX4_mergeWithNext_78 ⟨(Nat.le_of_ble_eq_true rfl), (Nat.le_of_ble_eq_true rfl)⟩) hS (fun q _ h => hFc q h) hFc (fun u t H1 locs ht hvm hw hB hz1 hk1 hS => ?_)
              refine W.widen (k := 0) (n := 0) (Nat.le_of_ble_eq_true rfl) (Nat.le_of_ble_eq_true rfl) ?_
              obtain ⟨u26, rfl⟩ : ∃ z, z = u := ⟨_, rfl⟩
              have hw27 := hw
              clear hw
              obtain ⟨hP1, hD1⟩ := hB
              rw [ht] at hP1
              obtain ⟨hP, hD⟩ := va_join (wr := [(z 0, .inr (7, [.ref (z 1), .ref (z 3), .int (nI nd), .int (nI ((n2 + 1) + 1))])), (z 1, .inr (5, [.ref (z 2)])), (z 2, .inl (dA 0, 30, .inl tS))]) (w1 := [(z 3, .inr (5, [.ref (z 4)])), (z 4, .inl (dA 0, 30, .inl (upd (fl (mgA sm tS tG) tG i7) i7 (nI sm))))]) hP hD [3, 4] [0, 1, 2] rfl rfl (by decide) (by decide) hk1 hFc hP1 hD1
              generalize H1 = H at hP hS ⊢
              have hP : va_P D vwCl [(z 0, .inr (7, [.ref (z 1), .ref (z 3), .int (nI nd), .int (nI ((n2 + 1) + 1))])), (z 1, .inr (5, [.ref (z 2)])), (z 2, .inl (dA 0, 30, .inl tS)), (z 3, .inr (5, [.ref (z 4)])), (z 4, .inl (dA 0, 30, .inl (upd (fl (mgA sm tS tG) tG i7) i7 (nI sm))))] H := hP
              have hD : va_D A [(z 0, .inr (7, [.ref (z 1), .ref (z 3), .int (nI nd), .int (nI ((n2 + 1) + 1))])), (z 1, .inr (5, [.ref (z 2)])), (z 2, .inl (dA 0, 30, .inl tS)), (z 3, .inr (5, [.ref (z 4)])), (z 4, .inl (dA 0, 30, .inl (upd (fl (mgA sm tS tG) tG i7) i7 (nI sm))))] := hD
              refine lv_iinc (v := nI ((cn (mgL sm tS tG) i7) + 1)) (lv' := [(3, .int (nI ((cn (mgL sm tS tG) i7) + 1))), (5, .int (tG i7)), (4, .int (nI i7)), (2, .int (nI (cn (mgB sm tS tG) i7))), (0, .ref (z 0)), (1, .int (nI sm))]) hx hb dX4_mergeWithNext_81 hl (k := 2) rfl (nI_add (cn (mgL sm tS tG) i7) 1) (by decide) rfl (fun ls hl => ?_)
              refine lv_iinc (v := nI (i7 + 1)) (lv' := [(4, .int (nI (i7 + 1))), (3, .int (nI ((cn (mgL sm tS tG) i7) + 1))), (5, .int (tG i7)), (2, .int (nI (cn (mgB sm tS tG) i7))), (0, .ref (z 0)), (1, .int (nI sm))]) hx hb dX4_mergeWithNext_84 hl (k := 2) rfl (nI_add i7 1) (by decide) rfl (fun ls hl => ?_)
              refine lv_goto (tgt := 7) hx hb dX4_mergeWithNext_87 (by decide) ?_
              exact ih7 (i7 + 1) (upd (fl (mgA sm tS tG) tG i7) i7 (nI sm)) (nI (cn (mgB sm tS tG) i7)) (nI ((cn (mgL sm tS tG) i7) + 1)) (by omega) (by omega) (by omega) ⟨(fl_succ (by show _ = mgA _ _ _ _; simp [mgA, c11, c21, c25])), (cn_n' (f := mgB sm tS tG) (by simp [mgB, c11, c21, c25])), (cn_y (f := mgL sm tS tG) (by simp [mgL, c11, c21, c25]))⟩ _ _ hP hD hS ls (lv_sub hl [0, 1, 3, 4, 5] rfl)
            · refine lv_aload_n hx hb dX4_mergeWithNext_55 rfl (lv_at hl 4 rfl) ?_
              refine va_get (D := D) (ci := 7) (v := .ref (z 3)) (C := RX4) (T := TX4) (N := 4) hx hb hts inAX4 hown hK hP 0 rfl rfl 1 (by decide) (hts _ q244) (fun _ h9 => h9) rfl dX4_mergeWithNext_56 ?_
              refine lv_iload hx hb dX4_mergeWithNext_59 (lv_at hl 1 rfl) ?_
              refine lv_iconst (v := (-1)) hx hb dX4_mergeWithNext_61 (by decide) ?_
              have hPc := hP.sub (ws' := [(z 3, .inr (5, [.ref (z 4)])), (z 4, .inl (dA 0, 30, .inl (fl (mgA sm tS tG) tG i7)))]) [3, 4] rfl
              have hDc := hD.sub (ws' := [(z 3, .inr (5, [.ref (z 4)])), (z 4, .inl (dA 0, 30, .inl (fl (mgA sm tS tG) tG i7)))]) [3, 4] (by decide) rfl
              have hFc := va_free (wc := [(z 3, .inr (5, [.ref (z 4)])), (z 4, .inl (dA 0, 30, .inl (fl (mgA sm tS tG) tG i7)))]) hD hS hA [3, 4] rfl
              refine va_callv (va_runV (As := [.int (nI i7), .int (-1)]) (rest := []) ⟨hx, hb, hml, hown, hts⟩ (t_putN l D dA E (z 3) (z 4) 30 (fl (mgA sm tS tG) tG i7) i7 (-1) H.size  (by omega) (by decide)) (cwV 2 hts (ga_V q242 q210 q207 q204 q208) rfl rfl rfl (by decide +kernel) ⟨(Nat.le_of_ble_eq_true rfl), (Nat.le_of_ble_eq_true rfl)⟩) ⟨pb_blind, va_recv hK hPc (ci := 5) (q0 := 0) rfl rfl, pb_pre hK hPc hDc hZ hS hFc _⟩ rfl rfl hl.1 rfl (lv_room (Nat.le_of_ble_eq_true rfl)) dX4_mergeWithNext_62 ⟨(Nat.le_of_ble_eq_true rfl), (Nat.le_of_ble_eq_true rfl)⟩) hS (fun q _ h => hFc q h) hFc (fun u t H1 locs ht hvm hw hB hz1 hk1 hS => ?_)
              refine W.widen (k := 0) (n := 0) (Nat.le_of_ble_eq_true rfl) (Nat.le_of_ble_eq_true rfl) ?_
              obtain ⟨u28, rfl⟩ : ∃ z, z = u := ⟨_, rfl⟩
              have hw29 := hw
              clear hw
              obtain ⟨hP1, hD1⟩ := hB
              rw [ht] at hP1
              obtain ⟨hP, hD⟩ := va_join (wr := [(z 0, .inr (7, [.ref (z 1), .ref (z 3), .int (nI nd), .int (nI ((n2 + 1) + 1))])), (z 1, .inr (5, [.ref (z 2)])), (z 2, .inl (dA 0, 30, .inl tS))]) (w1 := [(z 3, .inr (5, [.ref (z 4)])), (z 4, .inl (dA 0, 30, .inl (upd (fl (mgA sm tS tG) tG i7) i7 (-1))))]) hP hD [3, 4] [0, 1, 2] rfl rfl (by decide) (by decide) hk1 hFc hP1 hD1
              generalize H1 = H at hP hS ⊢
              have hP : va_P D vwCl [(z 0, .inr (7, [.ref (z 1), .ref (z 3), .int (nI nd), .int (nI ((n2 + 1) + 1))])), (z 1, .inr (5, [.ref (z 2)])), (z 2, .inl (dA 0, 30, .inl tS)), (z 3, .inr (5, [.ref (z 4)])), (z 4, .inl (dA 0, 30, .inl (upd (fl (mgA sm tS tG) tG i7) i7 (-1))))] H := hP
              have hD : va_D A [(z 0, .inr (7, [.ref (z 1), .ref (z 3), .int (nI nd), .int (nI ((n2 + 1) + 1))])), (z 1, .inr (5, [.ref (z 2)])), (z 2, .inl (dA 0, 30, .inl tS)), (z 3, .inr (5, [.ref (z 4)])), (z 4, .inl (dA 0, 30, .inl (upd (fl (mgA sm tS tG) tG i7) i7 (-1))))] := hD
              refine lv_iinc (v := nI ((cn (mgB sm tS tG) i7) + 1)) (lv' := [(2, .int (nI ((cn (mgB sm tS tG) i7) + 1))), (5, .int (tG i7)), (4, .int (nI i7)), (3, .int (nI (cn (mgL sm tS tG) i7))), (0, .ref (z 0)), (1, .int (nI sm))]) hx hb dX4_mergeWithNext_65 hl (k := 3) rfl (nI_add (cn (mgB sm tS tG) i7) 1) (by decide) rfl (fun ls hl => ?_)
              refine lv_goto (tgt := 84) hx hb dX4_mergeWithNext_68 (by decide) ?_
              refine lv_iinc (v := nI (i7 + 1)) (lv' := [(4, .int (nI (i7 + 1))), (2, .int (nI ((cn (mgB sm tS tG) i7) + 1))), (5, .int (tG i7)), (3, .int (nI (cn (mgL sm tS tG) i7))), (0, .ref (z 0)), (1, .int (nI sm))]) hx hb dX4_mergeWithNext_84 hl (k := 2) rfl (nI_add i7 1) (by decide) rfl (fun ls hl => ?_)
              refine lv_goto (tgt := 7) hx hb dX4_mergeWithNext_87 (by decide) ?_
              exact ih7 (i7 + 1) (upd (fl (mgA sm tS tG) tG i7) i7 (-1)) (nI ((cn (mgB sm tS tG) i7) + 1)) (nI (cn (mgL sm tS tG) i7)) (by omega) (by omega) (by omega) ⟨(fl_succ (by show _ = mgA _ _ _ _; simp [mgA, c11, c21, c25])), (cn_y (f := mgB sm tS tG) (by simp [mgB, c11, c21, c25])), (cn_n' (f := mgL sm tS tG) (by simp [mgL, c11, c21, c25]))⟩ _ _ hP hD hS ls (lv_sub hl [0, 3, 1, 4, 5] rfl)
          · refine lv_goto (tgt := 84) hx hb dX4_mergeWithNext_41 (by decide) ?_
            refine lv_iinc (v := nI (i7 + 1)) (lv' := [(4, .int (nI (i7 + 1))), (5, .int (tG i7)), (3, .int (nI (cn (mgL sm tS tG) i7))), (2, .int (nI (cn (mgB sm tS tG) i7))), (0, .ref (z 0)), (1, .int (nI sm))]) hx hb dX4_mergeWithNext_84 hl (k := 1) rfl (nI_add i7 1) (by decide) rfl (fun ls hl => ?_)
            refine lv_goto (tgt := 7) hx hb dX4_mergeWithNext_87 (by decide) ?_
            exact ih7 (i7 + 1) (fl (mgA sm tS tG) tG i7) (nI (cn (mgB sm tS tG) i7)) (nI (cn (mgL sm tS tG) i7)) (by omega) (by omega) (by omega) ⟨(fl_keep (by show  mgA _ _ _ _ = _; simp [mgA, c11, c21])), (cn_n' (f := mgB sm tS tG) (by simp [mgB, c11, c21])), (cn_n' (f := mgL sm tS tG) (by simp [mgL, c11, c21]))⟩ _ _ hP hD hS ls (lv_sub hl [0, 2, 3, 4, 5] rfl)
  exact K7 (nd + 1) 0 tG 0 0 (by omega) (by omega) (by omega) ⟨fl_0.symm, rfl, rfl⟩ _ _ hP hD hS ls hl

set_option maxHeartbeats 4000000 in
set_option maxRecDepth 100000 in
theorem s_takeOver (l : Launch) (D : va_G) (dA : Nat → ClassId) (E : Nat) (z : Nat → Nat) (tS tG : Nat → Int32) (nd nsg : Nat) (zz : Nat → Nat) (kS kG : Nat → Int32) (kd ksg : Nat) (sz : Nat)   : Met l yX4_takeOver (wq (.code yX4_takeOver cX4_takeOver 2 none)) { frames := 2, cells := 0, slots := 0, locals := 43 } (va_Pc [.ref (z 0), .ref (zz 0)] (PcB D dA E [(z 0, .inr (7, [.ref (z 1), .ref (z 3), .int (nI nd), .int (nI nsg)])), (z 1, .inr (5, [.ref (z 2)])), (z 2, .inl (dA 0, 30, .inl tS)), (z 3, .inr (5, [.ref (z 4)])), (z 4, .inl (dA 0, 30, .inl tG)), (zz 0, .inr (7, [.ref (zz 1), .ref (zz 3), .int (nI kd), .int (nI ksg)])), (zz 1, .inr (5, [.ref (zz 2)])), (zz 2, .inl (dA 0, 30, .inl kS)), (zz 3, .inr (5, [.ref (zz 4)])), (zz 4, .inl (dA 0, 30, .inl kG))] sz)) (va_Qv (fun (u : Unit) => True) (fun u t => va_P D vwCl [(z 0, .inr (7, [.ref (z 1), .ref (z 3), .int (nI kd), .int (nI ksg)])), (z 1, .inr (5, [.ref (z 2)])), (z 2, .inl (dA 0, 30, .inl (fl kS tS 30))), (z 3, .inr (5, [.ref (z 4)])), (z 4, .inl (dA 0, 30, .inl (fl kG tG 30))), (zz 0, .inr (7, [.ref (zz 1), .ref (zz 3), .int (nI kd), .int (nI ksg)])), (zz 1, .inr (5, [.ref (zz 2)])), (zz 2, .inl (dA 0, 30, .inl kS)), (zz 3, .inr (5, [.ref (zz 4)])), (zz 4, .inl (dA 0, 30, .inl kG))] t.heap ∧ va_D (va_A [(z 0, .inr (7, [.ref (z 1), .ref (z 3), .int (nI nd), .int (nI nsg)])), (z 1, .inr (5, [.ref (z 2)])), (z 2, .inl (dA 0, 30, .inl tS)), (z 3, .inr (5, [.ref (z 4)])), (z 4, .inl (dA 0, 30, .inl tG)), (zz 0, .inr (7, [.ref (zz 1), .ref (zz 3), .int (nI kd), .int (nI ksg)])), (zz 1, .inr (5, [.ref (zz 2)])), (zz 2, .inl (dA 0, 30, .inl kS)), (zz 3, .inr (5, [.ref (zz 4)])), (zz 4, .inl (dA 0, 30, .inl kG))] sz) [(z 0, .inr (7, [.ref (z 1), .ref (z 3), .int (nI kd), .int (nI ksg)])), (z 1, .inr (5, [.ref (z 2)])), (z 2, .inl (dA 0, 30, .inl (fl kS tS 30))), (z 3, .inr (5, [.ref (z 4)])), (z 4, .inl (dA 0, 30, .inl (fl kG tG 30))), (zz 0, .inr (7, [.ref (zz 1), .ref (zz 3), .int (nI kd), .int (nI ksg)])), (zz 1, .inr (5, [.ref (zz 2)])), (zz 2, .inl (dA 0, 30, .inl kS)), (zz 3, .inr (5, [.ref (zz 4)])), (zz 4, .inl (dA 0, 30, .inl kG))]) (va_A [(z 0, .inr (7, [.ref (z 1), .ref (z 3), .int (nI nd), .int (nI nsg)])), (z 1, .inr (5, [.ref (z 2)])), (z 2, .inl (dA 0, 30, .inl tS)), (z 3, .inr (5, [.ref (z 4)])), (z 4, .inl (dA 0, 30, .inl tG)), (zz 0, .inr (7, [.ref (zz 1), .ref (zz 3), .int (nI kd), .int (nI ksg)])), (zz 1, .inr (5, [.ref (zz 2)])), (zz 2, .inl (dA 0, 30, .inl kS)), (zz 3, .inr (5, [.ref (zz 4)])), (zz 4, .inl (dA 0, 30, .inl kG))] sz)) 0 0 (va_A [(z 0, .inr (7, [.ref (z 1), .ref (z 3), .int (nI nd), .int (nI nsg)])), (z 1, .inr (5, [.ref (z 2)])), (z 2, .inl (dA 0, 30, .inl tS)), (z 3, .inr (5, [.ref (z 4)])), (z 4, .inl (dA 0, 30, .inl tG)), (zz 0, .inr (7, [.ref (zz 1), .ref (zz 3), .int (nI kd), .int (nI ksg)])), (zz 1, .inr (5, [.ref (zz 2)])), (zz 2, .inl (dA 0, 30, .inl kS)), (zz 3, .inr (5, [.ref (zz 4)])), (zz 4, .inl (dA 0, 30, .inl kG))] sz) := by
  refine mb_of (Qc := fun A => va_Qv (fun (u : Unit) => True) (fun u t => va_P D vwCl [(z 0, .inr (7, [.ref (z 1), .ref (z 3), .int (nI kd), .int (nI ksg)])), (z 1, .inr (5, [.ref (z 2)])), (z 2, .inl (dA 0, 30, .inl (fl kS tS 30))), (z 3, .inr (5, [.ref (z 4)])), (z 4, .inl (dA 0, 30, .inl (fl kG tG 30))), (zz 0, .inr (7, [.ref (zz 1), .ref (zz 3), .int (nI kd), .int (nI ksg)])), (zz 1, .inr (5, [.ref (zz 2)])), (zz 2, .inl (dA 0, 30, .inl kS)), (zz 3, .inr (5, [.ref (zz 4)])), (zz 4, .inl (dA 0, 30, .inl kG))] t.heap ∧ va_D A [(z 0, .inr (7, [.ref (z 1), .ref (z 3), .int (nI kd), .int (nI ksg)])), (z 1, .inr (5, [.ref (z 2)])), (z 2, .inl (dA 0, 30, .inl (fl kS tS 30))), (z 3, .inr (5, [.ref (z 4)])), (z 4, .inl (dA 0, 30, .inl (fl kG tG 30))), (zz 0, .inr (7, [.ref (zz 1), .ref (zz 3), .int (nI kd), .int (nI ksg)])), (zz 1, .inr (5, [.ref (zz 2)])), (zz 2, .inl (dA 0, 30, .inl kS)), (zz 3, .inr (5, [.ref (zz 4)])), (zz 4, .inl (dA 0, 30, .inl kG))]) A) RX4 rfl (by decide) (Nat.le_of_ble_eq_true rfl) ?_
  intro p e s m args below meth c hae hx hb hr hts hown hlocks hml hnm hP hK A hAe hD hZ hS hA ls hl
  have hl : lv_has ls 2 [(0, .ref (z 0)), (1, .ref (zz 0))] := hl
  refine lv_aload_n hx hb dX4_takeOver_0 rfl (lv_at hl 0 rfl) ?_
  refine va_get (D := D) (ci := 7) (v := .ref (z 1)) (C := RX4) (T := TX4) (N := 4) hx hb hts inAX4 hown hK hP 0 rfl rfl 0 (by decide) (hts _ q235) (fun _ h9 => h9) rfl dX4_takeOver_1 ?_
  refine lv_aload_n hx hb dX4_takeOver_4 rfl (lv_at hl 1 rfl) ?_
  refine va_get (D := D) (ci := 7) (v := .ref (zz 1)) (C := RX4) (T := TX4) (N := 4) hx hb hts inAX4 hown hK hP 5 rfl rfl 0 (by decide) (hts _ q235) (fun _ h9 => h9) rfl dX4_takeOver_5 ?_
  have hPc := hP.sub (ws' := [(z 1, .inr (5, [.ref (z 2)])), (z 2, .inl (dA 0, 30, .inl tS)), (zz 1, .inr (5, [.ref (zz 2)])), (zz 2, .inl (dA 0, 30, .inl kS))]) [1, 2, 6, 7] rfl
  have hDc := hD.sub (ws' := [(z 1, .inr (5, [.ref (z 2)])), (z 2, .inl (dA 0, 30, .inl tS)), (zz 1, .inr (5, [.ref (zz 2)])), (zz 2, .inl (dA 0, 30, .inl kS))]) [1, 2, 6, 7] (by decide) rfl
  have hFc := va_free (wc := [(z 1, .inr (5, [.ref (z 2)])), (z 2, .inl (dA 0, 30, .inl tS)), (zz 1, .inr (5, [.ref (zz 2)])), (zz 2, .inl (dA 0, 30, .inl kS))]) hD hS hA [1, 2, 6, 7] rfl
  refine va_callv (va_runV (As := [.ref (zz 1)]) (rest := []) ⟨hx, hb, hml, hown, hts⟩ (t_copyFrom l D dA E (z 1) (z 2) (zz 1) (zz 2) 30 tS kS s.heap.size  (by decide)) (cwV 1 hts (ga_V q252 q253 q250 q204 q251) rfl rfl rfl (by decide +kernel) ⟨(Nat.le_of_ble_eq_true rfl), (Nat.le_of_ble_eq_true rfl)⟩) ⟨pb_blind, va_recv hK hPc (ci := 5) (q0 := 0) rfl rfl, pb_pre hK hPc hDc hZ hS hFc _⟩ rfl rfl hl.1 rfl (lv_room (Nat.le_of_ble_eq_true rfl)) dX4_takeOver_8 ⟨(Nat.le_of_ble_eq_true rfl), (Nat.le_of_ble_eq_true rfl)⟩) hS (fun q _ h => hFc q h) hFc (fun u t H1 locs ht hvm hw hB hz1 hk1 hS => ?_)
  refine W.widen (k := 0) (n := 0) (Nat.le_of_ble_eq_true rfl) (Nat.le_of_ble_eq_true rfl) ?_
  obtain ⟨u1, rfl⟩ : ∃ z, z = u := ⟨_, rfl⟩
  have hw2 := hw
  clear hw
  obtain ⟨hP1, hD1⟩ := hB
  rw [ht] at hP1
  obtain ⟨hP, hD⟩ := va_join (wr := [(z 0, .inr (7, [.ref (z 1), .ref (z 3), .int (nI nd), .int (nI nsg)])), (z 3, .inr (5, [.ref (z 4)])), (z 4, .inl (dA 0, 30, .inl tG)), (zz 0, .inr (7, [.ref (zz 1), .ref (zz 3), .int (nI kd), .int (nI ksg)])), (zz 3, .inr (5, [.ref (zz 4)])), (zz 4, .inl (dA 0, 30, .inl kG))]) (w1 := [(z 1, .inr (5, [.ref (z 2)])), (z 2, .inl (dA 0, 30, .inl (fl kS tS 30))), (zz 1, .inr (5, [.ref (zz 2)])), (zz 2, .inl (dA 0, 30, .inl kS))]) hP hD [1, 2, 6, 7] [0, 3, 4, 5, 8, 9] rfl rfl (by decide) (by decide) hk1 hFc hP1 hD1
  generalize H1 = H at hP hS ⊢
  have hP : va_P D vwCl [(z 0, .inr (7, [.ref (z 1), .ref (z 3), .int (nI nd), .int (nI nsg)])), (z 3, .inr (5, [.ref (z 4)])), (z 4, .inl (dA 0, 30, .inl tG)), (zz 0, .inr (7, [.ref (zz 1), .ref (zz 3), .int (nI kd), .int (nI ksg)])), (zz 3, .inr (5, [.ref (zz 4)])), (zz 4, .inl (dA 0, 30, .inl kG)), (z 1, .inr (5, [.ref (z 2)])), (z 2, .inl (dA 0, 30, .inl (fl kS tS 30))), (zz 1, .inr (5, [.ref (zz 2)])), (zz 2, .inl (dA 0, 30, .inl kS))] H := hP
  have hD : va_D A [(z 0, .inr (7, [.ref (z 1), .ref (z 3), .int (nI nd), .int (nI nsg)])), (z 3, .inr (5, [.ref (z 4)])), (z 4, .inl (dA 0, 30, .inl tG)), (zz 0, .inr (7, [.ref (zz 1), .ref (zz 3), .int (nI kd), .int (nI ksg)])), (zz 3, .inr (5, [.ref (zz 4)])), (zz 4, .inl (dA 0, 30, .inl kG)), (z 1, .inr (5, [.ref (z 2)])), (z 2, .inl (dA 0, 30, .inl (fl kS tS 30))), (zz 1, .inr (5, [.ref (zz 2)])), (zz 2, .inl (dA 0, 30, .inl kS))] := hD
  refine lv_aload_n hx hb dX4_takeOver_11 rfl (lv_at hl 0 rfl) ?_
  refine va_get (D := D) (ci := 7) (v := .ref (z 3)) (C := RX4) (T := TX4) (N := 4) hx hb hts inAX4 hown hK hP 0 rfl rfl 1 (by decide) (hts _ q244) (fun _ h9 => h9) rfl dX4_takeOver_12 ?_
  refine lv_aload_n hx hb dX4_takeOver_15 rfl (lv_at hl 1 rfl) ?_
  refine va_get (D := D) (ci := 7) (v := .ref (zz 3)) (C := RX4) (T := TX4) (N := 4) hx hb hts inAX4 hown hK hP 3 rfl rfl 1 (by decide) (hts _ q244) (fun _ h9 => h9) rfl dX4_takeOver_16 ?_
  have hPc := hP.sub (ws' := [(z 3, .inr (5, [.ref (z 4)])), (z 4, .inl (dA 0, 30, .inl tG)), (zz 3, .inr (5, [.ref (zz 4)])), (zz 4, .inl (dA 0, 30, .inl kG))]) [1, 2, 4, 5] rfl
  have hDc := hD.sub (ws' := [(z 3, .inr (5, [.ref (z 4)])), (z 4, .inl (dA 0, 30, .inl tG)), (zz 3, .inr (5, [.ref (zz 4)])), (zz 4, .inl (dA 0, 30, .inl kG))]) [1, 2, 4, 5] (by decide) rfl
  have hFc := va_free (wc := [(z 3, .inr (5, [.ref (z 4)])), (z 4, .inl (dA 0, 30, .inl tG)), (zz 3, .inr (5, [.ref (zz 4)])), (zz 4, .inl (dA 0, 30, .inl kG))]) hD hS hA [1, 2, 4, 5] rfl
  refine va_callv (va_runV (As := [.ref (zz 3)]) (rest := []) ⟨hx, hb, hml, hown, hts⟩ (t_copyFrom l D dA E (z 3) (z 4) (zz 3) (zz 4) 30 tG kG H.size  (by decide)) (cwV 1 hts (ga_V q252 q253 q250 q204 q251) rfl rfl rfl (by decide +kernel) ⟨(Nat.le_of_ble_eq_true rfl), (Nat.le_of_ble_eq_true rfl)⟩) ⟨pb_blind, va_recv hK hPc (ci := 5) (q0 := 0) rfl rfl, pb_pre hK hPc hDc hZ hS hFc _⟩ rfl rfl hl.1 rfl (lv_room (Nat.le_of_ble_eq_true rfl)) dX4_takeOver_19 ⟨(Nat.le_of_ble_eq_true rfl), (Nat.le_of_ble_eq_true rfl)⟩) hS (fun q _ h => hFc q h) hFc (fun u t H1 locs ht hvm hw hB hz1 hk1 hS => ?_)
  refine W.widen (k := 0) (n := 0) (Nat.le_of_ble_eq_true rfl) (Nat.le_of_ble_eq_true rfl) ?_
  obtain ⟨u3, rfl⟩ : ∃ z, z = u := ⟨_, rfl⟩
  have hw4 := hw
  clear hw
  obtain ⟨hP1, hD1⟩ := hB
  rw [ht] at hP1
  obtain ⟨hP, hD⟩ := va_join (wr := [(z 0, .inr (7, [.ref (z 1), .ref (z 3), .int (nI nd), .int (nI nsg)])), (zz 0, .inr (7, [.ref (zz 1), .ref (zz 3), .int (nI kd), .int (nI ksg)])), (z 1, .inr (5, [.ref (z 2)])), (z 2, .inl (dA 0, 30, .inl (fl kS tS 30))), (zz 1, .inr (5, [.ref (zz 2)])), (zz 2, .inl (dA 0, 30, .inl kS))]) (w1 := [(z 3, .inr (5, [.ref (z 4)])), (z 4, .inl (dA 0, 30, .inl (fl kG tG 30))), (zz 3, .inr (5, [.ref (zz 4)])), (zz 4, .inl (dA 0, 30, .inl kG))]) hP hD [1, 2, 4, 5] [0, 3, 6, 7, 8, 9] rfl rfl (by decide) (by decide) hk1 hFc hP1 hD1
  generalize H1 = H at hP hS ⊢
  have hP : va_P D vwCl [(z 0, .inr (7, [.ref (z 1), .ref (z 3), .int (nI nd), .int (nI nsg)])), (zz 0, .inr (7, [.ref (zz 1), .ref (zz 3), .int (nI kd), .int (nI ksg)])), (z 1, .inr (5, [.ref (z 2)])), (z 2, .inl (dA 0, 30, .inl (fl kS tS 30))), (zz 1, .inr (5, [.ref (zz 2)])), (zz 2, .inl (dA 0, 30, .inl kS)), (z 3, .inr (5, [.ref (z 4)])), (z 4, .inl (dA 0, 30, .inl (fl kG tG 30))), (zz 3, .inr (5, [.ref (zz 4)])), (zz 4, .inl (dA 0, 30, .inl kG))] H := hP
  have hD : va_D A [(z 0, .inr (7, [.ref (z 1), .ref (z 3), .int (nI nd), .int (nI nsg)])), (zz 0, .inr (7, [.ref (zz 1), .ref (zz 3), .int (nI kd), .int (nI ksg)])), (z 1, .inr (5, [.ref (z 2)])), (z 2, .inl (dA 0, 30, .inl (fl kS tS 30))), (zz 1, .inr (5, [.ref (zz 2)])), (zz 2, .inl (dA 0, 30, .inl kS)), (z 3, .inr (5, [.ref (z 4)])), (z 4, .inl (dA 0, 30, .inl (fl kG tG 30))), (zz 3, .inr (5, [.ref (zz 4)])), (zz 4, .inl (dA 0, 30, .inl kG))] := hD
  refine lv_aload_n hx hb dX4_takeOver_22 rfl (lv_at hl 0 rfl) ?_
  refine lv_aload_n hx hb dX4_takeOver_23 rfl (lv_at hl 1 rfl) ?_
  refine va_get (D := D) (ci := 7) (v := .int (nI kd)) (C := RX4) (T := TX4) (N := 4) hx hb hts inAX4 hown hK hP 1 rfl rfl 2 (by decide) (hts _ q243) (fun _ h9 => h9) rfl dX4_takeOver_24 ?_
  refine va_put (D := D) (ci := 7) (v := .int (nI kd)) (ty := .int) (C := RX4) (T := TX4) (N := 4) hx hb hts inAX4 tyX4 tyX4_ok nmX4 hown hK hP hD hS 0 rfl rfl 2 (by decide) (hts _ q243) (fun _ h9 => h9) rfl (tyX4_ok 2 (by decide)) rfl rfl (Nat.le_of_ble_eq_true rfl) dX4_takeOver_27 (fun H locs hP hD hS => ?_)
  have hP : va_P D vwCl [(z 0, .inr (7, [.ref (z 1), .ref (z 3), .int (nI kd), .int (nI nsg)])), (zz 0, .inr (7, [.ref (zz 1), .ref (zz 3), .int (nI kd), .int (nI ksg)])), (z 1, .inr (5, [.ref (z 2)])), (z 2, .inl (dA 0, 30, .inl (fl kS tS 30))), (zz 1, .inr (5, [.ref (zz 2)])), (zz 2, .inl (dA 0, 30, .inl kS)), (z 3, .inr (5, [.ref (z 4)])), (z 4, .inl (dA 0, 30, .inl (fl kG tG 30))), (zz 3, .inr (5, [.ref (zz 4)])), (zz 4, .inl (dA 0, 30, .inl kG))] H := hP
  have hD : va_D A [(z 0, .inr (7, [.ref (z 1), .ref (z 3), .int (nI kd), .int (nI nsg)])), (zz 0, .inr (7, [.ref (zz 1), .ref (zz 3), .int (nI kd), .int (nI ksg)])), (z 1, .inr (5, [.ref (z 2)])), (z 2, .inl (dA 0, 30, .inl (fl kS tS 30))), (zz 1, .inr (5, [.ref (zz 2)])), (zz 2, .inl (dA 0, 30, .inl kS)), (z 3, .inr (5, [.ref (z 4)])), (z 4, .inl (dA 0, 30, .inl (fl kG tG 30))), (zz 3, .inr (5, [.ref (zz 4)])), (zz 4, .inl (dA 0, 30, .inl kG))] := hD
  refine lv_aload_n hx hb dX4_takeOver_30 rfl (lv_at hl 0 rfl) ?_
  refine lv_aload_n hx hb dX4_takeOver_31 rfl (lv_at hl 1 rfl) ?_
  refine va_get (D := D) (ci := 7) (v := .int (nI ksg)) (C := RX4) (T := TX4) (N := 4) hx hb hts inAX4 hown hK hP 1 rfl rfl 3 (by decide) (hts _ q245) (fun _ h9 => h9) rfl dX4_takeOver_32 ?_
  refine va_put (D := D) (ci := 7) (v := .int (nI ksg)) (ty := .int) (C := RX4) (T := TX4) (N := 4) hx hb hts inAX4 tyX4 tyX4_ok nmX4 hown hK hP hD hS 0 rfl rfl 3 (by decide) (hts _ q245) (fun _ h9 => h9) rfl (tyX4_ok 3 (by decide)) rfl rfl (Nat.le_of_ble_eq_true rfl) dX4_takeOver_35 (fun H locs hP hD hS => ?_)
  have hP : va_P D vwCl [(z 0, .inr (7, [.ref (z 1), .ref (z 3), .int (nI kd), .int (nI ksg)])), (zz 0, .inr (7, [.ref (zz 1), .ref (zz 3), .int (nI kd), .int (nI ksg)])), (z 1, .inr (5, [.ref (z 2)])), (z 2, .inl (dA 0, 30, .inl (fl kS tS 30))), (zz 1, .inr (5, [.ref (zz 2)])), (zz 2, .inl (dA 0, 30, .inl kS)), (z 3, .inr (5, [.ref (z 4)])), (z 4, .inl (dA 0, 30, .inl (fl kG tG 30))), (zz 3, .inr (5, [.ref (zz 4)])), (zz 4, .inl (dA 0, 30, .inl kG))] H := hP
  have hD : va_D A [(z 0, .inr (7, [.ref (z 1), .ref (z 3), .int (nI kd), .int (nI ksg)])), (zz 0, .inr (7, [.ref (zz 1), .ref (zz 3), .int (nI kd), .int (nI ksg)])), (z 1, .inr (5, [.ref (z 2)])), (z 2, .inl (dA 0, 30, .inl (fl kS tS 30))), (zz 1, .inr (5, [.ref (zz 2)])), (zz 2, .inl (dA 0, 30, .inl kS)), (z 3, .inr (5, [.ref (z 4)])), (z 4, .inl (dA 0, 30, .inl (fl kG tG 30))), (zz 3, .inr (5, [.ref (zz 4)])), (zz 4, .inl (dA 0, 30, .inl kG))] := hD
  refine W.widen (k := 0) (n := 0) (Nat.le_of_ble_eq_true rfl) (Nat.le_of_ble_eq_true rfl) ?_
  have hP9 := hP.sub (ws' := [(z 0, .inr (7, [.ref (z 1), .ref (z 3), .int (nI kd), .int (nI ksg)])), (z 1, .inr (5, [.ref (z 2)])), (z 2, .inl (dA 0, 30, .inl (fl kS tS 30))), (z 3, .inr (5, [.ref (z 4)])), (z 4, .inl (dA 0, 30, .inl (fl kG tG 30))), (zz 0, .inr (7, [.ref (zz 1), .ref (zz 3), .int (nI kd), .int (nI ksg)])), (zz 1, .inr (5, [.ref (zz 2)])), (zz 2, .inl (dA 0, 30, .inl kS)), (zz 3, .inr (5, [.ref (zz 4)])), (zz 4, .inl (dA 0, 30, .inl kG))]) [0, 2, 3, 6, 7, 1, 4, 5, 8, 9] rfl
  have hD9 := hD.sub (ws' := [(z 0, .inr (7, [.ref (z 1), .ref (z 3), .int (nI kd), .int (nI ksg)])), (z 1, .inr (5, [.ref (z 2)])), (z 2, .inl (dA 0, 30, .inl (fl kS tS 30))), (z 3, .inr (5, [.ref (z 4)])), (z 4, .inl (dA 0, 30, .inl (fl kG tG 30))), (zz 0, .inr (7, [.ref (zz 1), .ref (zz 3), .int (nI kd), .int (nI ksg)])), (zz 1, .inr (5, [.ref (zz 2)])), (zz 2, .inl (dA 0, 30, .inl kS)), (zz 3, .inr (5, [.ref (zz 4)])), (zz 4, .inl (dA 0, 30, .inl kG))]) [0, 2, 3, 6, 7, 1, 4, 5, 8, 9] (by decide) rfl
  exact W.vret hx hb hr (fun t ht hW => ⟨⟨(), rfl, trivial, ⟨by rw [ht]; exact hP9, hD9⟩⟩, hS.F ht⟩) hS.2.2 dX4_takeOver_38

set_option maxHeartbeats 4000000 in
set_option maxRecDepth 100000 in
theorem s_goBackTo (l : Launch) (D : va_G) (dA : Nat → ClassId) (E : Nat) (z : Nat → Nat) (tS tG : Nat → Int32) (nd nsg : Nat) (zz : Nat → Nat) (kS kG : Nat → Int32) (kd ksg : Nat) (sz : Nat) (hnd : nd ≤ 30) (hnsg : nsg ≤ 1000) (hkd : kd ≤ 30) (hksg : ksg ≤ 1000) (hAC : AC tS) (hAK : AC kS)  : Met l yX4_goBackTo (wq (.code yX4_goBackTo cX4_goBackTo 6 (some .int))) { frames := 3, cells := 0, slots := 0, locals := 63 } (va_Pc [.ref (z 0), .ref (zz 0)] (PcB D dA E [(z 0, .inr (7, [.ref (z 1), .ref (z 3), .int (nI nd), .int (nI nsg)])), (z 1, .inr (5, [.ref (z 2)])), (z 2, .inl (dA 0, 30, .inl tS)), (z 3, .inr (5, [.ref (z 4)])), (z 4, .inl (dA 0, 30, .inl tG)), (zz 0, .inr (7, [.ref (zz 1), .ref (zz 3), .int (nI kd), .int (nI ksg)])), (zz 1, .inr (5, [.ref (zz 2)])), (zz 2, .inl (dA 0, 30, .inl kS)), (zz 3, .inr (5, [.ref (zz 4)])), (zz 4, .inl (dA 0, 30, .inl kG))] sz)) (va_Qi (fun (r : Int32) (u : Unit) => r = nI (cn (crB kd kS tS) nd)) (fun u t => va_P D vwCl [(z 0, .inr (7, [.ref (z 1), .ref (z 3), .int (nI nd), .int (nI ksg)])), (z 1, .inr (5, [.ref (z 2)])), (z 2, .inl (dA 0, 30, .inl (fl (crF kd kS 108) tS nd))), (z 3, .inr (5, [.ref (z 4)])), (z 4, .inl (dA 0, 30, .inl (fl (crF kd kG (-1)) tG nd))), (zz 0, .inr (7, [.ref (zz 1), .ref (zz 3), .int (nI kd), .int (nI ksg)])), (zz 1, .inr (5, [.ref (zz 2)])), (zz 2, .inl (dA 0, 30, .inl kS)), (zz 3, .inr (5, [.ref (zz 4)])), (zz 4, .inl (dA 0, 30, .inl kG))] t.heap ∧ va_D (va_A [(z 0, .inr (7, [.ref (z 1), .ref (z 3), .int (nI nd), .int (nI nsg)])), (z 1, .inr (5, [.ref (z 2)])), (z 2, .inl (dA 0, 30, .inl tS)), (z 3, .inr (5, [.ref (z 4)])), (z 4, .inl (dA 0, 30, .inl tG)), (zz 0, .inr (7, [.ref (zz 1), .ref (zz 3), .int (nI kd), .int (nI ksg)])), (zz 1, .inr (5, [.ref (zz 2)])), (zz 2, .inl (dA 0, 30, .inl kS)), (zz 3, .inr (5, [.ref (zz 4)])), (zz 4, .inl (dA 0, 30, .inl kG))] sz) [(z 0, .inr (7, [.ref (z 1), .ref (z 3), .int (nI nd), .int (nI ksg)])), (z 1, .inr (5, [.ref (z 2)])), (z 2, .inl (dA 0, 30, .inl (fl (crF kd kS 108) tS nd))), (z 3, .inr (5, [.ref (z 4)])), (z 4, .inl (dA 0, 30, .inl (fl (crF kd kG (-1)) tG nd))), (zz 0, .inr (7, [.ref (zz 1), .ref (zz 3), .int (nI kd), .int (nI ksg)])), (zz 1, .inr (5, [.ref (zz 2)])), (zz 2, .inl (dA 0, 30, .inl kS)), (zz 3, .inr (5, [.ref (zz 4)])), (zz 4, .inl (dA 0, 30, .inl kG))]) (va_A [(z 0, .inr (7, [.ref (z 1), .ref (z 3), .int (nI nd), .int (nI nsg)])), (z 1, .inr (5, [.ref (z 2)])), (z 2, .inl (dA 0, 30, .inl tS)), (z 3, .inr (5, [.ref (z 4)])), (z 4, .inl (dA 0, 30, .inl tG)), (zz 0, .inr (7, [.ref (zz 1), .ref (zz 3), .int (nI kd), .int (nI ksg)])), (zz 1, .inr (5, [.ref (zz 2)])), (zz 2, .inl (dA 0, 30, .inl kS)), (zz 3, .inr (5, [.ref (zz 4)])), (zz 4, .inl (dA 0, 30, .inl kG))] sz)) 0 0 (va_A [(z 0, .inr (7, [.ref (z 1), .ref (z 3), .int (nI nd), .int (nI nsg)])), (z 1, .inr (5, [.ref (z 2)])), (z 2, .inl (dA 0, 30, .inl tS)), (z 3, .inr (5, [.ref (z 4)])), (z 4, .inl (dA 0, 30, .inl tG)), (zz 0, .inr (7, [.ref (zz 1), .ref (zz 3), .int (nI kd), .int (nI ksg)])), (zz 1, .inr (5, [.ref (zz 2)])), (zz 2, .inl (dA 0, 30, .inl kS)), (zz 3, .inr (5, [.ref (zz 4)])), (zz 4, .inl (dA 0, 30, .inl kG))] sz) := by
  refine mb_of (Qc := fun A => va_Qi (fun (r : Int32) (u : Unit) => r = nI (cn (crB kd kS tS) nd)) (fun u t => va_P D vwCl [(z 0, .inr (7, [.ref (z 1), .ref (z 3), .int (nI nd), .int (nI ksg)])), (z 1, .inr (5, [.ref (z 2)])), (z 2, .inl (dA 0, 30, .inl (fl (crF kd kS 108) tS nd))), (z 3, .inr (5, [.ref (z 4)])), (z 4, .inl (dA 0, 30, .inl (fl (crF kd kG (-1)) tG nd))), (zz 0, .inr (7, [.ref (zz 1), .ref (zz 3), .int (nI kd), .int (nI ksg)])), (zz 1, .inr (5, [.ref (zz 2)])), (zz 2, .inl (dA 0, 30, .inl kS)), (zz 3, .inr (5, [.ref (zz 4)])), (zz 4, .inl (dA 0, 30, .inl kG))] t.heap ∧ va_D A [(z 0, .inr (7, [.ref (z 1), .ref (z 3), .int (nI nd), .int (nI ksg)])), (z 1, .inr (5, [.ref (z 2)])), (z 2, .inl (dA 0, 30, .inl (fl (crF kd kS 108) tS nd))), (z 3, .inr (5, [.ref (z 4)])), (z 4, .inl (dA 0, 30, .inl (fl (crF kd kG (-1)) tG nd))), (zz 0, .inr (7, [.ref (zz 1), .ref (zz 3), .int (nI kd), .int (nI ksg)])), (zz 1, .inr (5, [.ref (zz 2)])), (zz 2, .inl (dA 0, 30, .inl kS)), (zz 3, .inr (5, [.ref (zz 4)])), (zz 4, .inl (dA 0, 30, .inl kG))]) A) RX4 rfl (by decide) (Nat.le_of_ble_eq_true rfl) ?_
  intro p e s m args below meth c hae hx hb hr hts hown hlocks hml hnm hP hK A hAe hD hZ hS hA ls hl
  have hl : lv_has ls 6 [(0, .ref (z 0)), (1, .ref (zz 0))] := hl
  refine lv_iconst (v := 0) hx hb dX4_goBackTo_0 (by decide) ?_
  refine lv_istore_n (lv' := [(2, .int 0), (0, .ref (z 0)), (1, .ref (zz 0))]) hx hb dX4_goBackTo_1 rfl hl (by decide) rfl (fun ls hl => ?_)
  refine lv_iconst (v := 0) hx hb dX4_goBackTo_2 (by decide) ?_
  refine lv_istore_n (lv' := [(3, .int 0), (2, .int 0), (0, .ref (z 0)), (1, .ref (zz 0))]) hx hb dX4_goBackTo_3 rfl hl (by decide) rfl (fun ls hl => ?_)
  have K4 : ∀ (k4 i4 : Nat) (g4_0 : Nat → Int32) (g4_1 : Nat → Int32) (g4_2 : Int32), 0 ≤ i4 → i4 ≤ nd → nd < i4 + k4 → (g4_0 = fl (crF kd kS 108) tS i4) ∧ (g4_1 = fl (crF kd kG (-1)) tG i4) ∧ (g4_2 = nI (cn (crB kd kS tS) i4)) → ∀ (H : Heap) (locs : List Loc), va_P D vwCl [(z 0, .inr (7, [.ref (z 1), .ref (z 3), .int (nI nd), .int (nI nsg)])), (z 1, .inr (5, [.ref (z 2)])), (z 2, .inl (dA 0, 30, .inl g4_0)), (z 3, .inr (5, [.ref (z 4)])), (z 4, .inl (dA 0, 30, .inl g4_1)), (zz 0, .inr (7, [.ref (zz 1), .ref (zz 3), .int (nI kd), .int (nI ksg)])), (zz 1, .inr (5, [.ref (zz 2)])), (zz 2, .inl (dA 0, 30, .inl kS)), (zz 3, .inr (5, [.ref (zz 4)])), (zz 4, .inl (dA 0, 30, .inl kG))] H → va_D A [(z 0, .inr (7, [.ref (z 1), .ref (z 3), .int (nI nd), .int (nI nsg)])), (z 1, .inr (5, [.ref (z 2)])), (z 2, .inl (dA 0, 30, .inl g4_0)), (z 3, .inr (5, [.ref (z 4)])), (z 4, .inl (dA 0, 30, .inl g4_1)), (zz 0, .inr (7, [.ref (zz 1), .ref (zz 3), .int (nI kd), .int (nI ksg)])), (zz 1, .inr (5, [.ref (zz 2)])), (zz 2, .inl (dA 0, 30, .inl kS)), (zz 3, .inr (5, [.ref (zz 4)])), (zz 4, .inl (dA 0, 30, .inl kG))] → va_S A s.heap H locs → ∀ ls : Array Slot, lv_has ls 6 [(3, .int (nI i4)), (2, .int g4_2), (0, .ref (z 0)), (1, .ref (zz 0))] → W p l e { frames := 3, cells := 0, slots := 0, locals := 63 } s m args below meth c H locs 0 0 (MQ below (va_Qi (fun (r : Int32) (u : Unit) => r = nI (cn (crB kd kS tS) nd)) (fun u t => va_P D vwCl [(z 0, .inr (7, [.ref (z 1), .ref (z 3), .int (nI nd), .int (nI ksg)])), (z 1, .inr (5, [.ref (z 2)])), (z 2, .inl (dA 0, 30, .inl (fl (crF kd kS 108) tS nd))), (z 3, .inr (5, [.ref (z 4)])), (z 4, .inl (dA 0, 30, .inl (fl (crF kd kG (-1)) tG nd))), (zz 0, .inr (7, [.ref (zz 1), .ref (zz 3), .int (nI kd), .int (nI ksg)])), (zz 1, .inr (5, [.ref (zz 2)])), (zz 2, .inl (dA 0, 30, .inl kS)), (zz 3, .inr (5, [.ref (zz 4)])), (zz 4, .inl (dA 0, 30, .inl kG))] t.heap ∧ va_D A [(z 0, .inr (7, [.ref (z 1), .ref (z 3), .int (nI nd), .int (nI ksg)])), (z 1, .inr (5, [.ref (z 2)])), (z 2, .inl (dA 0, 30, .inl (fl (crF kd kS 108) tS nd))), (z 3, .inr (5, [.ref (z 4)])), (z 4, .inl (dA 0, 30, .inl (fl (crF kd kG (-1)) tG nd))), (zz 0, .inr (7, [.ref (zz 1), .ref (zz 3), .int (nI kd), .int (nI ksg)])), (zz 1, .inr (5, [.ref (zz 2)])), (zz 2, .inl (dA 0, 30, .inl kS)), (zz 3, .inr (5, [.ref (zz 4)])), (zz 4, .inl (dA 0, 30, .inl kG))]) A) args s 0 0 A) (F0 m 4 ls []) := by
    intro k4
    induction k4 with
    | zero => intro i4 g4_0 g4_1 g4_2 h1 h2 h3; exact absurd h3 (by omega)
    | succ k4 ih4 =>
      intro i4 g4_0 g4_1 g4_2 hlo4 hhi4 hms4 hinv4 H locs hP hD hS ls hl
      obtain ⟨eg4_0, eg4_1, eg4_2⟩ := hinv4
      subst eg4_0
      subst eg4_1
      subst eg4_2
      have hcn := cn_le (crB kd kS tS) i4
      refine lv_iload_n hx hb dX4_goBackTo_4 rfl (lv_at hl 0 rfl) ?_
      refine lv_aload_n hx hb dX4_goBackTo_5 rfl (lv_at hl 2 rfl) ?_
      refine va_get (D := D) (ci := 7) (v := .int (nI nd)) (C := RX4) (T := TX4) (N := 4) hx hb hts inAX4 hown hK hP 0 rfl rfl 2 (by decide) (hts _ q243) (fun _ h9 => h9) rfl dX4_goBackTo_6 ?_
      refine lv_icmp_ge (tgt := 101) hx hb dX4_goBackTo_9 (by decide) (fun c1 => ?_) (fun c1 => ?_)
      · replace c1 := (nI_leI (a := nd) (b := i4) (by omega) (by omega)).mp c1
        obtain rfl : nd = i4 := (by omega)
        have hP : va_P D vwCl [(z 0, .inr (7, [.ref (z 1), .ref (z 3), .int (nI nd), .int (nI nsg)])), (z 1, .inr (5, [.ref (z 2)])), (z 2, .inl (dA 0, 30, .inl (fl (crF kd kS 108) tS nd))), (z 3, .inr (5, [.ref (z 4)])), (z 4, .inl (dA 0, 30, .inl (fl (crF kd kG (-1)) tG nd))), (zz 0, .inr (7, [.ref (zz 1), .ref (zz 3), .int (nI kd), .int (nI ksg)])), (zz 1, .inr (5, [.ref (zz 2)])), (zz 2, .inl (dA 0, 30, .inl kS)), (zz 3, .inr (5, [.ref (zz 4)])), (zz 4, .inl (dA 0, 30, .inl kG))] H := hP
        have hD : va_D A [(z 0, .inr (7, [.ref (z 1), .ref (z 3), .int (nI nd), .int (nI nsg)])), (z 1, .inr (5, [.ref (z 2)])), (z 2, .inl (dA 0, 30, .inl (fl (crF kd kS 108) tS nd))), (z 3, .inr (5, [.ref (z 4)])), (z 4, .inl (dA 0, 30, .inl (fl (crF kd kG (-1)) tG nd))), (zz 0, .inr (7, [.ref (zz 1), .ref (zz 3), .int (nI kd), .int (nI ksg)])), (zz 1, .inr (5, [.ref (zz 2)])), (zz 2, .inl (dA 0, 30, .inl kS)), (zz 3, .inr (5, [.ref (zz 4)])), (zz 4, .inl (dA 0, 30, .inl kG))] := hD
        refine lv_aload_n hx hb dX4_goBackTo_101 rfl (lv_at hl 2 rfl) ?_
        refine lv_aload_n hx hb dX4_goBackTo_102 rfl (lv_at hl 3 rfl) ?_
        refine va_get (D := D) (ci := 7) (v := .int (nI ksg)) (C := RX4) (T := TX4) (N := 4) hx hb hts inAX4 hown hK hP 5 rfl rfl 3 (by decide) (hts _ q245) (fun _ h9 => h9) rfl dX4_goBackTo_103 ?_
        refine va_put (D := D) (ci := 7) (v := .int (nI ksg)) (ty := .int) (C := RX4) (T := TX4) (N := 4) hx hb hts inAX4 tyX4 tyX4_ok nmX4 hown hK hP hD hS 0 rfl rfl 3 (by decide) (hts _ q245) (fun _ h9 => h9) rfl (tyX4_ok 3 (by decide)) rfl rfl (Nat.le_of_ble_eq_true rfl) dX4_goBackTo_106 (fun H locs hP hD hS => ?_)
        have hP : va_P D vwCl [(z 0, .inr (7, [.ref (z 1), .ref (z 3), .int (nI nd), .int (nI ksg)])), (z 1, .inr (5, [.ref (z 2)])), (z 2, .inl (dA 0, 30, .inl (fl (crF kd kS 108) tS nd))), (z 3, .inr (5, [.ref (z 4)])), (z 4, .inl (dA 0, 30, .inl (fl (crF kd kG (-1)) tG nd))), (zz 0, .inr (7, [.ref (zz 1), .ref (zz 3), .int (nI kd), .int (nI ksg)])), (zz 1, .inr (5, [.ref (zz 2)])), (zz 2, .inl (dA 0, 30, .inl kS)), (zz 3, .inr (5, [.ref (zz 4)])), (zz 4, .inl (dA 0, 30, .inl kG))] H := hP
        have hD : va_D A [(z 0, .inr (7, [.ref (z 1), .ref (z 3), .int (nI nd), .int (nI ksg)])), (z 1, .inr (5, [.ref (z 2)])), (z 2, .inl (dA 0, 30, .inl (fl (crF kd kS 108) tS nd))), (z 3, .inr (5, [.ref (z 4)])), (z 4, .inl (dA 0, 30, .inl (fl (crF kd kG (-1)) tG nd))), (zz 0, .inr (7, [.ref (zz 1), .ref (zz 3), .int (nI kd), .int (nI ksg)])), (zz 1, .inr (5, [.ref (zz 2)])), (zz 2, .inl (dA 0, 30, .inl kS)), (zz 3, .inr (5, [.ref (zz 4)])), (zz 4, .inl (dA 0, 30, .inl kG))] := hD
        refine lv_iload_n hx hb dX4_goBackTo_109 rfl (lv_at hl 1 rfl) ?_
        refine W.widen (k := 0) (n := 0) (Nat.le_of_ble_eq_true rfl) (Nat.le_of_ble_eq_true rfl) ?_
        have hP9 := hP.sub (ws' := [(z 0, .inr (7, [.ref (z 1), .ref (z 3), .int (nI nd), .int (nI ksg)])), (z 1, .inr (5, [.ref (z 2)])), (z 2, .inl (dA 0, 30, .inl (fl (crF kd kS 108) tS nd))), (z 3, .inr (5, [.ref (z 4)])), (z 4, .inl (dA 0, 30, .inl (fl (crF kd kG (-1)) tG nd))), (zz 0, .inr (7, [.ref (zz 1), .ref (zz 3), .int (nI kd), .int (nI ksg)])), (zz 1, .inr (5, [.ref (zz 2)])), (zz 2, .inl (dA 0, 30, .inl kS)), (zz 3, .inr (5, [.ref (zz 4)])), (zz 4, .inl (dA 0, 30, .inl kG))]) [0, 1, 2, 3, 4, 5, 6, 7, 8, 9] rfl
        have hD9 := hD.sub (ws' := [(z 0, .inr (7, [.ref (z 1), .ref (z 3), .int (nI nd), .int (nI ksg)])), (z 1, .inr (5, [.ref (z 2)])), (z 2, .inl (dA 0, 30, .inl (fl (crF kd kS 108) tS nd))), (z 3, .inr (5, [.ref (z 4)])), (z 4, .inl (dA 0, 30, .inl (fl (crF kd kG (-1)) tG nd))), (zz 0, .inr (7, [.ref (zz 1), .ref (zz 3), .int (nI kd), .int (nI ksg)])), (zz 1, .inr (5, [.ref (zz 2)])), (zz 2, .inl (dA 0, 30, .inl kS)), (zz 3, .inr (5, [.ref (zz 4)])), (zz 4, .inl (dA 0, 30, .inl kG))]) [0, 1, 2, 3, 4, 5, 6, 7, 8, 9] (by decide) rfl
        exact W.iret (v := (nI (cn (crB kd kS tS) nd))) hx hb hr (fun t ht hW => ⟨⟨(nI (cn (crB kd kS tS) nd)), (), rfl, rfl, ⟨by rw [ht]; exact hP9, hD9⟩⟩, hS.F ht⟩) hS.2.2 dX4_goBackTo_110
      · replace c1 := mt (nI_leI (a := nd) (b := i4) (by omega) (by omega)).mpr c1
        refine lv_aload_n hx hb dX4_goBackTo_12 rfl (lv_at hl 2 rfl) ?_
        refine lv_iload_n hx hb dX4_goBackTo_13 rfl (lv_at hl 0 rfl) ?_
        have hPc := hP.sub (ws' := [(z 0, .inr (7, [.ref (z 1), .ref (z 3), .int (nI nd), .int (nI nsg)])), (z 1, .inr (5, [.ref (z 2)])), (z 2, .inl (dA 0, 30, .inl (fl (crF kd kS 108) tS i4))), (z 3, .inr (5, [.ref (z 4)])), (z 4, .inl (dA 0, 30, .inl (fl (crF kd kG (-1)) tG i4)))]) [0, 1, 2, 3, 4] rfl
        have hDc := hD.sub (ws' := [(z 0, .inr (7, [.ref (z 1), .ref (z 3), .int (nI nd), .int (nI nsg)])), (z 1, .inr (5, [.ref (z 2)])), (z 2, .inl (dA 0, 30, .inl (fl (crF kd kS 108) tS i4))), (z 3, .inr (5, [.ref (z 4)])), (z 4, .inl (dA 0, 30, .inl (fl (crF kd kG (-1)) tG i4)))]) [0, 1, 2, 3, 4] (by decide) rfl
        have hFc := va_free (wc := [(z 0, .inr (7, [.ref (z 1), .ref (z 3), .int (nI nd), .int (nI nsg)])), (z 1, .inr (5, [.ref (z 2)])), (z 2, .inl (dA 0, 30, .inl (fl (crF kd kS 108) tS i4))), (z 3, .inr (5, [.ref (z 4)])), (z 4, .inl (dA 0, 30, .inl (fl (crF kd kG (-1)) tG i4)))]) hD hS hA [0, 1, 2, 3, 4] rfl
        refine va_calli (va_runV (As := [.int (nI i4)]) (rest := []) ⟨hx, hb, hml, hown, hts⟩ (s_lives l D dA E z (fl (crF kd kS 108) tS i4) (fl (crF kd kG (-1)) tG i4) nd nsg i4 H.size  (by omega) (by omega) (by omega) (AC_fl hAC (AC_cr hAK))) (cwV 1 hts (ga_V q256 q257 q254 q241 q255) rfl rfl rfl (by decide +kernel) ⟨(Nat.le_of_ble_eq_true rfl), (Nat.le_of_ble_eq_true rfl)⟩) ⟨pb_blind, va_recv hK hPc (ci := 7) (q0 := 0) rfl rfl, pb_pre hK hPc hDc hZ hS hFc _⟩ rfl rfl hl.1 rfl (lv_room (Nat.le_of_ble_eq_true rfl)) dX4_goBackTo_14 ⟨(Nat.le_of_ble_eq_true rfl), (Nat.le_of_ble_eq_true rfl)⟩) hS (fun q _ h => hFc q h) hFc (fun r u t H1 locs ht hvm hw hB hz1 hk1 hS => ?_)
        refine W.widen (k := 0) (n := 0) (Nat.le_of_ble_eq_true rfl) (Nat.le_of_ble_eq_true rfl) ?_
        obtain ⟨r2, rfl⟩ : ∃ z, z = r := ⟨_, rfl⟩
        obtain ⟨u3, rfl⟩ : ∃ z, z = u := ⟨_, rfl⟩
        have hw4 := hw
        clear hw
        obtain ⟨hP1, hD1⟩ := hB
        rw [ht] at hP1
        obtain ⟨hP, hD⟩ := va_join (wr := [(zz 0, .inr (7, [.ref (zz 1), .ref (zz 3), .int (nI kd), .int (nI ksg)])), (zz 1, .inr (5, [.ref (zz 2)])), (zz 2, .inl (dA 0, 30, .inl kS)), (zz 3, .inr (5, [.ref (zz 4)])), (zz 4, .inl (dA 0, 30, .inl kG))]) (w1 := [(z 0, .inr (7, [.ref (z 1), .ref (z 3), .int (nI nd), .int (nI nsg)])), (z 1, .inr (5, [.ref (z 2)])), (z 2, .inl (dA 0, 30, .inl (fl (crF kd kS 108) tS i4))), (z 3, .inr (5, [.ref (z 4)])), (z 4, .inl (dA 0, 30, .inl (fl (crF kd kG (-1)) tG i4)))]) hP hD [0, 1, 2, 3, 4] [5, 6, 7, 8, 9] rfl rfl (by decide) (by decide) hk1 hFc hP1 hD1
        generalize H1 = H at hP hS ⊢
        have hP : va_P D vwCl [(zz 0, .inr (7, [.ref (zz 1), .ref (zz 3), .int (nI kd), .int (nI ksg)])), (zz 1, .inr (5, [.ref (zz 2)])), (zz 2, .inl (dA 0, 30, .inl kS)), (zz 3, .inr (5, [.ref (zz 4)])), (zz 4, .inl (dA 0, 30, .inl kG)), (z 0, .inr (7, [.ref (z 1), .ref (z 3), .int (nI nd), .int (nI nsg)])), (z 1, .inr (5, [.ref (z 2)])), (z 2, .inl (dA 0, 30, .inl (fl (crF kd kS 108) tS i4))), (z 3, .inr (5, [.ref (z 4)])), (z 4, .inl (dA 0, 30, .inl (fl (crF kd kG (-1)) tG i4)))] H := hP
        have hD : va_D A [(zz 0, .inr (7, [.ref (zz 1), .ref (zz 3), .int (nI kd), .int (nI ksg)])), (zz 1, .inr (5, [.ref (zz 2)])), (zz 2, .inl (dA 0, 30, .inl kS)), (zz 3, .inr (5, [.ref (zz 4)])), (zz 4, .inl (dA 0, 30, .inl kG)), (z 0, .inr (7, [.ref (z 1), .ref (z 3), .int (nI nd), .int (nI nsg)])), (z 1, .inr (5, [.ref (z 2)])), (z 2, .inl (dA 0, 30, .inl (fl (crF kd kS 108) tS i4))), (z 3, .inr (5, [.ref (z 4)])), (z 4, .inl (dA 0, 30, .inl (fl (crF kd kG (-1)) tG i4)))] := hD
        have hth4 : r2 = bI (thB (tS i4)) := hw4.trans (congrArg (fun z9 => bI (thB z9)) (fl_out (Nat.le_refl _)))
        refine bt (b := (thB (tS i4))) ?_ ?_
        · intro hB5
          obtain rfl : r2 = 1 := hth4.trans (by rw [hB5]; rfl)
          refine lv_istore (lv' := [(4, .int 1), (3, .int (nI i4)), (2, .int (nI (cn (crB kd kS tS) i4))), (0, .ref (z 0)), (1, .ref (zz 0))]) hx hb dX4_goBackTo_17 hl (by decide) rfl (fun ls hl => ?_)
          refine lv_iload_n hx hb dX4_goBackTo_19 rfl (lv_at hl 1 rfl) ?_
          refine lv_aload_n hx hb dX4_goBackTo_20 rfl (lv_at hl 4 rfl) ?_
          refine va_get (D := D) (ci := 7) (v := .int (nI kd)) (C := RX4) (T := TX4) (N := 4) hx hb hts inAX4 hown hK hP 0 rfl rfl 2 (by decide) (hts _ q243) (fun _ h9 => h9) rfl dX4_goBackTo_21 ?_
          refine lv_icmp_lt (tgt := 31) hx hb dX4_goBackTo_24 (by decide) (fun c6 => ?_) (fun c6 => ?_)
          · replace c6 := (nI_ltI (a := i4) (b := kd) (by omega) (by omega)).mp c6
            refine lv_iconst (v := 0) hx hb dX4_goBackTo_31 (by decide) ?_
            refine lv_istore (lv' := [(5, .int 0), (4, .int 1), (3, .int (nI i4)), (2, .int (nI (cn (crB kd kS tS) i4))), (0, .ref (z 0)), (1, .ref (zz 0))]) hx hb dX4_goBackTo_32 hl (by decide) rfl (fun ls hl => ?_)
            refine lv_aload_n hx hb dX4_goBackTo_34 rfl (lv_at hl 4 rfl) ?_
            refine va_get (D := D) (ci := 7) (v := .ref (z 1)) (C := RX4) (T := TX4) (N := 4) hx hb hts inAX4 hown hK hP 5 rfl rfl 0 (by decide) (hts _ q235) (fun _ h9 => h9) rfl dX4_goBackTo_35 ?_
            refine lv_iload_n hx hb dX4_goBackTo_38 rfl (lv_at hl 2 rfl) ?_
            refine lv_iload hx hb dX4_goBackTo_39 (lv_at hl 0 rfl) ?_
            refine lv_if_eq (tgt := 49) hx hb dX4_goBackTo_41 (by decide) (fun _ => ?_) (fun c7 => absurd (by decide) c7)
            refine lv_aload_n hx hb dX4_goBackTo_49 rfl (lv_at hl 5 rfl) ?_
            refine lv_iload_n hx hb dX4_goBackTo_50 rfl (lv_at hl 2 rfl) ?_
            have hPc := hP.sub (ws' := [(zz 0, .inr (7, [.ref (zz 1), .ref (zz 3), .int (nI kd), .int (nI ksg)])), (zz 1, .inr (5, [.ref (zz 2)])), (zz 2, .inl (dA 0, 30, .inl kS)), (zz 3, .inr (5, [.ref (zz 4)])), (zz 4, .inl (dA 0, 30, .inl kG))]) [0, 1, 2, 3, 4] rfl
            have hDc := hD.sub (ws' := [(zz 0, .inr (7, [.ref (zz 1), .ref (zz 3), .int (nI kd), .int (nI ksg)])), (zz 1, .inr (5, [.ref (zz 2)])), (zz 2, .inl (dA 0, 30, .inl kS)), (zz 3, .inr (5, [.ref (zz 4)])), (zz 4, .inl (dA 0, 30, .inl kG))]) [0, 1, 2, 3, 4] (by decide) rfl
            have hFc := va_free (wc := [(zz 0, .inr (7, [.ref (zz 1), .ref (zz 3), .int (nI kd), .int (nI ksg)])), (zz 1, .inr (5, [.ref (zz 2)])), (zz 2, .inl (dA 0, 30, .inl kS)), (zz 3, .inr (5, [.ref (zz 4)])), (zz 4, .inl (dA 0, 30, .inl kG))]) hD hS hA [0, 1, 2, 3, 4] rfl
            refine va_calli (va_runV (As := [.int (nI i4)]) (rest := [.int (nI i4), .ref (z 1)]) ⟨hx, hb, hml, hown, hts⟩ (s_stateOf l D dA E zz kS kG kd ksg i4 H.size  (by omega) (by omega) (by omega) hAK) (cwV 1 hts (ga_V q239 q240 q237 q241 q238) rfl rfl rfl (by decide +kernel) ⟨(Nat.le_of_ble_eq_true rfl), (Nat.le_of_ble_eq_true rfl)⟩) ⟨pb_blind, va_recv hK hPc (ci := 7) (q0 := 0) rfl rfl, pb_pre hK hPc hDc hZ hS hFc _⟩ rfl rfl hl.1 rfl (lv_room (Nat.le_of_ble_eq_true rfl)) dX4_goBackTo_51 ⟨(Nat.le_of_ble_eq_true rfl), (Nat.le_of_ble_eq_true rfl)⟩) hS (fun q _ h => hFc q h) hFc (fun r u t H1 locs ht hvm hw hB hz1 hk1 hS => ?_)
            refine W.widen (k := 0) (n := 0) (Nat.le_of_ble_eq_true rfl) (Nat.le_of_ble_eq_true rfl) ?_
            obtain ⟨r8, rfl⟩ : ∃ z, z = r := ⟨_, rfl⟩
            obtain ⟨u9, rfl⟩ : ∃ z, z = u := ⟨_, rfl⟩
            have hw10 := hw
            clear hw
            obtain ⟨hP1, hD1⟩ := hB
            rw [ht] at hP1
            obtain ⟨hP, hD⟩ := va_join (wr := [(z 0, .inr (7, [.ref (z 1), .ref (z 3), .int (nI nd), .int (nI nsg)])), (z 1, .inr (5, [.ref (z 2)])), (z 2, .inl (dA 0, 30, .inl (fl (crF kd kS 108) tS i4))), (z 3, .inr (5, [.ref (z 4)])), (z 4, .inl (dA 0, 30, .inl (fl (crF kd kG (-1)) tG i4)))]) (w1 := [(zz 0, .inr (7, [.ref (zz 1), .ref (zz 3), .int (nI kd), .int (nI ksg)])), (zz 1, .inr (5, [.ref (zz 2)])), (zz 2, .inl (dA 0, 30, .inl kS)), (zz 3, .inr (5, [.ref (zz 4)])), (zz 4, .inl (dA 0, 30, .inl kG))]) hP hD [0, 1, 2, 3, 4] [5, 6, 7, 8, 9] rfl rfl (by decide) (by decide) hk1 hFc hP1 hD1
            generalize H1 = H at hP hS ⊢
            have hP : va_P D vwCl [(z 0, .inr (7, [.ref (z 1), .ref (z 3), .int (nI nd), .int (nI nsg)])), (z 1, .inr (5, [.ref (z 2)])), (z 2, .inl (dA 0, 30, .inl (fl (crF kd kS 108) tS i4))), (z 3, .inr (5, [.ref (z 4)])), (z 4, .inl (dA 0, 30, .inl (fl (crF kd kG (-1)) tG i4))), (zz 0, .inr (7, [.ref (zz 1), .ref (zz 3), .int (nI kd), .int (nI ksg)])), (zz 1, .inr (5, [.ref (zz 2)])), (zz 2, .inl (dA 0, 30, .inl kS)), (zz 3, .inr (5, [.ref (zz 4)])), (zz 4, .inl (dA 0, 30, .inl kG))] H := hP
            have hD : va_D A [(z 0, .inr (7, [.ref (z 1), .ref (z 3), .int (nI nd), .int (nI nsg)])), (z 1, .inr (5, [.ref (z 2)])), (z 2, .inl (dA 0, 30, .inl (fl (crF kd kS 108) tS i4))), (z 3, .inr (5, [.ref (z 4)])), (z 4, .inl (dA 0, 30, .inl (fl (crF kd kG (-1)) tG i4))), (zz 0, .inr (7, [.ref (zz 1), .ref (zz 3), .int (nI kd), .int (nI ksg)])), (zz 1, .inr (5, [.ref (zz 2)])), (zz 2, .inl (dA 0, 30, .inl kS)), (zz 3, .inr (5, [.ref (zz 4)])), (zz 4, .inl (dA 0, 30, .inl kG))] := hD
            obtain rfl : r8 = kS i4 := hw10
            have hPc := hP.sub (ws' := [(z 1, .inr (5, [.ref (z 2)])), (z 2, .inl (dA 0, 30, .inl (fl (crF kd kS 108) tS i4)))]) [1, 2] rfl
            have hDc := hD.sub (ws' := [(z 1, .inr (5, [.ref (z 2)])), (z 2, .inl (dA 0, 30, .inl (fl (crF kd kS 108) tS i4)))]) [1, 2] (by decide) rfl
            have hFc := va_free (wc := [(z 1, .inr (5, [.ref (z 2)])), (z 2, .inl (dA 0, 30, .inl (fl (crF kd kS 108) tS i4)))]) hD hS hA [1, 2] rfl
            refine va_callv (va_runV (As := [.int (nI i4), .int (kS i4)]) (rest := []) ⟨hx, hb, hml, hown, hts⟩ (t_putN l D dA E (z 1) (z 2) 30 (fl (crF kd kS 108) tS i4) i4 (kS i4) H.size  (by omega) (by decide)) (cwV 2 hts (ga_V q242 q210 q207 q204 q208) rfl rfl rfl (by decide +kernel) ⟨(Nat.le_of_ble_eq_true rfl), (Nat.le_of_ble_eq_true rfl)⟩) ⟨pb_blind, va_recv hK hPc (ci := 5) (q0 := 0) rfl rfl, pb_pre hK hPc hDc hZ hS hFc _⟩ rfl rfl hl.1 rfl (lv_room (Nat.le_of_ble_eq_true rfl)) dX4_goBackTo_54 ⟨(Nat.le_of_ble_eq_true rfl), (Nat.le_of_ble_eq_true rfl)⟩) hS (fun q _ h => hFc q h) hFc (fun u t H1 locs ht hvm hw hB hz1 hk1 hS => ?_)
            refine W.widen (k := 0) (n := 0) (Nat.le_of_ble_eq_true rfl) (Nat.le_of_ble_eq_true rfl) ?_
            obtain ⟨u11, rfl⟩ : ∃ z, z = u := ⟨_, rfl⟩
            have hw12 := hw
            clear hw
            obtain ⟨hP1, hD1⟩ := hB
            rw [ht] at hP1
            obtain ⟨hP, hD⟩ := va_join (wr := [(z 0, .inr (7, [.ref (z 1), .ref (z 3), .int (nI nd), .int (nI nsg)])), (z 3, .inr (5, [.ref (z 4)])), (z 4, .inl (dA 0, 30, .inl (fl (crF kd kG (-1)) tG i4))), (zz 0, .inr (7, [.ref (zz 1), .ref (zz 3), .int (nI kd), .int (nI ksg)])), (zz 1, .inr (5, [.ref (zz 2)])), (zz 2, .inl (dA 0, 30, .inl kS)), (zz 3, .inr (5, [.ref (zz 4)])), (zz 4, .inl (dA 0, 30, .inl kG))]) (w1 := [(z 1, .inr (5, [.ref (z 2)])), (z 2, .inl (dA 0, 30, .inl (upd (fl (crF kd kS 108) tS i4) i4 (kS i4))))]) hP hD [1, 2] [0, 3, 4, 5, 6, 7, 8, 9] rfl rfl (by decide) (by decide) hk1 hFc hP1 hD1
            generalize H1 = H at hP hS ⊢
            have hP : va_P D vwCl [(z 0, .inr (7, [.ref (z 1), .ref (z 3), .int (nI nd), .int (nI nsg)])), (z 3, .inr (5, [.ref (z 4)])), (z 4, .inl (dA 0, 30, .inl (fl (crF kd kG (-1)) tG i4))), (zz 0, .inr (7, [.ref (zz 1), .ref (zz 3), .int (nI kd), .int (nI ksg)])), (zz 1, .inr (5, [.ref (zz 2)])), (zz 2, .inl (dA 0, 30, .inl kS)), (zz 3, .inr (5, [.ref (zz 4)])), (zz 4, .inl (dA 0, 30, .inl kG)), (z 1, .inr (5, [.ref (z 2)])), (z 2, .inl (dA 0, 30, .inl (upd (fl (crF kd kS 108) tS i4) i4 (kS i4))))] H := hP
            have hD : va_D A [(z 0, .inr (7, [.ref (z 1), .ref (z 3), .int (nI nd), .int (nI nsg)])), (z 3, .inr (5, [.ref (z 4)])), (z 4, .inl (dA 0, 30, .inl (fl (crF kd kG (-1)) tG i4))), (zz 0, .inr (7, [.ref (zz 1), .ref (zz 3), .int (nI kd), .int (nI ksg)])), (zz 1, .inr (5, [.ref (zz 2)])), (zz 2, .inl (dA 0, 30, .inl kS)), (zz 3, .inr (5, [.ref (zz 4)])), (zz 4, .inl (dA 0, 30, .inl kG)), (z 1, .inr (5, [.ref (z 2)])), (z 2, .inl (dA 0, 30, .inl (upd (fl (crF kd kS 108) tS i4) i4 (kS i4))))] := hD
            refine lv_aload_n hx hb dX4_goBackTo_57 rfl (lv_at hl 4 rfl) ?_
            refine va_get (D := D) (ci := 7) (v := .ref (z 3)) (C := RX4) (T := TX4) (N := 4) hx hb hts inAX4 hown hK hP 0 rfl rfl 1 (by decide) (hts _ q244) (fun _ h9 => h9) rfl dX4_goBackTo_58 ?_
            refine lv_iload_n hx hb dX4_goBackTo_61 rfl (lv_at hl 2 rfl) ?_
            refine lv_iload hx hb dX4_goBackTo_62 (lv_at hl 0 rfl) ?_
            refine lv_if_eq (tgt := 71) hx hb dX4_goBackTo_64 (by decide) (fun _ => ?_) (fun c13 => absurd (by decide) c13)
            refine lv_aload_n hx hb dX4_goBackTo_71 rfl (lv_at hl 5 rfl) ?_
            refine va_get (D := D) (ci := 7) (v := .ref (zz 3)) (C := RX4) (T := TX4) (N := 4) hx hb hts inAX4 hown hK hP 3 rfl rfl 1 (by decide) (hts _ q244) (fun _ h9 => h9) rfl dX4_goBackTo_72 ?_
            refine lv_iload_n hx hb dX4_goBackTo_75 rfl (lv_at hl 2 rfl) ?_
            have hPc := hP.sub (ws' := [(zz 3, .inr (5, [.ref (zz 4)])), (zz 4, .inl (dA 0, 30, .inl kG))]) [6, 7] rfl
            have hDc := hD.sub (ws' := [(zz 3, .inr (5, [.ref (zz 4)])), (zz 4, .inl (dA 0, 30, .inl kG))]) [6, 7] (by decide) rfl
            have hFc := va_free (wc := [(zz 3, .inr (5, [.ref (zz 4)])), (zz 4, .inl (dA 0, 30, .inl kG))]) hD hS hA [6, 7] rfl
            refine va_calli (va_runV (As := [.int (nI i4)]) (rest := [.int (nI i4), .ref (z 3)]) ⟨hx, hb, hml, hown, hts⟩ (t_getN l D dA E (zz 3) (zz 4) 30 kG i4 H.size  (by omega) (by decide)) (cwV 1 hts (ga_V q236 q203 q200 q204 q201) rfl rfl rfl (by decide +kernel) ⟨(Nat.le_of_ble_eq_true rfl), (Nat.le_of_ble_eq_true rfl)⟩) ⟨pb_blind, va_recv hK hPc (ci := 5) (q0 := 0) rfl rfl, pb_pre hK hPc hDc hZ hS hFc _⟩ rfl rfl hl.1 rfl (lv_room (Nat.le_of_ble_eq_true rfl)) dX4_goBackTo_76 ⟨(Nat.le_of_ble_eq_true rfl), (Nat.le_of_ble_eq_true rfl)⟩) hS (fun q _ h => hFc q h) hFc (fun r u t H1 locs ht hvm hw hB hz1 hk1 hS => ?_)
            refine W.widen (k := 0) (n := 0) (Nat.le_of_ble_eq_true rfl) (Nat.le_of_ble_eq_true rfl) ?_
            obtain ⟨r14, rfl⟩ : ∃ z, z = r := ⟨_, rfl⟩
            obtain ⟨u15, rfl⟩ : ∃ z, z = u := ⟨_, rfl⟩
            have hw16 := hw
            clear hw
            obtain ⟨hP1, hD1⟩ := hB
            rw [ht] at hP1
            obtain ⟨hP, hD⟩ := va_join (wr := [(z 0, .inr (7, [.ref (z 1), .ref (z 3), .int (nI nd), .int (nI nsg)])), (z 3, .inr (5, [.ref (z 4)])), (z 4, .inl (dA 0, 30, .inl (fl (crF kd kG (-1)) tG i4))), (zz 0, .inr (7, [.ref (zz 1), .ref (zz 3), .int (nI kd), .int (nI ksg)])), (zz 1, .inr (5, [.ref (zz 2)])), (zz 2, .inl (dA 0, 30, .inl kS)), (z 1, .inr (5, [.ref (z 2)])), (z 2, .inl (dA 0, 30, .inl (upd (fl (crF kd kS 108) tS i4) i4 (kS i4))))]) (w1 := [(zz 3, .inr (5, [.ref (zz 4)])), (zz 4, .inl (dA 0, 30, .inl kG))]) hP hD [6, 7] [0, 1, 2, 3, 4, 5, 8, 9] rfl rfl (by decide) (by decide) hk1 hFc hP1 hD1
            generalize H1 = H at hP hS ⊢
            have hP : va_P D vwCl [(z 0, .inr (7, [.ref (z 1), .ref (z 3), .int (nI nd), .int (nI nsg)])), (z 3, .inr (5, [.ref (z 4)])), (z 4, .inl (dA 0, 30, .inl (fl (crF kd kG (-1)) tG i4))), (zz 0, .inr (7, [.ref (zz 1), .ref (zz 3), .int (nI kd), .int (nI ksg)])), (zz 1, .inr (5, [.ref (zz 2)])), (zz 2, .inl (dA 0, 30, .inl kS)), (z 1, .inr (5, [.ref (z 2)])), (z 2, .inl (dA 0, 30, .inl (upd (fl (crF kd kS 108) tS i4) i4 (kS i4)))), (zz 3, .inr (5, [.ref (zz 4)])), (zz 4, .inl (dA 0, 30, .inl kG))] H := hP
            have hD : va_D A [(z 0, .inr (7, [.ref (z 1), .ref (z 3), .int (nI nd), .int (nI nsg)])), (z 3, .inr (5, [.ref (z 4)])), (z 4, .inl (dA 0, 30, .inl (fl (crF kd kG (-1)) tG i4))), (zz 0, .inr (7, [.ref (zz 1), .ref (zz 3), .int (nI kd), .int (nI ksg)])), (zz 1, .inr (5, [.ref (zz 2)])), (zz 2, .inl (dA 0, 30, .inl kS)), (z 1, .inr (5, [.ref (z 2)])), (z 2, .inl (dA 0, 30, .inl (upd (fl (crF kd kS 108) tS i4) i4 (kS i4)))), (zz 3, .inr (5, [.ref (zz 4)])), (zz 4, .inl (dA 0, 30, .inl kG))] := hD
            obtain rfl : r14 = kG i4 := hw16
            have hPc := hP.sub (ws' := [(z 3, .inr (5, [.ref (z 4)])), (z 4, .inl (dA 0, 30, .inl (fl (crF kd kG (-1)) tG i4)))]) [1, 2] rfl
            have hDc := hD.sub (ws' := [(z 3, .inr (5, [.ref (z 4)])), (z 4, .inl (dA 0, 30, .inl (fl (crF kd kG (-1)) tG i4)))]) [1, 2] (by decide) rfl
            have hFc := va_free (wc := [(z 3, .inr (5, [.ref (z 4)])), (z 4, .inl (dA 0, 30, .inl (fl (crF kd kG (-1)) tG i4)))]) hD hS hA [1, 2] rfl
            refine va_callv (va_runV (As := [.int (nI i4), .int (kG i4)]) (rest := []) ⟨hx, hb, hml, hown, hts⟩ (t_putN l D dA E (z 3) (z 4) 30 (fl (crF kd kG (-1)) tG i4) i4 (kG i4) H.size  (by omega) (by decide)) (cwV 2 hts (ga_V q242 q210 q207 q204 q208) rfl rfl rfl (by decide +kernel) ⟨(Nat.le_of_ble_eq_true rfl), (Nat.le_of_ble_eq_true rfl)⟩) ⟨pb_blind, va_recv hK hPc (ci := 5) (q0 := 0) rfl rfl, pb_pre hK hPc hDc hZ hS hFc _⟩ rfl rfl hl.1 rfl (lv_room (Nat.le_of_ble_eq_true rfl)) dX4_goBackTo_79 ⟨(Nat.le_of_ble_eq_true rfl), (Nat.le_of_ble_eq_true rfl)⟩) hS (fun q _ h => hFc q h) hFc (fun u t H1 locs ht hvm hw hB hz1 hk1 hS => ?_)
            refine W.widen (k := 0) (n := 0) (Nat.le_of_ble_eq_true rfl) (Nat.le_of_ble_eq_true rfl) ?_
            obtain ⟨u17, rfl⟩ : ∃ z, z = u := ⟨_, rfl⟩
            have hw18 := hw
            clear hw
            obtain ⟨hP1, hD1⟩ := hB
            rw [ht] at hP1
            obtain ⟨hP, hD⟩ := va_join (wr := [(z 0, .inr (7, [.ref (z 1), .ref (z 3), .int (nI nd), .int (nI nsg)])), (zz 0, .inr (7, [.ref (zz 1), .ref (zz 3), .int (nI kd), .int (nI ksg)])), (zz 1, .inr (5, [.ref (zz 2)])), (zz 2, .inl (dA 0, 30, .inl kS)), (z 1, .inr (5, [.ref (z 2)])), (z 2, .inl (dA 0, 30, .inl (upd (fl (crF kd kS 108) tS i4) i4 (kS i4)))), (zz 3, .inr (5, [.ref (zz 4)])), (zz 4, .inl (dA 0, 30, .inl kG))]) (w1 := [(z 3, .inr (5, [.ref (z 4)])), (z 4, .inl (dA 0, 30, .inl (upd (fl (crF kd kG (-1)) tG i4) i4 (kG i4))))]) hP hD [1, 2] [0, 3, 4, 5, 6, 7, 8, 9] rfl rfl (by decide) (by decide) hk1 hFc hP1 hD1
            generalize H1 = H at hP hS ⊢
            have hP : va_P D vwCl [(z 0, .inr (7, [.ref (z 1), .ref (z 3), .int (nI nd), .int (nI nsg)])), (zz 0, .inr (7, [.ref (zz 1), .ref (zz 3), .int (nI kd), .int (nI ksg)])), (zz 1, .inr (5, [.ref (zz 2)])), (zz 2, .inl (dA 0, 30, .inl kS)), (z 1, .inr (5, [.ref (z 2)])), (z 2, .inl (dA 0, 30, .inl (upd (fl (crF kd kS 108) tS i4) i4 (kS i4)))), (zz 3, .inr (5, [.ref (zz 4)])), (zz 4, .inl (dA 0, 30, .inl kG)), (z 3, .inr (5, [.ref (z 4)])), (z 4, .inl (dA 0, 30, .inl (upd (fl (crF kd kG (-1)) tG i4) i4 (kG i4))))] H := hP
            have hD : va_D A [(z 0, .inr (7, [.ref (z 1), .ref (z 3), .int (nI nd), .int (nI nsg)])), (zz 0, .inr (7, [.ref (zz 1), .ref (zz 3), .int (nI kd), .int (nI ksg)])), (zz 1, .inr (5, [.ref (zz 2)])), (zz 2, .inl (dA 0, 30, .inl kS)), (z 1, .inr (5, [.ref (z 2)])), (z 2, .inl (dA 0, 30, .inl (upd (fl (crF kd kS 108) tS i4) i4 (kS i4)))), (zz 3, .inr (5, [.ref (zz 4)])), (zz 4, .inl (dA 0, 30, .inl kG)), (z 3, .inr (5, [.ref (z 4)])), (z 4, .inl (dA 0, 30, .inl (upd (fl (crF kd kG (-1)) tG i4) i4 (kG i4))))] := hD
            refine lv_aload_n hx hb dX4_goBackTo_82 rfl (lv_at hl 4 rfl) ?_
            refine lv_iload_n hx hb dX4_goBackTo_83 rfl (lv_at hl 2 rfl) ?_
            have hPc := hP.sub (ws' := [(z 0, .inr (7, [.ref (z 1), .ref (z 3), .int (nI nd), .int (nI nsg)])), (z 1, .inr (5, [.ref (z 2)])), (z 2, .inl (dA 0, 30, .inl (upd (fl (crF kd kS 108) tS i4) i4 (kS i4)))), (z 3, .inr (5, [.ref (z 4)])), (z 4, .inl (dA 0, 30, .inl (upd (fl (crF kd kG (-1)) tG i4) i4 (kG i4))))]) [0, 4, 5, 8, 9] rfl
            have hDc := hD.sub (ws' := [(z 0, .inr (7, [.ref (z 1), .ref (z 3), .int (nI nd), .int (nI nsg)])), (z 1, .inr (5, [.ref (z 2)])), (z 2, .inl (dA 0, 30, .inl (upd (fl (crF kd kS 108) tS i4) i4 (kS i4)))), (z 3, .inr (5, [.ref (z 4)])), (z 4, .inl (dA 0, 30, .inl (upd (fl (crF kd kG (-1)) tG i4) i4 (kG i4))))]) [0, 4, 5, 8, 9] (by decide) rfl
            have hFc := va_free (wc := [(z 0, .inr (7, [.ref (z 1), .ref (z 3), .int (nI nd), .int (nI nsg)])), (z 1, .inr (5, [.ref (z 2)])), (z 2, .inl (dA 0, 30, .inl (upd (fl (crF kd kS 108) tS i4) i4 (kS i4)))), (z 3, .inr (5, [.ref (z 4)])), (z 4, .inl (dA 0, 30, .inl (upd (fl (crF kd kG (-1)) tG i4) i4 (kG i4))))]) hD hS hA [0, 4, 5, 8, 9] rfl
            refine va_calli (va_runV (As := [.int (nI i4)]) (rest := []) ⟨hx, hb, hml, hown, hts⟩ (s_lives l D dA E z (upd (fl (crF kd kS 108) tS i4) i4 (kS i4)) (upd (fl (crF kd kG (-1)) tG i4) i4 (kG i4)) nd nsg i4 H.size  (by omega) (by omega) (by omega) (AC_upd9 (AC_fl hAC (AC_cr hAK)) (hAK _))) (cwV 1 hts (ga_V q256 q257 q254 q241 q255) rfl rfl rfl (by decide +kernel) ⟨(Nat.le_of_ble_eq_true rfl), (Nat.le_of_ble_eq_true rfl)⟩) ⟨pb_blind, va_recv hK hPc (ci := 7) (q0 := 0) rfl rfl, pb_pre hK hPc hDc hZ hS hFc _⟩ rfl rfl hl.1 rfl (lv_room (Nat.le_of_ble_eq_true rfl)) dX4_goBackTo_84 ⟨(Nat.le_of_ble_eq_true rfl), (Nat.le_of_ble_eq_true rfl)⟩) hS (fun q _ h => hFc q h) hFc (fun r u t H1 locs ht hvm hw hB hz1 hk1 hS => ?_)
            refine W.widen (k := 0) (n := 0) (Nat.le_of_ble_eq_true rfl) (Nat.le_of_ble_eq_true rfl) ?_
            obtain ⟨r19, rfl⟩ : ∃ z, z = r := ⟨_, rfl⟩
            obtain ⟨u20, rfl⟩ : ∃ z, z = u := ⟨_, rfl⟩
            have hw21 := hw
            clear hw
            obtain ⟨hP1, hD1⟩ := hB
            rw [ht] at hP1
            obtain ⟨hP, hD⟩ := va_join (wr := [(zz 0, .inr (7, [.ref (zz 1), .ref (zz 3), .int (nI kd), .int (nI ksg)])), (zz 1, .inr (5, [.ref (zz 2)])), (zz 2, .inl (dA 0, 30, .inl kS)), (zz 3, .inr (5, [.ref (zz 4)])), (zz 4, .inl (dA 0, 30, .inl kG))]) (w1 := [(z 0, .inr (7, [.ref (z 1), .ref (z 3), .int (nI nd), .int (nI nsg)])), (z 1, .inr (5, [.ref (z 2)])), (z 2, .inl (dA 0, 30, .inl (upd (fl (crF kd kS 108) tS i4) i4 (kS i4)))), (z 3, .inr (5, [.ref (z 4)])), (z 4, .inl (dA 0, 30, .inl (upd (fl (crF kd kG (-1)) tG i4) i4 (kG i4))))]) hP hD [0, 4, 5, 8, 9] [1, 2, 3, 6, 7] rfl rfl (by decide) (by decide) hk1 hFc hP1 hD1
            generalize H1 = H at hP hS ⊢
            have hP : va_P D vwCl [(zz 0, .inr (7, [.ref (zz 1), .ref (zz 3), .int (nI kd), .int (nI ksg)])), (zz 1, .inr (5, [.ref (zz 2)])), (zz 2, .inl (dA 0, 30, .inl kS)), (zz 3, .inr (5, [.ref (zz 4)])), (zz 4, .inl (dA 0, 30, .inl kG)), (z 0, .inr (7, [.ref (z 1), .ref (z 3), .int (nI nd), .int (nI nsg)])), (z 1, .inr (5, [.ref (z 2)])), (z 2, .inl (dA 0, 30, .inl (upd (fl (crF kd kS 108) tS i4) i4 (kS i4)))), (z 3, .inr (5, [.ref (z 4)])), (z 4, .inl (dA 0, 30, .inl (upd (fl (crF kd kG (-1)) tG i4) i4 (kG i4))))] H := hP
            have hD : va_D A [(zz 0, .inr (7, [.ref (zz 1), .ref (zz 3), .int (nI kd), .int (nI ksg)])), (zz 1, .inr (5, [.ref (zz 2)])), (zz 2, .inl (dA 0, 30, .inl kS)), (zz 3, .inr (5, [.ref (zz 4)])), (zz 4, .inl (dA 0, 30, .inl kG)), (z 0, .inr (7, [.ref (z 1), .ref (z 3), .int (nI nd), .int (nI nsg)])), (z 1, .inr (5, [.ref (z 2)])), (z 2, .inl (dA 0, 30, .inl (upd (fl (crF kd kS 108) tS i4) i4 (kS i4)))), (z 3, .inr (5, [.ref (z 4)])), (z 4, .inl (dA 0, 30, .inl (upd (fl (crF kd kG (-1)) tG i4) i4 (kG i4))))] := hD
            have hth21 : r19 = bI (thB (kS i4)) := hw21.trans (congrArg (fun z9 => bI (thB z9)) pk_us)
            refine bt (b := (thB (kS i4))) ?_ ?_
            · intro hB22
              obtain rfl : r19 = 1 := hth21.trans (by rw [hB22]; rfl)
              refine lv_iload hx hb dX4_goBackTo_87 (lv_at hl 1 rfl) ?_
              refine lv_icmp_eq (tgt := 95) hx hb dX4_goBackTo_89 (by decide) (fun _ => ?_) (fun c23 => absurd (by decide) c23)
              refine lv_iinc (v := nI (i4 + 1)) (lv' := [(3, .int (nI (i4 + 1))), (5, .int 0), (4, .int 1), (2, .int (nI (cn (crB kd kS tS) i4))), (0, .ref (z 0)), (1, .ref (zz 0))]) hx hb dX4_goBackTo_95 hl (k := 2) rfl (nI_add i4 1) (by decide) rfl (fun ls hl => ?_)
              refine lv_goto (tgt := 4) hx hb dX4_goBackTo_98 (by decide) ?_
              have hP := hP.sub (ws' := [(z 0, .inr (7, [.ref (z 1), .ref (z 3), .int (nI nd), .int (nI nsg)])), (z 1, .inr (5, [.ref (z 2)])), (z 2, .inl (dA 0, 30, .inl (upd (fl (crF kd kS 108) tS i4) i4 (kS i4)))), (z 3, .inr (5, [.ref (z 4)])), (z 4, .inl (dA 0, 30, .inl (upd (fl (crF kd kG (-1)) tG i4) i4 (kG i4)))), (zz 0, .inr (7, [.ref (zz 1), .ref (zz 3), .int (nI kd), .int (nI ksg)])), (zz 1, .inr (5, [.ref (zz 2)])), (zz 2, .inl (dA 0, 30, .inl kS)), (zz 3, .inr (5, [.ref (zz 4)])), (zz 4, .inl (dA 0, 30, .inl kG))]) [5, 6, 7, 8, 9, 0, 1, 2, 3, 4] rfl
              have hD := hD.sub (ws' := [(z 0, .inr (7, [.ref (z 1), .ref (z 3), .int (nI nd), .int (nI nsg)])), (z 1, .inr (5, [.ref (z 2)])), (z 2, .inl (dA 0, 30, .inl (upd (fl (crF kd kS 108) tS i4) i4 (kS i4)))), (z 3, .inr (5, [.ref (z 4)])), (z 4, .inl (dA 0, 30, .inl (upd (fl (crF kd kG (-1)) tG i4) i4 (kG i4)))), (zz 0, .inr (7, [.ref (zz 1), .ref (zz 3), .int (nI kd), .int (nI ksg)])), (zz 1, .inr (5, [.ref (zz 2)])), (zz 2, .inl (dA 0, 30, .inl kS)), (zz 3, .inr (5, [.ref (zz 4)])), (zz 4, .inl (dA 0, 30, .inl kG))]) [5, 6, 7, 8, 9, 0, 1, 2, 3, 4] (by decide) rfl
              exact ih4 (i4 + 1) (upd (fl (crF kd kS 108) tS i4) i4 (kS i4)) (upd (fl (crF kd kG (-1)) tG i4) i4 (kG i4)) (nI (cn (crB kd kS tS) i4)) (by omega) (by omega) (by omega) ⟨(fl_succ (by show _ = crF _ _ _ _; rw [crF, if_pos (by omega)])), (fl_succ (by show _ = crF _ _ _ _; rw [crF, if_pos (by omega)])), (cn_n' (f := (crB kd kS tS)) (by unfold crB; rw [crF, if_pos (by omega)]; simp [hB5, hB22]))⟩ _ _ hP hD hS ls (lv_sub hl [0, 3, 4, 5] rfl)
            · intro hB22
              obtain rfl : r19 = 0 := hth21.trans (by rw [hB22]; rfl)
              refine lv_iload hx hb dX4_goBackTo_87 (lv_at hl 1 rfl) ?_
              refine lv_icmp_eq (tgt := 95) hx hb dX4_goBackTo_89 (by decide) (fun c24 => absurd c24 (by decide)) (fun _ => ?_)
              refine lv_iinc (v := nI ((cn (crB kd kS tS) i4) + 1)) (lv' := [(2, .int (nI ((cn (crB kd kS tS) i4) + 1))), (5, .int 0), (4, .int 1), (3, .int (nI i4)), (0, .ref (z 0)), (1, .ref (zz 0))]) hx hb dX4_goBackTo_92 hl (k := 3) rfl (nI_add (cn (crB kd kS tS) i4) 1) (by decide) rfl (fun ls hl => ?_)
              refine lv_iinc (v := nI (i4 + 1)) (lv' := [(3, .int (nI (i4 + 1))), (2, .int (nI ((cn (crB kd kS tS) i4) + 1))), (5, .int 0), (4, .int 1), (0, .ref (z 0)), (1, .ref (zz 0))]) hx hb dX4_goBackTo_95 hl (k := 3) rfl (nI_add i4 1) (by decide) rfl (fun ls hl => ?_)
              refine lv_goto (tgt := 4) hx hb dX4_goBackTo_98 (by decide) ?_
              have hP := hP.sub (ws' := [(z 0, .inr (7, [.ref (z 1), .ref (z 3), .int (nI nd), .int (nI nsg)])), (z 1, .inr (5, [.ref (z 2)])), (z 2, .inl (dA 0, 30, .inl (upd (fl (crF kd kS 108) tS i4) i4 (kS i4)))), (z 3, .inr (5, [.ref (z 4)])), (z 4, .inl (dA 0, 30, .inl (upd (fl (crF kd kG (-1)) tG i4) i4 (kG i4)))), (zz 0, .inr (7, [.ref (zz 1), .ref (zz 3), .int (nI kd), .int (nI ksg)])), (zz 1, .inr (5, [.ref (zz 2)])), (zz 2, .inl (dA 0, 30, .inl kS)), (zz 3, .inr (5, [.ref (zz 4)])), (zz 4, .inl (dA 0, 30, .inl kG))]) [5, 6, 7, 8, 9, 0, 1, 2, 3, 4] rfl
              have hD := hD.sub (ws' := [(z 0, .inr (7, [.ref (z 1), .ref (z 3), .int (nI nd), .int (nI nsg)])), (z 1, .inr (5, [.ref (z 2)])), (z 2, .inl (dA 0, 30, .inl (upd (fl (crF kd kS 108) tS i4) i4 (kS i4)))), (z 3, .inr (5, [.ref (z 4)])), (z 4, .inl (dA 0, 30, .inl (upd (fl (crF kd kG (-1)) tG i4) i4 (kG i4)))), (zz 0, .inr (7, [.ref (zz 1), .ref (zz 3), .int (nI kd), .int (nI ksg)])), (zz 1, .inr (5, [.ref (zz 2)])), (zz 2, .inl (dA 0, 30, .inl kS)), (zz 3, .inr (5, [.ref (zz 4)])), (zz 4, .inl (dA 0, 30, .inl kG))]) [5, 6, 7, 8, 9, 0, 1, 2, 3, 4] (by decide) rfl
              exact ih4 (i4 + 1) (upd (fl (crF kd kS 108) tS i4) i4 (kS i4)) (upd (fl (crF kd kG (-1)) tG i4) i4 (kG i4)) (nI ((cn (crB kd kS tS) i4) + 1)) (by omega) (by omega) (by omega) ⟨(fl_succ (by show _ = crF _ _ _ _; rw [crF, if_pos (by omega)])), (fl_succ (by show _ = crF _ _ _ _; rw [crF, if_pos (by omega)])), (cn_y (f := (crB kd kS tS)) (by unfold crB; rw [crF, if_pos (by omega)]; simp [hB5, hB22]))⟩ _ _ hP hD hS ls (lv_sub hl [0, 1, 4, 5] rfl)
          · replace c6 := mt (nI_ltI (a := i4) (b := kd) (by omega) (by omega)).mpr c6
            refine lv_iconst (v := 1) hx hb dX4_goBackTo_27 (by decide) ?_
            refine lv_goto (tgt := 32) hx hb dX4_goBackTo_28 (by decide) ?_
            refine lv_istore (lv' := [(5, .int 1), (4, .int 1), (3, .int (nI i4)), (2, .int (nI (cn (crB kd kS tS) i4))), (0, .ref (z 0)), (1, .ref (zz 0))]) hx hb dX4_goBackTo_32 hl (by decide) rfl (fun ls hl => ?_)
            refine lv_aload_n hx hb dX4_goBackTo_34 rfl (lv_at hl 4 rfl) ?_
            refine va_get (D := D) (ci := 7) (v := .ref (z 1)) (C := RX4) (T := TX4) (N := 4) hx hb hts inAX4 hown hK hP 5 rfl rfl 0 (by decide) (hts _ q235) (fun _ h9 => h9) rfl dX4_goBackTo_35 ?_
            refine lv_iload_n hx hb dX4_goBackTo_38 rfl (lv_at hl 2 rfl) ?_
            refine lv_iload hx hb dX4_goBackTo_39 (lv_at hl 0 rfl) ?_
            refine lv_if_eq (tgt := 49) hx hb dX4_goBackTo_41 (by decide) (fun c25 => absurd c25 (by decide)) (fun _ => ?_)
            refine lv_bipush (v := 108) hx hb dX4_goBackTo_44 (by decide) ?_
            refine lv_goto (tgt := 54) hx hb dX4_goBackTo_46 (by decide) ?_
            have hPc := hP.sub (ws' := [(z 1, .inr (5, [.ref (z 2)])), (z 2, .inl (dA 0, 30, .inl (fl (crF kd kS 108) tS i4)))]) [6, 7] rfl
            have hDc := hD.sub (ws' := [(z 1, .inr (5, [.ref (z 2)])), (z 2, .inl (dA 0, 30, .inl (fl (crF kd kS 108) tS i4)))]) [6, 7] (by decide) rfl
            have hFc := va_free (wc := [(z 1, .inr (5, [.ref (z 2)])), (z 2, .inl (dA 0, 30, .inl (fl (crF kd kS 108) tS i4)))]) hD hS hA [6, 7] rfl
            refine va_callv (va_runV (As := [.int (nI i4), .int 108]) (rest := []) ⟨hx, hb, hml, hown, hts⟩ (t_putN l D dA E (z 1) (z 2) 30 (fl (crF kd kS 108) tS i4) i4 108 H.size  (by omega) (by decide)) (cwV 2 hts (ga_V q242 q210 q207 q204 q208) rfl rfl rfl (by decide +kernel) ⟨(Nat.le_of_ble_eq_true rfl), (Nat.le_of_ble_eq_true rfl)⟩) ⟨pb_blind, va_recv hK hPc (ci := 5) (q0 := 0) rfl rfl, pb_pre hK hPc hDc hZ hS hFc _⟩ rfl rfl hl.1 rfl (lv_room (Nat.le_of_ble_eq_true rfl)) dX4_goBackTo_54 ⟨(Nat.le_of_ble_eq_true rfl), (Nat.le_of_ble_eq_true rfl)⟩) hS (fun q _ h => hFc q h) hFc (fun u t H1 locs ht hvm hw hB hz1 hk1 hS => ?_)
            refine W.widen (k := 0) (n := 0) (Nat.le_of_ble_eq_true rfl) (Nat.le_of_ble_eq_true rfl) ?_
            obtain ⟨u26, rfl⟩ : ∃ z, z = u := ⟨_, rfl⟩
            have hw27 := hw
            clear hw
            obtain ⟨hP1, hD1⟩ := hB
            rw [ht] at hP1
            obtain ⟨hP, hD⟩ := va_join (wr := [(zz 0, .inr (7, [.ref (zz 1), .ref (zz 3), .int (nI kd), .int (nI ksg)])), (zz 1, .inr (5, [.ref (zz 2)])), (zz 2, .inl (dA 0, 30, .inl kS)), (zz 3, .inr (5, [.ref (zz 4)])), (zz 4, .inl (dA 0, 30, .inl kG)), (z 0, .inr (7, [.ref (z 1), .ref (z 3), .int (nI nd), .int (nI nsg)])), (z 3, .inr (5, [.ref (z 4)])), (z 4, .inl (dA 0, 30, .inl (fl (crF kd kG (-1)) tG i4)))]) (w1 := [(z 1, .inr (5, [.ref (z 2)])), (z 2, .inl (dA 0, 30, .inl (upd (fl (crF kd kS 108) tS i4) i4 108)))]) hP hD [6, 7] [0, 1, 2, 3, 4, 5, 8, 9] rfl rfl (by decide) (by decide) hk1 hFc hP1 hD1
            generalize H1 = H at hP hS ⊢
            have hP : va_P D vwCl [(zz 0, .inr (7, [.ref (zz 1), .ref (zz 3), .int (nI kd), .int (nI ksg)])), (zz 1, .inr (5, [.ref (zz 2)])), (zz 2, .inl (dA 0, 30, .inl kS)), (zz 3, .inr (5, [.ref (zz 4)])), (zz 4, .inl (dA 0, 30, .inl kG)), (z 0, .inr (7, [.ref (z 1), .ref (z 3), .int (nI nd), .int (nI nsg)])), (z 3, .inr (5, [.ref (z 4)])), (z 4, .inl (dA 0, 30, .inl (fl (crF kd kG (-1)) tG i4))), (z 1, .inr (5, [.ref (z 2)])), (z 2, .inl (dA 0, 30, .inl (upd (fl (crF kd kS 108) tS i4) i4 108)))] H := hP
            have hD : va_D A [(zz 0, .inr (7, [.ref (zz 1), .ref (zz 3), .int (nI kd), .int (nI ksg)])), (zz 1, .inr (5, [.ref (zz 2)])), (zz 2, .inl (dA 0, 30, .inl kS)), (zz 3, .inr (5, [.ref (zz 4)])), (zz 4, .inl (dA 0, 30, .inl kG)), (z 0, .inr (7, [.ref (z 1), .ref (z 3), .int (nI nd), .int (nI nsg)])), (z 3, .inr (5, [.ref (z 4)])), (z 4, .inl (dA 0, 30, .inl (fl (crF kd kG (-1)) tG i4))), (z 1, .inr (5, [.ref (z 2)])), (z 2, .inl (dA 0, 30, .inl (upd (fl (crF kd kS 108) tS i4) i4 108)))] := hD
            refine lv_aload_n hx hb dX4_goBackTo_57 rfl (lv_at hl 4 rfl) ?_
            refine va_get (D := D) (ci := 7) (v := .ref (z 3)) (C := RX4) (T := TX4) (N := 4) hx hb hts inAX4 hown hK hP 5 rfl rfl 1 (by decide) (hts _ q244) (fun _ h9 => h9) rfl dX4_goBackTo_58 ?_
            refine lv_iload_n hx hb dX4_goBackTo_61 rfl (lv_at hl 2 rfl) ?_
            refine lv_iload hx hb dX4_goBackTo_62 (lv_at hl 0 rfl) ?_
            refine lv_if_eq (tgt := 71) hx hb dX4_goBackTo_64 (by decide) (fun c28 => absurd c28 (by decide)) (fun _ => ?_)
            refine lv_iconst (v := (-1)) hx hb dX4_goBackTo_67 (by decide) ?_
            refine lv_goto (tgt := 79) hx hb dX4_goBackTo_68 (by decide) ?_
            have hPc := hP.sub (ws' := [(z 3, .inr (5, [.ref (z 4)])), (z 4, .inl (dA 0, 30, .inl (fl (crF kd kG (-1)) tG i4)))]) [6, 7] rfl
            have hDc := hD.sub (ws' := [(z 3, .inr (5, [.ref (z 4)])), (z 4, .inl (dA 0, 30, .inl (fl (crF kd kG (-1)) tG i4)))]) [6, 7] (by decide) rfl
            have hFc := va_free (wc := [(z 3, .inr (5, [.ref (z 4)])), (z 4, .inl (dA 0, 30, .inl (fl (crF kd kG (-1)) tG i4)))]) hD hS hA [6, 7] rfl
            refine va_callv (va_runV (As := [.int (nI i4), .int (-1)]) (rest := []) ⟨hx, hb, hml, hown, hts⟩ (t_putN l D dA E (z 3) (z 4) 30 (fl (crF kd kG (-1)) tG i4) i4 (-1) H.size  (by omega) (by decide)) (cwV 2 hts (ga_V q242 q210 q207 q204 q208) rfl rfl rfl (by decide +kernel) ⟨(Nat.le_of_ble_eq_true rfl), (Nat.le_of_ble_eq_true rfl)⟩) ⟨pb_blind, va_recv hK hPc (ci := 5) (q0 := 0) rfl rfl, pb_pre hK hPc hDc hZ hS hFc _⟩ rfl rfl hl.1 rfl (lv_room (Nat.le_of_ble_eq_true rfl)) dX4_goBackTo_79 ⟨(Nat.le_of_ble_eq_true rfl), (Nat.le_of_ble_eq_true rfl)⟩) hS (fun q _ h => hFc q h) hFc (fun u t H1 locs ht hvm hw hB hz1 hk1 hS => ?_)
            refine W.widen (k := 0) (n := 0) (Nat.le_of_ble_eq_true rfl) (Nat.le_of_ble_eq_true rfl) ?_
            obtain ⟨u29, rfl⟩ : ∃ z, z = u := ⟨_, rfl⟩
            have hw30 := hw
            clear hw
            obtain ⟨hP1, hD1⟩ := hB
            rw [ht] at hP1
            obtain ⟨hP, hD⟩ := va_join (wr := [(zz 0, .inr (7, [.ref (zz 1), .ref (zz 3), .int (nI kd), .int (nI ksg)])), (zz 1, .inr (5, [.ref (zz 2)])), (zz 2, .inl (dA 0, 30, .inl kS)), (zz 3, .inr (5, [.ref (zz 4)])), (zz 4, .inl (dA 0, 30, .inl kG)), (z 0, .inr (7, [.ref (z 1), .ref (z 3), .int (nI nd), .int (nI nsg)])), (z 1, .inr (5, [.ref (z 2)])), (z 2, .inl (dA 0, 30, .inl (upd (fl (crF kd kS 108) tS i4) i4 108)))]) (w1 := [(z 3, .inr (5, [.ref (z 4)])), (z 4, .inl (dA 0, 30, .inl (upd (fl (crF kd kG (-1)) tG i4) i4 (-1))))]) hP hD [6, 7] [0, 1, 2, 3, 4, 5, 8, 9] rfl rfl (by decide) (by decide) hk1 hFc hP1 hD1
            generalize H1 = H at hP hS ⊢
            have hP : va_P D vwCl [(zz 0, .inr (7, [.ref (zz 1), .ref (zz 3), .int (nI kd), .int (nI ksg)])), (zz 1, .inr (5, [.ref (zz 2)])), (zz 2, .inl (dA 0, 30, .inl kS)), (zz 3, .inr (5, [.ref (zz 4)])), (zz 4, .inl (dA 0, 30, .inl kG)), (z 0, .inr (7, [.ref (z 1), .ref (z 3), .int (nI nd), .int (nI nsg)])), (z 1, .inr (5, [.ref (z 2)])), (z 2, .inl (dA 0, 30, .inl (upd (fl (crF kd kS 108) tS i4) i4 108))), (z 3, .inr (5, [.ref (z 4)])), (z 4, .inl (dA 0, 30, .inl (upd (fl (crF kd kG (-1)) tG i4) i4 (-1))))] H := hP
            have hD : va_D A [(zz 0, .inr (7, [.ref (zz 1), .ref (zz 3), .int (nI kd), .int (nI ksg)])), (zz 1, .inr (5, [.ref (zz 2)])), (zz 2, .inl (dA 0, 30, .inl kS)), (zz 3, .inr (5, [.ref (zz 4)])), (zz 4, .inl (dA 0, 30, .inl kG)), (z 0, .inr (7, [.ref (z 1), .ref (z 3), .int (nI nd), .int (nI nsg)])), (z 1, .inr (5, [.ref (z 2)])), (z 2, .inl (dA 0, 30, .inl (upd (fl (crF kd kS 108) tS i4) i4 108))), (z 3, .inr (5, [.ref (z 4)])), (z 4, .inl (dA 0, 30, .inl (upd (fl (crF kd kG (-1)) tG i4) i4 (-1))))] := hD
            refine lv_aload_n hx hb dX4_goBackTo_82 rfl (lv_at hl 4 rfl) ?_
            refine lv_iload_n hx hb dX4_goBackTo_83 rfl (lv_at hl 2 rfl) ?_
            have hPc := hP.sub (ws' := [(z 0, .inr (7, [.ref (z 1), .ref (z 3), .int (nI nd), .int (nI nsg)])), (z 1, .inr (5, [.ref (z 2)])), (z 2, .inl (dA 0, 30, .inl (upd (fl (crF kd kS 108) tS i4) i4 108))), (z 3, .inr (5, [.ref (z 4)])), (z 4, .inl (dA 0, 30, .inl (upd (fl (crF kd kG (-1)) tG i4) i4 (-1))))]) [5, 6, 7, 8, 9] rfl
            have hDc := hD.sub (ws' := [(z 0, .inr (7, [.ref (z 1), .ref (z 3), .int (nI nd), .int (nI nsg)])), (z 1, .inr (5, [.ref (z 2)])), (z 2, .inl (dA 0, 30, .inl (upd (fl (crF kd kS 108) tS i4) i4 108))), (z 3, .inr (5, [.ref (z 4)])), (z 4, .inl (dA 0, 30, .inl (upd (fl (crF kd kG (-1)) tG i4) i4 (-1))))]) [5, 6, 7, 8, 9] (by decide) rfl
            have hFc := va_free (wc := [(z 0, .inr (7, [.ref (z 1), .ref (z 3), .int (nI nd), .int (nI nsg)])), (z 1, .inr (5, [.ref (z 2)])), (z 2, .inl (dA 0, 30, .inl (upd (fl (crF kd kS 108) tS i4) i4 108))), (z 3, .inr (5, [.ref (z 4)])), (z 4, .inl (dA 0, 30, .inl (upd (fl (crF kd kG (-1)) tG i4) i4 (-1))))]) hD hS hA [5, 6, 7, 8, 9] rfl
            refine va_calli (va_runV (As := [.int (nI i4)]) (rest := []) ⟨hx, hb, hml, hown, hts⟩ (s_lives l D dA E z (upd (fl (crF kd kS 108) tS i4) i4 108) (upd (fl (crF kd kG (-1)) tG i4) i4 (-1)) nd nsg i4 H.size  (by omega) (by omega) (by omega) (AC_upd9 (AC_fl hAC (AC_cr hAK)) (by decide))) (cwV 1 hts (ga_V q256 q257 q254 q241 q255) rfl rfl rfl (by decide +kernel) ⟨(Nat.le_of_ble_eq_true rfl), (Nat.le_of_ble_eq_true rfl)⟩) ⟨pb_blind, va_recv hK hPc (ci := 7) (q0 := 0) rfl rfl, pb_pre hK hPc hDc hZ hS hFc _⟩ rfl rfl hl.1 rfl (lv_room (Nat.le_of_ble_eq_true rfl)) dX4_goBackTo_84 ⟨(Nat.le_of_ble_eq_true rfl), (Nat.le_of_ble_eq_true rfl)⟩) hS (fun q _ h => hFc q h) hFc (fun r u t H1 locs ht hvm hw hB hz1 hk1 hS => ?_)
            refine W.widen (k := 0) (n := 0) (Nat.le_of_ble_eq_true rfl) (Nat.le_of_ble_eq_true rfl) ?_
            obtain ⟨r31, rfl⟩ : ∃ z, z = r := ⟨_, rfl⟩
            obtain ⟨u32, rfl⟩ : ∃ z, z = u := ⟨_, rfl⟩
            have hw33 := hw
            clear hw
            obtain ⟨hP1, hD1⟩ := hB
            rw [ht] at hP1
            obtain ⟨hP, hD⟩ := va_join (wr := [(zz 0, .inr (7, [.ref (zz 1), .ref (zz 3), .int (nI kd), .int (nI ksg)])), (zz 1, .inr (5, [.ref (zz 2)])), (zz 2, .inl (dA 0, 30, .inl kS)), (zz 3, .inr (5, [.ref (zz 4)])), (zz 4, .inl (dA 0, 30, .inl kG))]) (w1 := [(z 0, .inr (7, [.ref (z 1), .ref (z 3), .int (nI nd), .int (nI nsg)])), (z 1, .inr (5, [.ref (z 2)])), (z 2, .inl (dA 0, 30, .inl (upd (fl (crF kd kS 108) tS i4) i4 108))), (z 3, .inr (5, [.ref (z 4)])), (z 4, .inl (dA 0, 30, .inl (upd (fl (crF kd kG (-1)) tG i4) i4 (-1))))]) hP hD [5, 6, 7, 8, 9] [0, 1, 2, 3, 4] rfl rfl (by decide) (by decide) hk1 hFc hP1 hD1
            generalize H1 = H at hP hS ⊢
            have hP : va_P D vwCl [(zz 0, .inr (7, [.ref (zz 1), .ref (zz 3), .int (nI kd), .int (nI ksg)])), (zz 1, .inr (5, [.ref (zz 2)])), (zz 2, .inl (dA 0, 30, .inl kS)), (zz 3, .inr (5, [.ref (zz 4)])), (zz 4, .inl (dA 0, 30, .inl kG)), (z 0, .inr (7, [.ref (z 1), .ref (z 3), .int (nI nd), .int (nI nsg)])), (z 1, .inr (5, [.ref (z 2)])), (z 2, .inl (dA 0, 30, .inl (upd (fl (crF kd kS 108) tS i4) i4 108))), (z 3, .inr (5, [.ref (z 4)])), (z 4, .inl (dA 0, 30, .inl (upd (fl (crF kd kG (-1)) tG i4) i4 (-1))))] H := hP
            have hD : va_D A [(zz 0, .inr (7, [.ref (zz 1), .ref (zz 3), .int (nI kd), .int (nI ksg)])), (zz 1, .inr (5, [.ref (zz 2)])), (zz 2, .inl (dA 0, 30, .inl kS)), (zz 3, .inr (5, [.ref (zz 4)])), (zz 4, .inl (dA 0, 30, .inl kG)), (z 0, .inr (7, [.ref (z 1), .ref (z 3), .int (nI nd), .int (nI nsg)])), (z 1, .inr (5, [.ref (z 2)])), (z 2, .inl (dA 0, 30, .inl (upd (fl (crF kd kS 108) tS i4) i4 108))), (z 3, .inr (5, [.ref (z 4)])), (z 4, .inl (dA 0, 30, .inl (upd (fl (crF kd kG (-1)) tG i4) i4 (-1))))] := hD
            have hth33 : r31 = bI (thB 108) := hw33.trans (congrArg (fun z9 => bI (thB z9)) pk_us)
            refine bt (b := (thB 108)) ?_ ?_
            · intro hB34
              obtain rfl : r31 = 1 := hth33.trans (by rw [hB34]; rfl)
              refine lv_iload hx hb dX4_goBackTo_87 (lv_at hl 1 rfl) ?_
              refine lv_icmp_eq (tgt := 95) hx hb dX4_goBackTo_89 (by decide) (fun _ => ?_) (fun c35 => absurd (by decide) c35)
              refine lv_iinc (v := nI (i4 + 1)) (lv' := [(3, .int (nI (i4 + 1))), (5, .int 1), (4, .int 1), (2, .int (nI (cn (crB kd kS tS) i4))), (0, .ref (z 0)), (1, .ref (zz 0))]) hx hb dX4_goBackTo_95 hl (k := 2) rfl (nI_add i4 1) (by decide) rfl (fun ls hl => ?_)
              refine lv_goto (tgt := 4) hx hb dX4_goBackTo_98 (by decide) ?_
              have hP := hP.sub (ws' := [(z 0, .inr (7, [.ref (z 1), .ref (z 3), .int (nI nd), .int (nI nsg)])), (z 1, .inr (5, [.ref (z 2)])), (z 2, .inl (dA 0, 30, .inl (upd (fl (crF kd kS 108) tS i4) i4 108))), (z 3, .inr (5, [.ref (z 4)])), (z 4, .inl (dA 0, 30, .inl (upd (fl (crF kd kG (-1)) tG i4) i4 (-1)))), (zz 0, .inr (7, [.ref (zz 1), .ref (zz 3), .int (nI kd), .int (nI ksg)])), (zz 1, .inr (5, [.ref (zz 2)])), (zz 2, .inl (dA 0, 30, .inl kS)), (zz 3, .inr (5, [.ref (zz 4)])), (zz 4, .inl (dA 0, 30, .inl kG))]) [5, 6, 7, 8, 9, 0, 1, 2, 3, 4] rfl
              have hD := hD.sub (ws' := [(z 0, .inr (7, [.ref (z 1), .ref (z 3), .int (nI nd), .int (nI nsg)])), (z 1, .inr (5, [.ref (z 2)])), (z 2, .inl (dA 0, 30, .inl (upd (fl (crF kd kS 108) tS i4) i4 108))), (z 3, .inr (5, [.ref (z 4)])), (z 4, .inl (dA 0, 30, .inl (upd (fl (crF kd kG (-1)) tG i4) i4 (-1)))), (zz 0, .inr (7, [.ref (zz 1), .ref (zz 3), .int (nI kd), .int (nI ksg)])), (zz 1, .inr (5, [.ref (zz 2)])), (zz 2, .inl (dA 0, 30, .inl kS)), (zz 3, .inr (5, [.ref (zz 4)])), (zz 4, .inl (dA 0, 30, .inl kG))]) [5, 6, 7, 8, 9, 0, 1, 2, 3, 4] (by decide) rfl
              exact ih4 (i4 + 1) (upd (fl (crF kd kS 108) tS i4) i4 108) (upd (fl (crF kd kG (-1)) tG i4) i4 (-1)) (nI (cn (crB kd kS tS) i4)) (by omega) (by omega) (by omega) ⟨(fl_succ (by show _ = crF _ _ _ _; rw [crF, if_neg (by omega)])), (fl_succ (by show _ = crF _ _ _ _; rw [crF, if_neg (by omega)])), (cn_n' (f := (crB kd kS tS)) (by unfold crB; rw [crF, if_neg (by omega)]; simp [hB5, hB34]))⟩ _ _ hP hD hS ls (lv_sub hl [0, 3, 4, 5] rfl)
            · intro hB34
              obtain rfl : r31 = 0 := hth33.trans (by rw [hB34]; rfl)
              refine lv_iload hx hb dX4_goBackTo_87 (lv_at hl 1 rfl) ?_
              refine lv_icmp_eq (tgt := 95) hx hb dX4_goBackTo_89 (by decide) (fun c36 => absurd c36 (by decide)) (fun _ => ?_)
              refine lv_iinc (v := nI ((cn (crB kd kS tS) i4) + 1)) (lv' := [(2, .int (nI ((cn (crB kd kS tS) i4) + 1))), (5, .int 1), (4, .int 1), (3, .int (nI i4)), (0, .ref (z 0)), (1, .ref (zz 0))]) hx hb dX4_goBackTo_92 hl (k := 3) rfl (nI_add (cn (crB kd kS tS) i4) 1) (by decide) rfl (fun ls hl => ?_)
              refine lv_iinc (v := nI (i4 + 1)) (lv' := [(3, .int (nI (i4 + 1))), (2, .int (nI ((cn (crB kd kS tS) i4) + 1))), (5, .int 1), (4, .int 1), (0, .ref (z 0)), (1, .ref (zz 0))]) hx hb dX4_goBackTo_95 hl (k := 3) rfl (nI_add i4 1) (by decide) rfl (fun ls hl => ?_)
              refine lv_goto (tgt := 4) hx hb dX4_goBackTo_98 (by decide) ?_
              have hP := hP.sub (ws' := [(z 0, .inr (7, [.ref (z 1), .ref (z 3), .int (nI nd), .int (nI nsg)])), (z 1, .inr (5, [.ref (z 2)])), (z 2, .inl (dA 0, 30, .inl (upd (fl (crF kd kS 108) tS i4) i4 108))), (z 3, .inr (5, [.ref (z 4)])), (z 4, .inl (dA 0, 30, .inl (upd (fl (crF kd kG (-1)) tG i4) i4 (-1)))), (zz 0, .inr (7, [.ref (zz 1), .ref (zz 3), .int (nI kd), .int (nI ksg)])), (zz 1, .inr (5, [.ref (zz 2)])), (zz 2, .inl (dA 0, 30, .inl kS)), (zz 3, .inr (5, [.ref (zz 4)])), (zz 4, .inl (dA 0, 30, .inl kG))]) [5, 6, 7, 8, 9, 0, 1, 2, 3, 4] rfl
              have hD := hD.sub (ws' := [(z 0, .inr (7, [.ref (z 1), .ref (z 3), .int (nI nd), .int (nI nsg)])), (z 1, .inr (5, [.ref (z 2)])), (z 2, .inl (dA 0, 30, .inl (upd (fl (crF kd kS 108) tS i4) i4 108))), (z 3, .inr (5, [.ref (z 4)])), (z 4, .inl (dA 0, 30, .inl (upd (fl (crF kd kG (-1)) tG i4) i4 (-1)))), (zz 0, .inr (7, [.ref (zz 1), .ref (zz 3), .int (nI kd), .int (nI ksg)])), (zz 1, .inr (5, [.ref (zz 2)])), (zz 2, .inl (dA 0, 30, .inl kS)), (zz 3, .inr (5, [.ref (zz 4)])), (zz 4, .inl (dA 0, 30, .inl kG))]) [5, 6, 7, 8, 9, 0, 1, 2, 3, 4] (by decide) rfl
              exact ih4 (i4 + 1) (upd (fl (crF kd kS 108) tS i4) i4 108) (upd (fl (crF kd kG (-1)) tG i4) i4 (-1)) (nI ((cn (crB kd kS tS) i4) + 1)) (by omega) (by omega) (by omega) ⟨(fl_succ (by show _ = crF _ _ _ _; rw [crF, if_neg (by omega)])), (fl_succ (by show _ = crF _ _ _ _; rw [crF, if_neg (by omega)])), (cn_y (f := (crB kd kS tS)) (by unfold crB; rw [crF, if_neg (by omega)]; simp [hB5, hB34]))⟩ _ _ hP hD hS ls (lv_sub hl [0, 1, 4, 5] rfl)
        · intro hB5
          obtain rfl : r2 = 0 := hth4.trans (by rw [hB5]; rfl)
          refine lv_istore (lv' := [(4, .int 0), (3, .int (nI i4)), (2, .int (nI (cn (crB kd kS tS) i4))), (0, .ref (z 0)), (1, .ref (zz 0))]) hx hb dX4_goBackTo_17 hl (by decide) rfl (fun ls hl => ?_)
          refine lv_iload_n hx hb dX4_goBackTo_19 rfl (lv_at hl 1 rfl) ?_
          refine lv_aload_n hx hb dX4_goBackTo_20 rfl (lv_at hl 4 rfl) ?_
          refine va_get (D := D) (ci := 7) (v := .int (nI kd)) (C := RX4) (T := TX4) (N := 4) hx hb hts inAX4 hown hK hP 0 rfl rfl 2 (by decide) (hts _ q243) (fun _ h9 => h9) rfl dX4_goBackTo_21 ?_
          refine lv_icmp_lt (tgt := 31) hx hb dX4_goBackTo_24 (by decide) (fun c37 => ?_) (fun c37 => ?_)
          · replace c37 := (nI_ltI (a := i4) (b := kd) (by omega) (by omega)).mp c37
            refine lv_iconst (v := 0) hx hb dX4_goBackTo_31 (by decide) ?_
            refine lv_istore (lv' := [(5, .int 0), (4, .int 0), (3, .int (nI i4)), (2, .int (nI (cn (crB kd kS tS) i4))), (0, .ref (z 0)), (1, .ref (zz 0))]) hx hb dX4_goBackTo_32 hl (by decide) rfl (fun ls hl => ?_)
            refine lv_aload_n hx hb dX4_goBackTo_34 rfl (lv_at hl 4 rfl) ?_
            refine va_get (D := D) (ci := 7) (v := .ref (z 1)) (C := RX4) (T := TX4) (N := 4) hx hb hts inAX4 hown hK hP 5 rfl rfl 0 (by decide) (hts _ q235) (fun _ h9 => h9) rfl dX4_goBackTo_35 ?_
            refine lv_iload_n hx hb dX4_goBackTo_38 rfl (lv_at hl 2 rfl) ?_
            refine lv_iload hx hb dX4_goBackTo_39 (lv_at hl 0 rfl) ?_
            refine lv_if_eq (tgt := 49) hx hb dX4_goBackTo_41 (by decide) (fun _ => ?_) (fun c38 => absurd (by decide) c38)
            refine lv_aload_n hx hb dX4_goBackTo_49 rfl (lv_at hl 5 rfl) ?_
            refine lv_iload_n hx hb dX4_goBackTo_50 rfl (lv_at hl 2 rfl) ?_
            have hPc := hP.sub (ws' := [(zz 0, .inr (7, [.ref (zz 1), .ref (zz 3), .int (nI kd), .int (nI ksg)])), (zz 1, .inr (5, [.ref (zz 2)])), (zz 2, .inl (dA 0, 30, .inl kS)), (zz 3, .inr (5, [.ref (zz 4)])), (zz 4, .inl (dA 0, 30, .inl kG))]) [0, 1, 2, 3, 4] rfl
            have hDc := hD.sub (ws' := [(zz 0, .inr (7, [.ref (zz 1), .ref (zz 3), .int (nI kd), .int (nI ksg)])), (zz 1, .inr (5, [.ref (zz 2)])), (zz 2, .inl (dA 0, 30, .inl kS)), (zz 3, .inr (5, [.ref (zz 4)])), (zz 4, .inl (dA 0, 30, .inl kG))]) [0, 1, 2, 3, 4] (by decide) rfl
            have hFc := va_free (wc := [(zz 0, .inr (7, [.ref (zz 1), .ref (zz 3), .int (nI kd), .int (nI ksg)])), (zz 1, .inr (5, [.ref (zz 2)])), (zz 2, .inl (dA 0, 30, .inl kS)), (zz 3, .inr (5, [.ref (zz 4)])), (zz 4, .inl (dA 0, 30, .inl kG))]) hD hS hA [0, 1, 2, 3, 4] rfl
            refine va_calli (va_runV (As := [.int (nI i4)]) (rest := [.int (nI i4), .ref (z 1)]) ⟨hx, hb, hml, hown, hts⟩ (s_stateOf l D dA E zz kS kG kd ksg i4 H.size  (by omega) (by omega) (by omega) hAK) (cwV 1 hts (ga_V q239 q240 q237 q241 q238) rfl rfl rfl (by decide +kernel) ⟨(Nat.le_of_ble_eq_true rfl), (Nat.le_of_ble_eq_true rfl)⟩) ⟨pb_blind, va_recv hK hPc (ci := 7) (q0 := 0) rfl rfl, pb_pre hK hPc hDc hZ hS hFc _⟩ rfl rfl hl.1 rfl (lv_room (Nat.le_of_ble_eq_true rfl)) dX4_goBackTo_51 ⟨(Nat.le_of_ble_eq_true rfl), (Nat.le_of_ble_eq_true rfl)⟩) hS (fun q _ h => hFc q h) hFc (fun r u t H1 locs ht hvm hw hB hz1 hk1 hS => ?_)
            refine W.widen (k := 0) (n := 0) (Nat.le_of_ble_eq_true rfl) (Nat.le_of_ble_eq_true rfl) ?_
            obtain ⟨r39, rfl⟩ : ∃ z, z = r := ⟨_, rfl⟩
            obtain ⟨u40, rfl⟩ : ∃ z, z = u := ⟨_, rfl⟩
            have hw41 := hw
            clear hw
            obtain ⟨hP1, hD1⟩ := hB
            rw [ht] at hP1
            obtain ⟨hP, hD⟩ := va_join (wr := [(z 0, .inr (7, [.ref (z 1), .ref (z 3), .int (nI nd), .int (nI nsg)])), (z 1, .inr (5, [.ref (z 2)])), (z 2, .inl (dA 0, 30, .inl (fl (crF kd kS 108) tS i4))), (z 3, .inr (5, [.ref (z 4)])), (z 4, .inl (dA 0, 30, .inl (fl (crF kd kG (-1)) tG i4)))]) (w1 := [(zz 0, .inr (7, [.ref (zz 1), .ref (zz 3), .int (nI kd), .int (nI ksg)])), (zz 1, .inr (5, [.ref (zz 2)])), (zz 2, .inl (dA 0, 30, .inl kS)), (zz 3, .inr (5, [.ref (zz 4)])), (zz 4, .inl (dA 0, 30, .inl kG))]) hP hD [0, 1, 2, 3, 4] [5, 6, 7, 8, 9] rfl rfl (by decide) (by decide) hk1 hFc hP1 hD1
            generalize H1 = H at hP hS ⊢
            have hP : va_P D vwCl [(z 0, .inr (7, [.ref (z 1), .ref (z 3), .int (nI nd), .int (nI nsg)])), (z 1, .inr (5, [.ref (z 2)])), (z 2, .inl (dA 0, 30, .inl (fl (crF kd kS 108) tS i4))), (z 3, .inr (5, [.ref (z 4)])), (z 4, .inl (dA 0, 30, .inl (fl (crF kd kG (-1)) tG i4))), (zz 0, .inr (7, [.ref (zz 1), .ref (zz 3), .int (nI kd), .int (nI ksg)])), (zz 1, .inr (5, [.ref (zz 2)])), (zz 2, .inl (dA 0, 30, .inl kS)), (zz 3, .inr (5, [.ref (zz 4)])), (zz 4, .inl (dA 0, 30, .inl kG))] H := hP
            have hD : va_D A [(z 0, .inr (7, [.ref (z 1), .ref (z 3), .int (nI nd), .int (nI nsg)])), (z 1, .inr (5, [.ref (z 2)])), (z 2, .inl (dA 0, 30, .inl (fl (crF kd kS 108) tS i4))), (z 3, .inr (5, [.ref (z 4)])), (z 4, .inl (dA 0, 30, .inl (fl (crF kd kG (-1)) tG i4))), (zz 0, .inr (7, [.ref (zz 1), .ref (zz 3), .int (nI kd), .int (nI ksg)])), (zz 1, .inr (5, [.ref (zz 2)])), (zz 2, .inl (dA 0, 30, .inl kS)), (zz 3, .inr (5, [.ref (zz 4)])), (zz 4, .inl (dA 0, 30, .inl kG))] := hD
            obtain rfl : r39 = kS i4 := hw41
            have hPc := hP.sub (ws' := [(z 1, .inr (5, [.ref (z 2)])), (z 2, .inl (dA 0, 30, .inl (fl (crF kd kS 108) tS i4)))]) [1, 2] rfl
            have hDc := hD.sub (ws' := [(z 1, .inr (5, [.ref (z 2)])), (z 2, .inl (dA 0, 30, .inl (fl (crF kd kS 108) tS i4)))]) [1, 2] (by decide) rfl
            have hFc := va_free (wc := [(z 1, .inr (5, [.ref (z 2)])), (z 2, .inl (dA 0, 30, .inl (fl (crF kd kS 108) tS i4)))]) hD hS hA [1, 2] rfl
            refine va_callv (va_runV (As := [.int (nI i4), .int (kS i4)]) (rest := []) ⟨hx, hb, hml, hown, hts⟩ (t_putN l D dA E (z 1) (z 2) 30 (fl (crF kd kS 108) tS i4) i4 (kS i4) H.size  (by omega) (by decide)) (cwV 2 hts (ga_V q242 q210 q207 q204 q208) rfl rfl rfl (by decide +kernel) ⟨(Nat.le_of_ble_eq_true rfl), (Nat.le_of_ble_eq_true rfl)⟩) ⟨pb_blind, va_recv hK hPc (ci := 5) (q0 := 0) rfl rfl, pb_pre hK hPc hDc hZ hS hFc _⟩ rfl rfl hl.1 rfl (lv_room (Nat.le_of_ble_eq_true rfl)) dX4_goBackTo_54 ⟨(Nat.le_of_ble_eq_true rfl), (Nat.le_of_ble_eq_true rfl)⟩) hS (fun q _ h => hFc q h) hFc (fun u t H1 locs ht hvm hw hB hz1 hk1 hS => ?_)
            refine W.widen (k := 0) (n := 0) (Nat.le_of_ble_eq_true rfl) (Nat.le_of_ble_eq_true rfl) ?_
            obtain ⟨u42, rfl⟩ : ∃ z, z = u := ⟨_, rfl⟩
            have hw43 := hw
            clear hw
            obtain ⟨hP1, hD1⟩ := hB
            rw [ht] at hP1
            obtain ⟨hP, hD⟩ := va_join (wr := [(z 0, .inr (7, [.ref (z 1), .ref (z 3), .int (nI nd), .int (nI nsg)])), (z 3, .inr (5, [.ref (z 4)])), (z 4, .inl (dA 0, 30, .inl (fl (crF kd kG (-1)) tG i4))), (zz 0, .inr (7, [.ref (zz 1), .ref (zz 3), .int (nI kd), .int (nI ksg)])), (zz 1, .inr (5, [.ref (zz 2)])), (zz 2, .inl (dA 0, 30, .inl kS)), (zz 3, .inr (5, [.ref (zz 4)])), (zz 4, .inl (dA 0, 30, .inl kG))]) (w1 := [(z 1, .inr (5, [.ref (z 2)])), (z 2, .inl (dA 0, 30, .inl (upd (fl (crF kd kS 108) tS i4) i4 (kS i4))))]) hP hD [1, 2] [0, 3, 4, 5, 6, 7, 8, 9] rfl rfl (by decide) (by decide) hk1 hFc hP1 hD1
            generalize H1 = H at hP hS ⊢
            have hP : va_P D vwCl [(z 0, .inr (7, [.ref (z 1), .ref (z 3), .int (nI nd), .int (nI nsg)])), (z 3, .inr (5, [.ref (z 4)])), (z 4, .inl (dA 0, 30, .inl (fl (crF kd kG (-1)) tG i4))), (zz 0, .inr (7, [.ref (zz 1), .ref (zz 3), .int (nI kd), .int (nI ksg)])), (zz 1, .inr (5, [.ref (zz 2)])), (zz 2, .inl (dA 0, 30, .inl kS)), (zz 3, .inr (5, [.ref (zz 4)])), (zz 4, .inl (dA 0, 30, .inl kG)), (z 1, .inr (5, [.ref (z 2)])), (z 2, .inl (dA 0, 30, .inl (upd (fl (crF kd kS 108) tS i4) i4 (kS i4))))] H := hP
            have hD : va_D A [(z 0, .inr (7, [.ref (z 1), .ref (z 3), .int (nI nd), .int (nI nsg)])), (z 3, .inr (5, [.ref (z 4)])), (z 4, .inl (dA 0, 30, .inl (fl (crF kd kG (-1)) tG i4))), (zz 0, .inr (7, [.ref (zz 1), .ref (zz 3), .int (nI kd), .int (nI ksg)])), (zz 1, .inr (5, [.ref (zz 2)])), (zz 2, .inl (dA 0, 30, .inl kS)), (zz 3, .inr (5, [.ref (zz 4)])), (zz 4, .inl (dA 0, 30, .inl kG)), (z 1, .inr (5, [.ref (z 2)])), (z 2, .inl (dA 0, 30, .inl (upd (fl (crF kd kS 108) tS i4) i4 (kS i4))))] := hD
            refine lv_aload_n hx hb dX4_goBackTo_57 rfl (lv_at hl 4 rfl) ?_
            refine va_get (D := D) (ci := 7) (v := .ref (z 3)) (C := RX4) (T := TX4) (N := 4) hx hb hts inAX4 hown hK hP 0 rfl rfl 1 (by decide) (hts _ q244) (fun _ h9 => h9) rfl dX4_goBackTo_58 ?_
            refine lv_iload_n hx hb dX4_goBackTo_61 rfl (lv_at hl 2 rfl) ?_
            refine lv_iload hx hb dX4_goBackTo_62 (lv_at hl 0 rfl) ?_
            refine lv_if_eq (tgt := 71) hx hb dX4_goBackTo_64 (by decide) (fun _ => ?_) (fun c44 => absurd (by decide) c44)
            refine lv_aload_n hx hb dX4_goBackTo_71 rfl (lv_at hl 5 rfl) ?_
            refine va_get (D := D) (ci := 7) (v := .ref (zz 3)) (C := RX4) (T := TX4) (N := 4) hx hb hts inAX4 hown hK hP 3 rfl rfl 1 (by decide) (hts _ q244) (fun _ h9 => h9) rfl dX4_goBackTo_72 ?_
            refine lv_iload_n hx hb dX4_goBackTo_75 rfl (lv_at hl 2 rfl) ?_
            have hPc := hP.sub (ws' := [(zz 3, .inr (5, [.ref (zz 4)])), (zz 4, .inl (dA 0, 30, .inl kG))]) [6, 7] rfl
            have hDc := hD.sub (ws' := [(zz 3, .inr (5, [.ref (zz 4)])), (zz 4, .inl (dA 0, 30, .inl kG))]) [6, 7] (by decide) rfl
            have hFc := va_free (wc := [(zz 3, .inr (5, [.ref (zz 4)])), (zz 4, .inl (dA 0, 30, .inl kG))]) hD hS hA [6, 7] rfl
            refine va_calli (va_runV (As := [.int (nI i4)]) (rest := [.int (nI i4), .ref (z 3)]) ⟨hx, hb, hml, hown, hts⟩ (t_getN l D dA E (zz 3) (zz 4) 30 kG i4 H.size  (by omega) (by decide)) (cwV 1 hts (ga_V q236 q203 q200 q204 q201) rfl rfl rfl (by decide +kernel) ⟨(Nat.le_of_ble_eq_true rfl), (Nat.le_of_ble_eq_true rfl)⟩) ⟨pb_blind, va_recv hK hPc (ci := 5) (q0 := 0) rfl rfl, pb_pre hK hPc hDc hZ hS hFc _⟩ rfl rfl hl.1 rfl (lv_room (Nat.le_of_ble_eq_true rfl)) dX4_goBackTo_76 ⟨(Nat.le_of_ble_eq_true rfl), (Nat.le_of_ble_eq_true rfl)⟩) hS (fun q _ h => hFc q h) hFc (fun r u t H1 locs ht hvm hw hB hz1 hk1 hS => ?_)
            refine W.widen (k := 0) (n := 0) (Nat.le_of_ble_eq_true rfl) (Nat.le_of_ble_eq_true rfl) ?_
            obtain ⟨r45, rfl⟩ : ∃ z, z = r := ⟨_, rfl⟩
            obtain ⟨u46, rfl⟩ : ∃ z, z = u := ⟨_, rfl⟩
            have hw47 := hw
            clear hw
            obtain ⟨hP1, hD1⟩ := hB
            rw [ht] at hP1
            obtain ⟨hP, hD⟩ := va_join (wr := [(z 0, .inr (7, [.ref (z 1), .ref (z 3), .int (nI nd), .int (nI nsg)])), (z 3, .inr (5, [.ref (z 4)])), (z 4, .inl (dA 0, 30, .inl (fl (crF kd kG (-1)) tG i4))), (zz 0, .inr (7, [.ref (zz 1), .ref (zz 3), .int (nI kd), .int (nI ksg)])), (zz 1, .inr (5, [.ref (zz 2)])), (zz 2, .inl (dA 0, 30, .inl kS)), (z 1, .inr (5, [.ref (z 2)])), (z 2, .inl (dA 0, 30, .inl (upd (fl (crF kd kS 108) tS i4) i4 (kS i4))))]) (w1 := [(zz 3, .inr (5, [.ref (zz 4)])), (zz 4, .inl (dA 0, 30, .inl kG))]) hP hD [6, 7] [0, 1, 2, 3, 4, 5, 8, 9] rfl rfl (by decide) (by decide) hk1 hFc hP1 hD1
            generalize H1 = H at hP hS ⊢
            have hP : va_P D vwCl [(z 0, .inr (7, [.ref (z 1), .ref (z 3), .int (nI nd), .int (nI nsg)])), (z 3, .inr (5, [.ref (z 4)])), (z 4, .inl (dA 0, 30, .inl (fl (crF kd kG (-1)) tG i4))), (zz 0, .inr (7, [.ref (zz 1), .ref (zz 3), .int (nI kd), .int (nI ksg)])), (zz 1, .inr (5, [.ref (zz 2)])), (zz 2, .inl (dA 0, 30, .inl kS)), (z 1, .inr (5, [.ref (z 2)])), (z 2, .inl (dA 0, 30, .inl (upd (fl (crF kd kS 108) tS i4) i4 (kS i4)))), (zz 3, .inr (5, [.ref (zz 4)])), (zz 4, .inl (dA 0, 30, .inl kG))] H := hP
            have hD : va_D A [(z 0, .inr (7, [.ref (z 1), .ref (z 3), .int (nI nd), .int (nI nsg)])), (z 3, .inr (5, [.ref (z 4)])), (z 4, .inl (dA 0, 30, .inl (fl (crF kd kG (-1)) tG i4))), (zz 0, .inr (7, [.ref (zz 1), .ref (zz 3), .int (nI kd), .int (nI ksg)])), (zz 1, .inr (5, [.ref (zz 2)])), (zz 2, .inl (dA 0, 30, .inl kS)), (z 1, .inr (5, [.ref (z 2)])), (z 2, .inl (dA 0, 30, .inl (upd (fl (crF kd kS 108) tS i4) i4 (kS i4)))), (zz 3, .inr (5, [.ref (zz 4)])), (zz 4, .inl (dA 0, 30, .inl kG))] := hD
            obtain rfl : r45 = kG i4 := hw47
            have hPc := hP.sub (ws' := [(z 3, .inr (5, [.ref (z 4)])), (z 4, .inl (dA 0, 30, .inl (fl (crF kd kG (-1)) tG i4)))]) [1, 2] rfl
            have hDc := hD.sub (ws' := [(z 3, .inr (5, [.ref (z 4)])), (z 4, .inl (dA 0, 30, .inl (fl (crF kd kG (-1)) tG i4)))]) [1, 2] (by decide) rfl
            have hFc := va_free (wc := [(z 3, .inr (5, [.ref (z 4)])), (z 4, .inl (dA 0, 30, .inl (fl (crF kd kG (-1)) tG i4)))]) hD hS hA [1, 2] rfl
            refine va_callv (va_runV (As := [.int (nI i4), .int (kG i4)]) (rest := []) ⟨hx, hb, hml, hown, hts⟩ (t_putN l D dA E (z 3) (z 4) 30 (fl (crF kd kG (-1)) tG i4) i4 (kG i4) H.size  (by omega) (by decide)) (cwV 2 hts (ga_V q242 q210 q207 q204 q208) rfl rfl rfl (by decide +kernel) ⟨(Nat.le_of_ble_eq_true rfl), (Nat.le_of_ble_eq_true rfl)⟩) ⟨pb_blind, va_recv hK hPc (ci := 5) (q0 := 0) rfl rfl, pb_pre hK hPc hDc hZ hS hFc _⟩ rfl rfl hl.1 rfl (lv_room (Nat.le_of_ble_eq_true rfl)) dX4_goBackTo_79 ⟨(Nat.le_of_ble_eq_true rfl), (Nat.le_of_ble_eq_true rfl)⟩) hS (fun q _ h => hFc q h) hFc (fun u t H1 locs ht hvm hw hB hz1 hk1 hS => ?_)
            refine W.widen (k := 0) (n := 0) (Nat.le_of_ble_eq_true rfl) (Nat.le_of_ble_eq_true rfl) ?_
            obtain ⟨u48, rfl⟩ : ∃ z, z = u := ⟨_, rfl⟩
            have hw49 := hw
            clear hw
            obtain ⟨hP1, hD1⟩ := hB
            rw [ht] at hP1
            obtain ⟨hP, hD⟩ := va_join (wr := [(z 0, .inr (7, [.ref (z 1), .ref (z 3), .int (nI nd), .int (nI nsg)])), (zz 0, .inr (7, [.ref (zz 1), .ref (zz 3), .int (nI kd), .int (nI ksg)])), (zz 1, .inr (5, [.ref (zz 2)])), (zz 2, .inl (dA 0, 30, .inl kS)), (z 1, .inr (5, [.ref (z 2)])), (z 2, .inl (dA 0, 30, .inl (upd (fl (crF kd kS 108) tS i4) i4 (kS i4)))), (zz 3, .inr (5, [.ref (zz 4)])), (zz 4, .inl (dA 0, 30, .inl kG))]) (w1 := [(z 3, .inr (5, [.ref (z 4)])), (z 4, .inl (dA 0, 30, .inl (upd (fl (crF kd kG (-1)) tG i4) i4 (kG i4))))]) hP hD [1, 2] [0, 3, 4, 5, 6, 7, 8, 9] rfl rfl (by decide) (by decide) hk1 hFc hP1 hD1
            generalize H1 = H at hP hS ⊢
            have hP : va_P D vwCl [(z 0, .inr (7, [.ref (z 1), .ref (z 3), .int (nI nd), .int (nI nsg)])), (zz 0, .inr (7, [.ref (zz 1), .ref (zz 3), .int (nI kd), .int (nI ksg)])), (zz 1, .inr (5, [.ref (zz 2)])), (zz 2, .inl (dA 0, 30, .inl kS)), (z 1, .inr (5, [.ref (z 2)])), (z 2, .inl (dA 0, 30, .inl (upd (fl (crF kd kS 108) tS i4) i4 (kS i4)))), (zz 3, .inr (5, [.ref (zz 4)])), (zz 4, .inl (dA 0, 30, .inl kG)), (z 3, .inr (5, [.ref (z 4)])), (z 4, .inl (dA 0, 30, .inl (upd (fl (crF kd kG (-1)) tG i4) i4 (kG i4))))] H := hP
            have hD : va_D A [(z 0, .inr (7, [.ref (z 1), .ref (z 3), .int (nI nd), .int (nI nsg)])), (zz 0, .inr (7, [.ref (zz 1), .ref (zz 3), .int (nI kd), .int (nI ksg)])), (zz 1, .inr (5, [.ref (zz 2)])), (zz 2, .inl (dA 0, 30, .inl kS)), (z 1, .inr (5, [.ref (z 2)])), (z 2, .inl (dA 0, 30, .inl (upd (fl (crF kd kS 108) tS i4) i4 (kS i4)))), (zz 3, .inr (5, [.ref (zz 4)])), (zz 4, .inl (dA 0, 30, .inl kG)), (z 3, .inr (5, [.ref (z 4)])), (z 4, .inl (dA 0, 30, .inl (upd (fl (crF kd kG (-1)) tG i4) i4 (kG i4))))] := hD
            refine lv_aload_n hx hb dX4_goBackTo_82 rfl (lv_at hl 4 rfl) ?_
            refine lv_iload_n hx hb dX4_goBackTo_83 rfl (lv_at hl 2 rfl) ?_
            have hPc := hP.sub (ws' := [(z 0, .inr (7, [.ref (z 1), .ref (z 3), .int (nI nd), .int (nI nsg)])), (z 1, .inr (5, [.ref (z 2)])), (z 2, .inl (dA 0, 30, .inl (upd (fl (crF kd kS 108) tS i4) i4 (kS i4)))), (z 3, .inr (5, [.ref (z 4)])), (z 4, .inl (dA 0, 30, .inl (upd (fl (crF kd kG (-1)) tG i4) i4 (kG i4))))]) [0, 4, 5, 8, 9] rfl
            have hDc := hD.sub (ws' := [(z 0, .inr (7, [.ref (z 1), .ref (z 3), .int (nI nd), .int (nI nsg)])), (z 1, .inr (5, [.ref (z 2)])), (z 2, .inl (dA 0, 30, .inl (upd (fl (crF kd kS 108) tS i4) i4 (kS i4)))), (z 3, .inr (5, [.ref (z 4)])), (z 4, .inl (dA 0, 30, .inl (upd (fl (crF kd kG (-1)) tG i4) i4 (kG i4))))]) [0, 4, 5, 8, 9] (by decide) rfl
            have hFc := va_free (wc := [(z 0, .inr (7, [.ref (z 1), .ref (z 3), .int (nI nd), .int (nI nsg)])), (z 1, .inr (5, [.ref (z 2)])), (z 2, .inl (dA 0, 30, .inl (upd (fl (crF kd kS 108) tS i4) i4 (kS i4)))), (z 3, .inr (5, [.ref (z 4)])), (z 4, .inl (dA 0, 30, .inl (upd (fl (crF kd kG (-1)) tG i4) i4 (kG i4))))]) hD hS hA [0, 4, 5, 8, 9] rfl
            refine va_calli (va_runV (As := [.int (nI i4)]) (rest := []) ⟨hx, hb, hml, hown, hts⟩ (s_lives l D dA E z (upd (fl (crF kd kS 108) tS i4) i4 (kS i4)) (upd (fl (crF kd kG (-1)) tG i4) i4 (kG i4)) nd nsg i4 H.size  (by omega) (by omega) (by omega) (AC_upd9 (AC_fl hAC (AC_cr hAK)) (hAK _))) (cwV 1 hts (ga_V q256 q257 q254 q241 q255) rfl rfl rfl (by decide +kernel) ⟨(Nat.le_of_ble_eq_true rfl), (Nat.le_of_ble_eq_true rfl)⟩) ⟨pb_blind, va_recv hK hPc (ci := 7) (q0 := 0) rfl rfl, pb_pre hK hPc hDc hZ hS hFc _⟩ rfl rfl hl.1 rfl (lv_room (Nat.le_of_ble_eq_true rfl)) dX4_goBackTo_84 ⟨(Nat.le_of_ble_eq_true rfl), (Nat.le_of_ble_eq_true rfl)⟩) hS (fun q _ h => hFc q h) hFc (fun r u t H1 locs ht hvm hw hB hz1 hk1 hS => ?_)
            refine W.widen (k := 0) (n := 0) (Nat.le_of_ble_eq_true rfl) (Nat.le_of_ble_eq_true rfl) ?_
            obtain ⟨r50, rfl⟩ : ∃ z, z = r := ⟨_, rfl⟩
            obtain ⟨u51, rfl⟩ : ∃ z, z = u := ⟨_, rfl⟩
            have hw52 := hw
            clear hw
            obtain ⟨hP1, hD1⟩ := hB
            rw [ht] at hP1
            obtain ⟨hP, hD⟩ := va_join (wr := [(zz 0, .inr (7, [.ref (zz 1), .ref (zz 3), .int (nI kd), .int (nI ksg)])), (zz 1, .inr (5, [.ref (zz 2)])), (zz 2, .inl (dA 0, 30, .inl kS)), (zz 3, .inr (5, [.ref (zz 4)])), (zz 4, .inl (dA 0, 30, .inl kG))]) (w1 := [(z 0, .inr (7, [.ref (z 1), .ref (z 3), .int (nI nd), .int (nI nsg)])), (z 1, .inr (5, [.ref (z 2)])), (z 2, .inl (dA 0, 30, .inl (upd (fl (crF kd kS 108) tS i4) i4 (kS i4)))), (z 3, .inr (5, [.ref (z 4)])), (z 4, .inl (dA 0, 30, .inl (upd (fl (crF kd kG (-1)) tG i4) i4 (kG i4))))]) hP hD [0, 4, 5, 8, 9] [1, 2, 3, 6, 7] rfl rfl (by decide) (by decide) hk1 hFc hP1 hD1
            generalize H1 = H at hP hS ⊢
            have hP : va_P D vwCl [(zz 0, .inr (7, [.ref (zz 1), .ref (zz 3), .int (nI kd), .int (nI ksg)])), (zz 1, .inr (5, [.ref (zz 2)])), (zz 2, .inl (dA 0, 30, .inl kS)), (zz 3, .inr (5, [.ref (zz 4)])), (zz 4, .inl (dA 0, 30, .inl kG)), (z 0, .inr (7, [.ref (z 1), .ref (z 3), .int (nI nd), .int (nI nsg)])), (z 1, .inr (5, [.ref (z 2)])), (z 2, .inl (dA 0, 30, .inl (upd (fl (crF kd kS 108) tS i4) i4 (kS i4)))), (z 3, .inr (5, [.ref (z 4)])), (z 4, .inl (dA 0, 30, .inl (upd (fl (crF kd kG (-1)) tG i4) i4 (kG i4))))] H := hP
            have hD : va_D A [(zz 0, .inr (7, [.ref (zz 1), .ref (zz 3), .int (nI kd), .int (nI ksg)])), (zz 1, .inr (5, [.ref (zz 2)])), (zz 2, .inl (dA 0, 30, .inl kS)), (zz 3, .inr (5, [.ref (zz 4)])), (zz 4, .inl (dA 0, 30, .inl kG)), (z 0, .inr (7, [.ref (z 1), .ref (z 3), .int (nI nd), .int (nI nsg)])), (z 1, .inr (5, [.ref (z 2)])), (z 2, .inl (dA 0, 30, .inl (upd (fl (crF kd kS 108) tS i4) i4 (kS i4)))), (z 3, .inr (5, [.ref (z 4)])), (z 4, .inl (dA 0, 30, .inl (upd (fl (crF kd kG (-1)) tG i4) i4 (kG i4))))] := hD
            have hth52 : r50 = bI (thB (kS i4)) := hw52.trans (congrArg (fun z9 => bI (thB z9)) pk_us)
            refine bt (b := (thB (kS i4))) ?_ ?_
            · intro hB53
              obtain rfl : r50 = 1 := hth52.trans (by rw [hB53]; rfl)
              refine lv_iload hx hb dX4_goBackTo_87 (lv_at hl 1 rfl) ?_
              refine lv_icmp_eq (tgt := 95) hx hb dX4_goBackTo_89 (by decide) (fun c54 => absurd c54 (by decide)) (fun _ => ?_)
              refine lv_iinc (v := nI ((cn (crB kd kS tS) i4) + 1)) (lv' := [(2, .int (nI ((cn (crB kd kS tS) i4) + 1))), (5, .int 0), (4, .int 0), (3, .int (nI i4)), (0, .ref (z 0)), (1, .ref (zz 0))]) hx hb dX4_goBackTo_92 hl (k := 3) rfl (nI_add (cn (crB kd kS tS) i4) 1) (by decide) rfl (fun ls hl => ?_)
              refine lv_iinc (v := nI (i4 + 1)) (lv' := [(3, .int (nI (i4 + 1))), (2, .int (nI ((cn (crB kd kS tS) i4) + 1))), (5, .int 0), (4, .int 0), (0, .ref (z 0)), (1, .ref (zz 0))]) hx hb dX4_goBackTo_95 hl (k := 3) rfl (nI_add i4 1) (by decide) rfl (fun ls hl => ?_)
              refine lv_goto (tgt := 4) hx hb dX4_goBackTo_98 (by decide) ?_
              have hP := hP.sub (ws' := [(z 0, .inr (7, [.ref (z 1), .ref (z 3), .int (nI nd), .int (nI nsg)])), (z 1, .inr (5, [.ref (z 2)])), (z 2, .inl (dA 0, 30, .inl (upd (fl (crF kd kS 108) tS i4) i4 (kS i4)))), (z 3, .inr (5, [.ref (z 4)])), (z 4, .inl (dA 0, 30, .inl (upd (fl (crF kd kG (-1)) tG i4) i4 (kG i4)))), (zz 0, .inr (7, [.ref (zz 1), .ref (zz 3), .int (nI kd), .int (nI ksg)])), (zz 1, .inr (5, [.ref (zz 2)])), (zz 2, .inl (dA 0, 30, .inl kS)), (zz 3, .inr (5, [.ref (zz 4)])), (zz 4, .inl (dA 0, 30, .inl kG))]) [5, 6, 7, 8, 9, 0, 1, 2, 3, 4] rfl
              have hD := hD.sub (ws' := [(z 0, .inr (7, [.ref (z 1), .ref (z 3), .int (nI nd), .int (nI nsg)])), (z 1, .inr (5, [.ref (z 2)])), (z 2, .inl (dA 0, 30, .inl (upd (fl (crF kd kS 108) tS i4) i4 (kS i4)))), (z 3, .inr (5, [.ref (z 4)])), (z 4, .inl (dA 0, 30, .inl (upd (fl (crF kd kG (-1)) tG i4) i4 (kG i4)))), (zz 0, .inr (7, [.ref (zz 1), .ref (zz 3), .int (nI kd), .int (nI ksg)])), (zz 1, .inr (5, [.ref (zz 2)])), (zz 2, .inl (dA 0, 30, .inl kS)), (zz 3, .inr (5, [.ref (zz 4)])), (zz 4, .inl (dA 0, 30, .inl kG))]) [5, 6, 7, 8, 9, 0, 1, 2, 3, 4] (by decide) rfl
              exact ih4 (i4 + 1) (upd (fl (crF kd kS 108) tS i4) i4 (kS i4)) (upd (fl (crF kd kG (-1)) tG i4) i4 (kG i4)) (nI ((cn (crB kd kS tS) i4) + 1)) (by omega) (by omega) (by omega) ⟨(fl_succ (by show _ = crF _ _ _ _; rw [crF, if_pos (by omega)])), (fl_succ (by show _ = crF _ _ _ _; rw [crF, if_pos (by omega)])), (cn_y (f := (crB kd kS tS)) (by unfold crB; rw [crF, if_pos (by omega)]; simp [hB5, hB53]))⟩ _ _ hP hD hS ls (lv_sub hl [0, 1, 4, 5] rfl)
            · intro hB53
              obtain rfl : r50 = 0 := hth52.trans (by rw [hB53]; rfl)
              refine lv_iload hx hb dX4_goBackTo_87 (lv_at hl 1 rfl) ?_
              refine lv_icmp_eq (tgt := 95) hx hb dX4_goBackTo_89 (by decide) (fun _ => ?_) (fun c55 => absurd (by decide) c55)
              refine lv_iinc (v := nI (i4 + 1)) (lv' := [(3, .int (nI (i4 + 1))), (5, .int 0), (4, .int 0), (2, .int (nI (cn (crB kd kS tS) i4))), (0, .ref (z 0)), (1, .ref (zz 0))]) hx hb dX4_goBackTo_95 hl (k := 2) rfl (nI_add i4 1) (by decide) rfl (fun ls hl => ?_)
              refine lv_goto (tgt := 4) hx hb dX4_goBackTo_98 (by decide) ?_
              have hP := hP.sub (ws' := [(z 0, .inr (7, [.ref (z 1), .ref (z 3), .int (nI nd), .int (nI nsg)])), (z 1, .inr (5, [.ref (z 2)])), (z 2, .inl (dA 0, 30, .inl (upd (fl (crF kd kS 108) tS i4) i4 (kS i4)))), (z 3, .inr (5, [.ref (z 4)])), (z 4, .inl (dA 0, 30, .inl (upd (fl (crF kd kG (-1)) tG i4) i4 (kG i4)))), (zz 0, .inr (7, [.ref (zz 1), .ref (zz 3), .int (nI kd), .int (nI ksg)])), (zz 1, .inr (5, [.ref (zz 2)])), (zz 2, .inl (dA 0, 30, .inl kS)), (zz 3, .inr (5, [.ref (zz 4)])), (zz 4, .inl (dA 0, 30, .inl kG))]) [5, 6, 7, 8, 9, 0, 1, 2, 3, 4] rfl
              have hD := hD.sub (ws' := [(z 0, .inr (7, [.ref (z 1), .ref (z 3), .int (nI nd), .int (nI nsg)])), (z 1, .inr (5, [.ref (z 2)])), (z 2, .inl (dA 0, 30, .inl (upd (fl (crF kd kS 108) tS i4) i4 (kS i4)))), (z 3, .inr (5, [.ref (z 4)])), (z 4, .inl (dA 0, 30, .inl (upd (fl (crF kd kG (-1)) tG i4) i4 (kG i4)))), (zz 0, .inr (7, [.ref (zz 1), .ref (zz 3), .int (nI kd), .int (nI ksg)])), (zz 1, .inr (5, [.ref (zz 2)])), (zz 2, .inl (dA 0, 30, .inl kS)), (zz 3, .inr (5, [.ref (zz 4)])), (zz 4, .inl (dA 0, 30, .inl kG))]) [5, 6, 7, 8, 9, 0, 1, 2, 3, 4] (by decide) rfl
              exact ih4 (i4 + 1) (upd (fl (crF kd kS 108) tS i4) i4 (kS i4)) (upd (fl (crF kd kG (-1)) tG i4) i4 (kG i4)) (nI (cn (crB kd kS tS) i4)) (by omega) (by omega) (by omega) ⟨(fl_succ (by show _ = crF _ _ _ _; rw [crF, if_pos (by omega)])), (fl_succ (by show _ = crF _ _ _ _; rw [crF, if_pos (by omega)])), (cn_n' (f := (crB kd kS tS)) (by unfold crB; rw [crF, if_pos (by omega)]; simp [hB5, hB53]))⟩ _ _ hP hD hS ls (lv_sub hl [0, 3, 4, 5] rfl)
          · replace c37 := mt (nI_ltI (a := i4) (b := kd) (by omega) (by omega)).mpr c37
            refine lv_iconst (v := 1) hx hb dX4_goBackTo_27 (by decide) ?_
            refine lv_goto (tgt := 32) hx hb dX4_goBackTo_28 (by decide) ?_
            refine lv_istore (lv' := [(5, .int 1), (4, .int 0), (3, .int (nI i4)), (2, .int (nI (cn (crB kd kS tS) i4))), (0, .ref (z 0)), (1, .ref (zz 0))]) hx hb dX4_goBackTo_32 hl (by decide) rfl (fun ls hl => ?_)
            refine lv_aload_n hx hb dX4_goBackTo_34 rfl (lv_at hl 4 rfl) ?_
            refine va_get (D := D) (ci := 7) (v := .ref (z 1)) (C := RX4) (T := TX4) (N := 4) hx hb hts inAX4 hown hK hP 5 rfl rfl 0 (by decide) (hts _ q235) (fun _ h9 => h9) rfl dX4_goBackTo_35 ?_
            refine lv_iload_n hx hb dX4_goBackTo_38 rfl (lv_at hl 2 rfl) ?_
            refine lv_iload hx hb dX4_goBackTo_39 (lv_at hl 0 rfl) ?_
            refine lv_if_eq (tgt := 49) hx hb dX4_goBackTo_41 (by decide) (fun c56 => absurd c56 (by decide)) (fun _ => ?_)
            refine lv_bipush (v := 108) hx hb dX4_goBackTo_44 (by decide) ?_
            refine lv_goto (tgt := 54) hx hb dX4_goBackTo_46 (by decide) ?_
            have hPc := hP.sub (ws' := [(z 1, .inr (5, [.ref (z 2)])), (z 2, .inl (dA 0, 30, .inl (fl (crF kd kS 108) tS i4)))]) [6, 7] rfl
            have hDc := hD.sub (ws' := [(z 1, .inr (5, [.ref (z 2)])), (z 2, .inl (dA 0, 30, .inl (fl (crF kd kS 108) tS i4)))]) [6, 7] (by decide) rfl
            have hFc := va_free (wc := [(z 1, .inr (5, [.ref (z 2)])), (z 2, .inl (dA 0, 30, .inl (fl (crF kd kS 108) tS i4)))]) hD hS hA [6, 7] rfl
            refine va_callv (va_runV (As := [.int (nI i4), .int 108]) (rest := []) ⟨hx, hb, hml, hown, hts⟩ (t_putN l D dA E (z 1) (z 2) 30 (fl (crF kd kS 108) tS i4) i4 108 H.size  (by omega) (by decide)) (cwV 2 hts (ga_V q242 q210 q207 q204 q208) rfl rfl rfl (by decide +kernel) ⟨(Nat.le_of_ble_eq_true rfl), (Nat.le_of_ble_eq_true rfl)⟩) ⟨pb_blind, va_recv hK hPc (ci := 5) (q0 := 0) rfl rfl, pb_pre hK hPc hDc hZ hS hFc _⟩ rfl rfl hl.1 rfl (lv_room (Nat.le_of_ble_eq_true rfl)) dX4_goBackTo_54 ⟨(Nat.le_of_ble_eq_true rfl), (Nat.le_of_ble_eq_true rfl)⟩) hS (fun q _ h => hFc q h) hFc (fun u t H1 locs ht hvm hw hB hz1 hk1 hS => ?_)
            refine W.widen (k := 0) (n := 0) (Nat.le_of_ble_eq_true rfl) (Nat.le_of_ble_eq_true rfl) ?_
            obtain ⟨u57, rfl⟩ : ∃ z, z = u := ⟨_, rfl⟩
            have hw58 := hw
            clear hw
            obtain ⟨hP1, hD1⟩ := hB
            rw [ht] at hP1
            obtain ⟨hP, hD⟩ := va_join (wr := [(zz 0, .inr (7, [.ref (zz 1), .ref (zz 3), .int (nI kd), .int (nI ksg)])), (zz 1, .inr (5, [.ref (zz 2)])), (zz 2, .inl (dA 0, 30, .inl kS)), (zz 3, .inr (5, [.ref (zz 4)])), (zz 4, .inl (dA 0, 30, .inl kG)), (z 0, .inr (7, [.ref (z 1), .ref (z 3), .int (nI nd), .int (nI nsg)])), (z 3, .inr (5, [.ref (z 4)])), (z 4, .inl (dA 0, 30, .inl (fl (crF kd kG (-1)) tG i4)))]) (w1 := [(z 1, .inr (5, [.ref (z 2)])), (z 2, .inl (dA 0, 30, .inl (upd (fl (crF kd kS 108) tS i4) i4 108)))]) hP hD [6, 7] [0, 1, 2, 3, 4, 5, 8, 9] rfl rfl (by decide) (by decide) hk1 hFc hP1 hD1
            generalize H1 = H at hP hS ⊢
            have hP : va_P D vwCl [(zz 0, .inr (7, [.ref (zz 1), .ref (zz 3), .int (nI kd), .int (nI ksg)])), (zz 1, .inr (5, [.ref (zz 2)])), (zz 2, .inl (dA 0, 30, .inl kS)), (zz 3, .inr (5, [.ref (zz 4)])), (zz 4, .inl (dA 0, 30, .inl kG)), (z 0, .inr (7, [.ref (z 1), .ref (z 3), .int (nI nd), .int (nI nsg)])), (z 3, .inr (5, [.ref (z 4)])), (z 4, .inl (dA 0, 30, .inl (fl (crF kd kG (-1)) tG i4))), (z 1, .inr (5, [.ref (z 2)])), (z 2, .inl (dA 0, 30, .inl (upd (fl (crF kd kS 108) tS i4) i4 108)))] H := hP
            have hD : va_D A [(zz 0, .inr (7, [.ref (zz 1), .ref (zz 3), .int (nI kd), .int (nI ksg)])), (zz 1, .inr (5, [.ref (zz 2)])), (zz 2, .inl (dA 0, 30, .inl kS)), (zz 3, .inr (5, [.ref (zz 4)])), (zz 4, .inl (dA 0, 30, .inl kG)), (z 0, .inr (7, [.ref (z 1), .ref (z 3), .int (nI nd), .int (nI nsg)])), (z 3, .inr (5, [.ref (z 4)])), (z 4, .inl (dA 0, 30, .inl (fl (crF kd kG (-1)) tG i4))), (z 1, .inr (5, [.ref (z 2)])), (z 2, .inl (dA 0, 30, .inl (upd (fl (crF kd kS 108) tS i4) i4 108)))] := hD
            refine lv_aload_n hx hb dX4_goBackTo_57 rfl (lv_at hl 4 rfl) ?_
            refine va_get (D := D) (ci := 7) (v := .ref (z 3)) (C := RX4) (T := TX4) (N := 4) hx hb hts inAX4 hown hK hP 5 rfl rfl 1 (by decide) (hts _ q244) (fun _ h9 => h9) rfl dX4_goBackTo_58 ?_
            refine lv_iload_n hx hb dX4_goBackTo_61 rfl (lv_at hl 2 rfl) ?_
            refine lv_iload hx hb dX4_goBackTo_62 (lv_at hl 0 rfl) ?_
            refine lv_if_eq (tgt := 71) hx hb dX4_goBackTo_64 (by decide) (fun c59 => absurd c59 (by decide)) (fun _ => ?_)
            refine lv_iconst (v := (-1)) hx hb dX4_goBackTo_67 (by decide) ?_
            refine lv_goto (tgt := 79) hx hb dX4_goBackTo_68 (by decide) ?_
            have hPc := hP.sub (ws' := [(z 3, .inr (5, [.ref (z 4)])), (z 4, .inl (dA 0, 30, .inl (fl (crF kd kG (-1)) tG i4)))]) [6, 7] rfl
            have hDc := hD.sub (ws' := [(z 3, .inr (5, [.ref (z 4)])), (z 4, .inl (dA 0, 30, .inl (fl (crF kd kG (-1)) tG i4)))]) [6, 7] (by decide) rfl
            have hFc := va_free (wc := [(z 3, .inr (5, [.ref (z 4)])), (z 4, .inl (dA 0, 30, .inl (fl (crF kd kG (-1)) tG i4)))]) hD hS hA [6, 7] rfl
            refine va_callv (va_runV (As := [.int (nI i4), .int (-1)]) (rest := []) ⟨hx, hb, hml, hown, hts⟩ (t_putN l D dA E (z 3) (z 4) 30 (fl (crF kd kG (-1)) tG i4) i4 (-1) H.size  (by omega) (by decide)) (cwV 2 hts (ga_V q242 q210 q207 q204 q208) rfl rfl rfl (by decide +kernel) ⟨(Nat.le_of_ble_eq_true rfl), (Nat.le_of_ble_eq_true rfl)⟩) ⟨pb_blind, va_recv hK hPc (ci := 5) (q0 := 0) rfl rfl, pb_pre hK hPc hDc hZ hS hFc _⟩ rfl rfl hl.1 rfl (lv_room (Nat.le_of_ble_eq_true rfl)) dX4_goBackTo_79 ⟨(Nat.le_of_ble_eq_true rfl), (Nat.le_of_ble_eq_true rfl)⟩) hS (fun q _ h => hFc q h) hFc (fun u t H1 locs ht hvm hw hB hz1 hk1 hS => ?_)
            refine W.widen (k := 0) (n := 0) (Nat.le_of_ble_eq_true rfl) (Nat.le_of_ble_eq_true rfl) ?_
            obtain ⟨u60, rfl⟩ : ∃ z, z = u := ⟨_, rfl⟩
            have hw61 := hw
            clear hw
            obtain ⟨hP1, hD1⟩ := hB
            rw [ht] at hP1
            obtain ⟨hP, hD⟩ := va_join (wr := [(zz 0, .inr (7, [.ref (zz 1), .ref (zz 3), .int (nI kd), .int (nI ksg)])), (zz 1, .inr (5, [.ref (zz 2)])), (zz 2, .inl (dA 0, 30, .inl kS)), (zz 3, .inr (5, [.ref (zz 4)])), (zz 4, .inl (dA 0, 30, .inl kG)), (z 0, .inr (7, [.ref (z 1), .ref (z 3), .int (nI nd), .int (nI nsg)])), (z 1, .inr (5, [.ref (z 2)])), (z 2, .inl (dA 0, 30, .inl (upd (fl (crF kd kS 108) tS i4) i4 108)))]) (w1 := [(z 3, .inr (5, [.ref (z 4)])), (z 4, .inl (dA 0, 30, .inl (upd (fl (crF kd kG (-1)) tG i4) i4 (-1))))]) hP hD [6, 7] [0, 1, 2, 3, 4, 5, 8, 9] rfl rfl (by decide) (by decide) hk1 hFc hP1 hD1
            generalize H1 = H at hP hS ⊢
            have hP : va_P D vwCl [(zz 0, .inr (7, [.ref (zz 1), .ref (zz 3), .int (nI kd), .int (nI ksg)])), (zz 1, .inr (5, [.ref (zz 2)])), (zz 2, .inl (dA 0, 30, .inl kS)), (zz 3, .inr (5, [.ref (zz 4)])), (zz 4, .inl (dA 0, 30, .inl kG)), (z 0, .inr (7, [.ref (z 1), .ref (z 3), .int (nI nd), .int (nI nsg)])), (z 1, .inr (5, [.ref (z 2)])), (z 2, .inl (dA 0, 30, .inl (upd (fl (crF kd kS 108) tS i4) i4 108))), (z 3, .inr (5, [.ref (z 4)])), (z 4, .inl (dA 0, 30, .inl (upd (fl (crF kd kG (-1)) tG i4) i4 (-1))))] H := hP
            have hD : va_D A [(zz 0, .inr (7, [.ref (zz 1), .ref (zz 3), .int (nI kd), .int (nI ksg)])), (zz 1, .inr (5, [.ref (zz 2)])), (zz 2, .inl (dA 0, 30, .inl kS)), (zz 3, .inr (5, [.ref (zz 4)])), (zz 4, .inl (dA 0, 30, .inl kG)), (z 0, .inr (7, [.ref (z 1), .ref (z 3), .int (nI nd), .int (nI nsg)])), (z 1, .inr (5, [.ref (z 2)])), (z 2, .inl (dA 0, 30, .inl (upd (fl (crF kd kS 108) tS i4) i4 108))), (z 3, .inr (5, [.ref (z 4)])), (z 4, .inl (dA 0, 30, .inl (upd (fl (crF kd kG (-1)) tG i4) i4 (-1))))] := hD
            refine lv_aload_n hx hb dX4_goBackTo_82 rfl (lv_at hl 4 rfl) ?_
            refine lv_iload_n hx hb dX4_goBackTo_83 rfl (lv_at hl 2 rfl) ?_
            have hPc := hP.sub (ws' := [(z 0, .inr (7, [.ref (z 1), .ref (z 3), .int (nI nd), .int (nI nsg)])), (z 1, .inr (5, [.ref (z 2)])), (z 2, .inl (dA 0, 30, .inl (upd (fl (crF kd kS 108) tS i4) i4 108))), (z 3, .inr (5, [.ref (z 4)])), (z 4, .inl (dA 0, 30, .inl (upd (fl (crF kd kG (-1)) tG i4) i4 (-1))))]) [5, 6, 7, 8, 9] rfl
            have hDc := hD.sub (ws' := [(z 0, .inr (7, [.ref (z 1), .ref (z 3), .int (nI nd), .int (nI nsg)])), (z 1, .inr (5, [.ref (z 2)])), (z 2, .inl (dA 0, 30, .inl (upd (fl (crF kd kS 108) tS i4) i4 108))), (z 3, .inr (5, [.ref (z 4)])), (z 4, .inl (dA 0, 30, .inl (upd (fl (crF kd kG (-1)) tG i4) i4 (-1))))]) [5, 6, 7, 8, 9] (by decide) rfl
            have hFc := va_free (wc := [(z 0, .inr (7, [.ref (z 1), .ref (z 3), .int (nI nd), .int (nI nsg)])), (z 1, .inr (5, [.ref (z 2)])), (z 2, .inl (dA 0, 30, .inl (upd (fl (crF kd kS 108) tS i4) i4 108))), (z 3, .inr (5, [.ref (z 4)])), (z 4, .inl (dA 0, 30, .inl (upd (fl (crF kd kG (-1)) tG i4) i4 (-1))))]) hD hS hA [5, 6, 7, 8, 9] rfl
            refine va_calli (va_runV (As := [.int (nI i4)]) (rest := []) ⟨hx, hb, hml, hown, hts⟩ (s_lives l D dA E z (upd (fl (crF kd kS 108) tS i4) i4 108) (upd (fl (crF kd kG (-1)) tG i4) i4 (-1)) nd nsg i4 H.size  (by omega) (by omega) (by omega) (AC_upd9 (AC_fl hAC (AC_cr hAK)) (by decide))) (cwV 1 hts (ga_V q256 q257 q254 q241 q255) rfl rfl rfl (by decide +kernel) ⟨(Nat.le_of_ble_eq_true rfl), (Nat.le_of_ble_eq_true rfl)⟩) ⟨pb_blind, va_recv hK hPc (ci := 7) (q0 := 0) rfl rfl, pb_pre hK hPc hDc hZ hS hFc _⟩ rfl rfl hl.1 rfl (lv_room (Nat.le_of_ble_eq_true rfl)) dX4_goBackTo_84 ⟨(Nat.le_of_ble_eq_true rfl), (Nat.le_of_ble_eq_true rfl)⟩) hS (fun q _ h => hFc q h) hFc (fun r u t H1 locs ht hvm hw hB hz1 hk1 hS => ?_)
            refine W.widen (k := 0) (n := 0) (Nat.le_of_ble_eq_true rfl) (Nat.le_of_ble_eq_true rfl) ?_
            obtain ⟨r62, rfl⟩ : ∃ z, z = r := ⟨_, rfl⟩
            obtain ⟨u63, rfl⟩ : ∃ z, z = u := ⟨_, rfl⟩
            have hw64 := hw
            clear hw
            obtain ⟨hP1, hD1⟩ := hB
            rw [ht] at hP1
            obtain ⟨hP, hD⟩ := va_join (wr := [(zz 0, .inr (7, [.ref (zz 1), .ref (zz 3), .int (nI kd), .int (nI ksg)])), (zz 1, .inr (5, [.ref (zz 2)])), (zz 2, .inl (dA 0, 30, .inl kS)), (zz 3, .inr (5, [.ref (zz 4)])), (zz 4, .inl (dA 0, 30, .inl kG))]) (w1 := [(z 0, .inr (7, [.ref (z 1), .ref (z 3), .int (nI nd), .int (nI nsg)])), (z 1, .inr (5, [.ref (z 2)])), (z 2, .inl (dA 0, 30, .inl (upd (fl (crF kd kS 108) tS i4) i4 108))), (z 3, .inr (5, [.ref (z 4)])), (z 4, .inl (dA 0, 30, .inl (upd (fl (crF kd kG (-1)) tG i4) i4 (-1))))]) hP hD [5, 6, 7, 8, 9] [0, 1, 2, 3, 4] rfl rfl (by decide) (by decide) hk1 hFc hP1 hD1
            generalize H1 = H at hP hS ⊢
            have hP : va_P D vwCl [(zz 0, .inr (7, [.ref (zz 1), .ref (zz 3), .int (nI kd), .int (nI ksg)])), (zz 1, .inr (5, [.ref (zz 2)])), (zz 2, .inl (dA 0, 30, .inl kS)), (zz 3, .inr (5, [.ref (zz 4)])), (zz 4, .inl (dA 0, 30, .inl kG)), (z 0, .inr (7, [.ref (z 1), .ref (z 3), .int (nI nd), .int (nI nsg)])), (z 1, .inr (5, [.ref (z 2)])), (z 2, .inl (dA 0, 30, .inl (upd (fl (crF kd kS 108) tS i4) i4 108))), (z 3, .inr (5, [.ref (z 4)])), (z 4, .inl (dA 0, 30, .inl (upd (fl (crF kd kG (-1)) tG i4) i4 (-1))))] H := hP
            have hD : va_D A [(zz 0, .inr (7, [.ref (zz 1), .ref (zz 3), .int (nI kd), .int (nI ksg)])), (zz 1, .inr (5, [.ref (zz 2)])), (zz 2, .inl (dA 0, 30, .inl kS)), (zz 3, .inr (5, [.ref (zz 4)])), (zz 4, .inl (dA 0, 30, .inl kG)), (z 0, .inr (7, [.ref (z 1), .ref (z 3), .int (nI nd), .int (nI nsg)])), (z 1, .inr (5, [.ref (z 2)])), (z 2, .inl (dA 0, 30, .inl (upd (fl (crF kd kS 108) tS i4) i4 108))), (z 3, .inr (5, [.ref (z 4)])), (z 4, .inl (dA 0, 30, .inl (upd (fl (crF kd kG (-1)) tG i4) i4 (-1))))] := hD
            have hth64 : r62 = bI (thB 108) := hw64.trans (congrArg (fun z9 => bI (thB z9)) pk_us)
            refine bt (b := (thB 108)) ?_ ?_
            · intro hB65
              obtain rfl : r62 = 1 := hth64.trans (by rw [hB65]; rfl)
              refine lv_iload hx hb dX4_goBackTo_87 (lv_at hl 1 rfl) ?_
              refine lv_icmp_eq (tgt := 95) hx hb dX4_goBackTo_89 (by decide) (fun c66 => absurd c66 (by decide)) (fun _ => ?_)
              refine lv_iinc (v := nI ((cn (crB kd kS tS) i4) + 1)) (lv' := [(2, .int (nI ((cn (crB kd kS tS) i4) + 1))), (5, .int 1), (4, .int 0), (3, .int (nI i4)), (0, .ref (z 0)), (1, .ref (zz 0))]) hx hb dX4_goBackTo_92 hl (k := 3) rfl (nI_add (cn (crB kd kS tS) i4) 1) (by decide) rfl (fun ls hl => ?_)
              refine lv_iinc (v := nI (i4 + 1)) (lv' := [(3, .int (nI (i4 + 1))), (2, .int (nI ((cn (crB kd kS tS) i4) + 1))), (5, .int 1), (4, .int 0), (0, .ref (z 0)), (1, .ref (zz 0))]) hx hb dX4_goBackTo_95 hl (k := 3) rfl (nI_add i4 1) (by decide) rfl (fun ls hl => ?_)
              refine lv_goto (tgt := 4) hx hb dX4_goBackTo_98 (by decide) ?_
              have hP := hP.sub (ws' := [(z 0, .inr (7, [.ref (z 1), .ref (z 3), .int (nI nd), .int (nI nsg)])), (z 1, .inr (5, [.ref (z 2)])), (z 2, .inl (dA 0, 30, .inl (upd (fl (crF kd kS 108) tS i4) i4 108))), (z 3, .inr (5, [.ref (z 4)])), (z 4, .inl (dA 0, 30, .inl (upd (fl (crF kd kG (-1)) tG i4) i4 (-1)))), (zz 0, .inr (7, [.ref (zz 1), .ref (zz 3), .int (nI kd), .int (nI ksg)])), (zz 1, .inr (5, [.ref (zz 2)])), (zz 2, .inl (dA 0, 30, .inl kS)), (zz 3, .inr (5, [.ref (zz 4)])), (zz 4, .inl (dA 0, 30, .inl kG))]) [5, 6, 7, 8, 9, 0, 1, 2, 3, 4] rfl
              have hD := hD.sub (ws' := [(z 0, .inr (7, [.ref (z 1), .ref (z 3), .int (nI nd), .int (nI nsg)])), (z 1, .inr (5, [.ref (z 2)])), (z 2, .inl (dA 0, 30, .inl (upd (fl (crF kd kS 108) tS i4) i4 108))), (z 3, .inr (5, [.ref (z 4)])), (z 4, .inl (dA 0, 30, .inl (upd (fl (crF kd kG (-1)) tG i4) i4 (-1)))), (zz 0, .inr (7, [.ref (zz 1), .ref (zz 3), .int (nI kd), .int (nI ksg)])), (zz 1, .inr (5, [.ref (zz 2)])), (zz 2, .inl (dA 0, 30, .inl kS)), (zz 3, .inr (5, [.ref (zz 4)])), (zz 4, .inl (dA 0, 30, .inl kG))]) [5, 6, 7, 8, 9, 0, 1, 2, 3, 4] (by decide) rfl
              exact ih4 (i4 + 1) (upd (fl (crF kd kS 108) tS i4) i4 108) (upd (fl (crF kd kG (-1)) tG i4) i4 (-1)) (nI ((cn (crB kd kS tS) i4) + 1)) (by omega) (by omega) (by omega) ⟨(fl_succ (by show _ = crF _ _ _ _; rw [crF, if_neg (by omega)])), (fl_succ (by show _ = crF _ _ _ _; rw [crF, if_neg (by omega)])), (cn_y (f := (crB kd kS tS)) (by unfold crB; rw [crF, if_neg (by omega)]; simp [hB5, hB65]))⟩ _ _ hP hD hS ls (lv_sub hl [0, 1, 4, 5] rfl)
            · intro hB65
              obtain rfl : r62 = 0 := hth64.trans (by rw [hB65]; rfl)
              refine lv_iload hx hb dX4_goBackTo_87 (lv_at hl 1 rfl) ?_
              refine lv_icmp_eq (tgt := 95) hx hb dX4_goBackTo_89 (by decide) (fun _ => ?_) (fun c67 => absurd (by decide) c67)
              refine lv_iinc (v := nI (i4 + 1)) (lv' := [(3, .int (nI (i4 + 1))), (5, .int 1), (4, .int 0), (2, .int (nI (cn (crB kd kS tS) i4))), (0, .ref (z 0)), (1, .ref (zz 0))]) hx hb dX4_goBackTo_95 hl (k := 2) rfl (nI_add i4 1) (by decide) rfl (fun ls hl => ?_)
              refine lv_goto (tgt := 4) hx hb dX4_goBackTo_98 (by decide) ?_
              have hP := hP.sub (ws' := [(z 0, .inr (7, [.ref (z 1), .ref (z 3), .int (nI nd), .int (nI nsg)])), (z 1, .inr (5, [.ref (z 2)])), (z 2, .inl (dA 0, 30, .inl (upd (fl (crF kd kS 108) tS i4) i4 108))), (z 3, .inr (5, [.ref (z 4)])), (z 4, .inl (dA 0, 30, .inl (upd (fl (crF kd kG (-1)) tG i4) i4 (-1)))), (zz 0, .inr (7, [.ref (zz 1), .ref (zz 3), .int (nI kd), .int (nI ksg)])), (zz 1, .inr (5, [.ref (zz 2)])), (zz 2, .inl (dA 0, 30, .inl kS)), (zz 3, .inr (5, [.ref (zz 4)])), (zz 4, .inl (dA 0, 30, .inl kG))]) [5, 6, 7, 8, 9, 0, 1, 2, 3, 4] rfl
              have hD := hD.sub (ws' := [(z 0, .inr (7, [.ref (z 1), .ref (z 3), .int (nI nd), .int (nI nsg)])), (z 1, .inr (5, [.ref (z 2)])), (z 2, .inl (dA 0, 30, .inl (upd (fl (crF kd kS 108) tS i4) i4 108))), (z 3, .inr (5, [.ref (z 4)])), (z 4, .inl (dA 0, 30, .inl (upd (fl (crF kd kG (-1)) tG i4) i4 (-1)))), (zz 0, .inr (7, [.ref (zz 1), .ref (zz 3), .int (nI kd), .int (nI ksg)])), (zz 1, .inr (5, [.ref (zz 2)])), (zz 2, .inl (dA 0, 30, .inl kS)), (zz 3, .inr (5, [.ref (zz 4)])), (zz 4, .inl (dA 0, 30, .inl kG))]) [5, 6, 7, 8, 9, 0, 1, 2, 3, 4] (by decide) rfl
              exact ih4 (i4 + 1) (upd (fl (crF kd kS 108) tS i4) i4 108) (upd (fl (crF kd kG (-1)) tG i4) i4 (-1)) (nI (cn (crB kd kS tS) i4)) (by omega) (by omega) (by omega) ⟨(fl_succ (by show _ = crF _ _ _ _; rw [crF, if_neg (by omega)])), (fl_succ (by show _ = crF _ _ _ _; rw [crF, if_neg (by omega)])), (cn_n' (f := (crB kd kS tS)) (by unfold crB; rw [crF, if_neg (by omega)]; simp [hB5, hB65]))⟩ _ _ hP hD hS ls (lv_sub hl [0, 3, 4, 5] rfl)
  exact K4 (nd + 1) 0 tS tG 0 (by omega) (by omega) (by omega) ⟨fl_0.symm, fl_0.symm, rfl⟩ _ _ hP hD hS ls hl

set_option maxHeartbeats 4000000 in
set_option maxRecDepth 100000 in
theorem s_listPresent (l : Launch) (D : va_G) (dA : Nat → ClassId) (E : Nat) (z : Nat → Nat) (tS tG : Nat → Int32) (nd nsg : Nat) (h r0 : Nat) (tL : Nat → Int32) (sz : Nat) (hnd : nd ≤ 30) (hnsg : nsg ≤ 1000) (hAC : AC tS)  : Met l yX4_listPresent (wq (.code yX4_listPresent cX4_listPresent 4 (some .int))) { frames := 2, cells := 0, slots := 0, locals := 42 } (va_Pc [.ref (z 0), .ref h] (PcB D dA E [(z 0, .inr (7, [.ref (z 1), .ref (z 3), .int (nI nd), .int (nI nsg)])), (z 1, .inr (5, [.ref (z 2)])), (z 2, .inl (dA 0, 30, .inl tS)), (z 3, .inr (5, [.ref (z 4)])), (z 4, .inl (dA 0, 30, .inl tG)), (h, .inr (5, [.ref r0])), (r0, .inl (dA 0, 30, .inl tL))] sz)) (va_Qi (fun (r : Int32) (u : Unit) => r = nI (cn (fun d => decide (tS d = 115)) nd)) (fun u t => va_P D vwCl [(z 0, .inr (7, [.ref (z 1), .ref (z 3), .int (nI nd), .int (nI nsg)])), (z 1, .inr (5, [.ref (z 2)])), (z 2, .inl (dA 0, 30, .inl tS)), (z 3, .inr (5, [.ref (z 4)])), (z 4, .inl (dA 0, 30, .inl tG)), (h, .inr (5, [.ref r0])), (r0, .inl (dA 0, 30, .inl (fl (fun d => bI (decide (tS d = 115))) (fl (fun _ => 0) tL 30) nd)))] t.heap ∧ va_D (va_A [(z 0, .inr (7, [.ref (z 1), .ref (z 3), .int (nI nd), .int (nI nsg)])), (z 1, .inr (5, [.ref (z 2)])), (z 2, .inl (dA 0, 30, .inl tS)), (z 3, .inr (5, [.ref (z 4)])), (z 4, .inl (dA 0, 30, .inl tG)), (h, .inr (5, [.ref r0])), (r0, .inl (dA 0, 30, .inl tL))] sz) [(z 0, .inr (7, [.ref (z 1), .ref (z 3), .int (nI nd), .int (nI nsg)])), (z 1, .inr (5, [.ref (z 2)])), (z 2, .inl (dA 0, 30, .inl tS)), (z 3, .inr (5, [.ref (z 4)])), (z 4, .inl (dA 0, 30, .inl tG)), (h, .inr (5, [.ref r0])), (r0, .inl (dA 0, 30, .inl (fl (fun d => bI (decide (tS d = 115))) (fl (fun _ => 0) tL 30) nd)))]) (va_A [(z 0, .inr (7, [.ref (z 1), .ref (z 3), .int (nI nd), .int (nI nsg)])), (z 1, .inr (5, [.ref (z 2)])), (z 2, .inl (dA 0, 30, .inl tS)), (z 3, .inr (5, [.ref (z 4)])), (z 4, .inl (dA 0, 30, .inl tG)), (h, .inr (5, [.ref r0])), (r0, .inl (dA 0, 30, .inl tL))] sz)) 0 0 (va_A [(z 0, .inr (7, [.ref (z 1), .ref (z 3), .int (nI nd), .int (nI nsg)])), (z 1, .inr (5, [.ref (z 2)])), (z 2, .inl (dA 0, 30, .inl tS)), (z 3, .inr (5, [.ref (z 4)])), (z 4, .inl (dA 0, 30, .inl tG)), (h, .inr (5, [.ref r0])), (r0, .inl (dA 0, 30, .inl tL))] sz) := by
  refine mb_of (Qc := fun A => va_Qi (fun (r : Int32) (u : Unit) => r = nI (cn (fun d => decide (tS d = 115)) nd)) (fun u t => va_P D vwCl [(z 0, .inr (7, [.ref (z 1), .ref (z 3), .int (nI nd), .int (nI nsg)])), (z 1, .inr (5, [.ref (z 2)])), (z 2, .inl (dA 0, 30, .inl tS)), (z 3, .inr (5, [.ref (z 4)])), (z 4, .inl (dA 0, 30, .inl tG)), (h, .inr (5, [.ref r0])), (r0, .inl (dA 0, 30, .inl (fl (fun d => bI (decide (tS d = 115))) (fl (fun _ => 0) tL 30) nd)))] t.heap ∧ va_D A [(z 0, .inr (7, [.ref (z 1), .ref (z 3), .int (nI nd), .int (nI nsg)])), (z 1, .inr (5, [.ref (z 2)])), (z 2, .inl (dA 0, 30, .inl tS)), (z 3, .inr (5, [.ref (z 4)])), (z 4, .inl (dA 0, 30, .inl tG)), (h, .inr (5, [.ref r0])), (r0, .inl (dA 0, 30, .inl (fl (fun d => bI (decide (tS d = 115))) (fl (fun _ => 0) tL 30) nd)))]) A) RX4 rfl (by decide) (Nat.le_of_ble_eq_true rfl) ?_
  intro p e s m args below meth c hae hx hb hr hts hown hlocks hml hnm hP hK A hAe hD hZ hS hA ls hl
  have hl : lv_has ls 4 [(0, .ref (z 0)), (1, .ref h)] := hl
  refine lv_iconst (v := 0) hx hb dX4_listPresent_0 (by decide) ?_
  refine lv_istore_n (lv' := [(2, .int 0), (0, .ref (z 0)), (1, .ref h)]) hx hb dX4_listPresent_1 rfl hl (by decide) rfl (fun ls hl => ?_)
  refine lv_aload_n hx hb dX4_listPresent_2 rfl (lv_at hl 2 rfl) ?_
  refine lv_iconst (v := 0) hx hb dX4_listPresent_3 (by decide) ?_
  have hPc := hP.sub (ws' := [(h, .inr (5, [.ref r0])), (r0, .inl (dA 0, 30, .inl tL))]) [5, 6] rfl
  have hDc := hD.sub (ws' := [(h, .inr (5, [.ref r0])), (r0, .inl (dA 0, 30, .inl tL))]) [5, 6] (by decide) rfl
  have hFc := va_free (wc := [(h, .inr (5, [.ref r0])), (r0, .inl (dA 0, 30, .inl tL))]) hD hS hA [5, 6] rfl
  refine va_callv (va_runV (As := [.int 0]) (rest := []) ⟨hx, hb, hml, hown, hts⟩ (t_fill l D dA E h r0 30 tL 0 s.heap.size  (by decide)) (cwV 1 hts (ga_V q260 q261 q258 q204 q259) rfl rfl rfl (by decide +kernel) ⟨(Nat.le_of_ble_eq_true rfl), (Nat.le_of_ble_eq_true rfl)⟩) ⟨pb_blind, va_recv hK hPc (ci := 5) (q0 := 0) rfl rfl, pb_pre hK hPc hDc hZ hS hFc _⟩ rfl rfl hl.1 rfl (lv_room (Nat.le_of_ble_eq_true rfl)) dX4_listPresent_4 ⟨(Nat.le_of_ble_eq_true rfl), (Nat.le_of_ble_eq_true rfl)⟩) hS (fun q _ h => hFc q h) hFc (fun u t H1 locs ht hvm hw hB hz1 hk1 hS => ?_)
  refine W.widen (k := 0) (n := 0) (Nat.le_of_ble_eq_true rfl) (Nat.le_of_ble_eq_true rfl) ?_
  obtain ⟨u1, rfl⟩ : ∃ z, z = u := ⟨_, rfl⟩
  have hw2 := hw
  clear hw
  obtain ⟨hP1, hD1⟩ := hB
  rw [ht] at hP1
  obtain ⟨hP, hD⟩ := va_join (wr := [(z 0, .inr (7, [.ref (z 1), .ref (z 3), .int (nI nd), .int (nI nsg)])), (z 1, .inr (5, [.ref (z 2)])), (z 2, .inl (dA 0, 30, .inl tS)), (z 3, .inr (5, [.ref (z 4)])), (z 4, .inl (dA 0, 30, .inl tG))]) (w1 := [(h, .inr (5, [.ref r0])), (r0, .inl (dA 0, 30, .inl (fl (fun _ => 0) tL 30)))]) hP hD [5, 6] [0, 1, 2, 3, 4] rfl rfl (by decide) (by decide) hk1 hFc hP1 hD1
  generalize H1 = H at hP hS ⊢
  have hP : va_P D vwCl [(z 0, .inr (7, [.ref (z 1), .ref (z 3), .int (nI nd), .int (nI nsg)])), (z 1, .inr (5, [.ref (z 2)])), (z 2, .inl (dA 0, 30, .inl tS)), (z 3, .inr (5, [.ref (z 4)])), (z 4, .inl (dA 0, 30, .inl tG)), (h, .inr (5, [.ref r0])), (r0, .inl (dA 0, 30, .inl (fl (fun _ => 0) tL 30)))] H := hP
  have hD : va_D A [(z 0, .inr (7, [.ref (z 1), .ref (z 3), .int (nI nd), .int (nI nsg)])), (z 1, .inr (5, [.ref (z 2)])), (z 2, .inl (dA 0, 30, .inl tS)), (z 3, .inr (5, [.ref (z 4)])), (z 4, .inl (dA 0, 30, .inl tG)), (h, .inr (5, [.ref r0])), (r0, .inl (dA 0, 30, .inl (fl (fun _ => 0) tL 30)))] := hD
  refine lv_iconst (v := 0) hx hb dX4_listPresent_7 (by decide) ?_
  refine lv_istore_n (lv' := [(3, .int 0), (2, .int 0), (0, .ref (z 0)), (1, .ref h)]) hx hb dX4_listPresent_8 rfl hl (by decide) rfl (fun ls hl => ?_)
  have K9 : ∀ (k9 i9 : Nat) (g9_0 : Nat → Int32) (g9_1 : Int32), 0 ≤ i9 → i9 ≤ nd → nd < i9 + k9 → (g9_0 = fl (fun d => bI (decide (tS d = 115))) (fl (fun _ => 0) tL 30) i9) ∧ (g9_1 = nI (cn (fun d => decide (tS d = 115)) i9)) → ∀ (H : Heap) (locs : List Loc), va_P D vwCl [(z 0, .inr (7, [.ref (z 1), .ref (z 3), .int (nI nd), .int (nI nsg)])), (z 1, .inr (5, [.ref (z 2)])), (z 2, .inl (dA 0, 30, .inl tS)), (z 3, .inr (5, [.ref (z 4)])), (z 4, .inl (dA 0, 30, .inl tG)), (h, .inr (5, [.ref r0])), (r0, .inl (dA 0, 30, .inl g9_0))] H → va_D A [(z 0, .inr (7, [.ref (z 1), .ref (z 3), .int (nI nd), .int (nI nsg)])), (z 1, .inr (5, [.ref (z 2)])), (z 2, .inl (dA 0, 30, .inl tS)), (z 3, .inr (5, [.ref (z 4)])), (z 4, .inl (dA 0, 30, .inl tG)), (h, .inr (5, [.ref r0])), (r0, .inl (dA 0, 30, .inl g9_0))] → va_S A s.heap H locs → ∀ ls : Array Slot, lv_has ls 4 [(3, .int (nI i9)), (2, .int g9_1), (0, .ref (z 0)), (1, .ref h)] → W p l e { frames := 2, cells := 0, slots := 0, locals := 42 } s m args below meth c H locs 0 0 (MQ below (va_Qi (fun (r : Int32) (u : Unit) => r = nI (cn (fun d => decide (tS d = 115)) nd)) (fun u t => va_P D vwCl [(z 0, .inr (7, [.ref (z 1), .ref (z 3), .int (nI nd), .int (nI nsg)])), (z 1, .inr (5, [.ref (z 2)])), (z 2, .inl (dA 0, 30, .inl tS)), (z 3, .inr (5, [.ref (z 4)])), (z 4, .inl (dA 0, 30, .inl tG)), (h, .inr (5, [.ref r0])), (r0, .inl (dA 0, 30, .inl (fl (fun d => bI (decide (tS d = 115))) (fl (fun _ => 0) tL 30) nd)))] t.heap ∧ va_D A [(z 0, .inr (7, [.ref (z 1), .ref (z 3), .int (nI nd), .int (nI nsg)])), (z 1, .inr (5, [.ref (z 2)])), (z 2, .inl (dA 0, 30, .inl tS)), (z 3, .inr (5, [.ref (z 4)])), (z 4, .inl (dA 0, 30, .inl tG)), (h, .inr (5, [.ref r0])), (r0, .inl (dA 0, 30, .inl (fl (fun d => bI (decide (tS d = 115))) (fl (fun _ => 0) tL 30) nd)))]) A) args s 0 0 A) (F0 m 9 ls []) := by
    intro k9
    induction k9 with
    | zero => intro i9 g9_0 g9_1 h1 h2 h3; exact absurd h3 (by omega)
    | succ k9 ih9 =>
      intro i9 g9_0 g9_1 hlo9 hhi9 hms9 hinv9 H locs hP hD hS ls hl
      obtain ⟨eg9_0, eg9_1⟩ := hinv9
      subst eg9_0
      subst eg9_1
      have hcn := cn_le (fun d => decide (tS d = 115)) i9
      refine lv_iload_n hx hb dX4_listPresent_9 rfl (lv_at hl 0 rfl) ?_
      refine lv_aload_n hx hb dX4_listPresent_10 rfl (lv_at hl 2 rfl) ?_
      refine va_get (D := D) (ci := 7) (v := .int (nI nd)) (C := RX4) (T := TX4) (N := 4) hx hb hts inAX4 hown hK hP 0 rfl rfl 2 (by decide) (hts _ q243) (fun _ h9 => h9) rfl dX4_listPresent_11 ?_
      refine lv_icmp_ge (tgt := 45) hx hb dX4_listPresent_14 (by decide) (fun c3 => ?_) (fun c3 => ?_)
      · replace c3 := (nI_leI (a := nd) (b := i9) (by omega) (by omega)).mp c3
        obtain rfl : nd = i9 := (by omega)
        have hP : va_P D vwCl [(z 0, .inr (7, [.ref (z 1), .ref (z 3), .int (nI nd), .int (nI nsg)])), (z 1, .inr (5, [.ref (z 2)])), (z 2, .inl (dA 0, 30, .inl tS)), (z 3, .inr (5, [.ref (z 4)])), (z 4, .inl (dA 0, 30, .inl tG)), (h, .inr (5, [.ref r0])), (r0, .inl (dA 0, 30, .inl (fl (fun d => bI (decide (tS d = 115))) (fl (fun _ => 0) tL 30) nd)))] H := hP
        have hD : va_D A [(z 0, .inr (7, [.ref (z 1), .ref (z 3), .int (nI nd), .int (nI nsg)])), (z 1, .inr (5, [.ref (z 2)])), (z 2, .inl (dA 0, 30, .inl tS)), (z 3, .inr (5, [.ref (z 4)])), (z 4, .inl (dA 0, 30, .inl tG)), (h, .inr (5, [.ref r0])), (r0, .inl (dA 0, 30, .inl (fl (fun d => bI (decide (tS d = 115))) (fl (fun _ => 0) tL 30) nd)))] := hD
        refine lv_iload_n hx hb dX4_listPresent_45 rfl (lv_at hl 1 rfl) ?_
        refine W.widen (k := 0) (n := 0) (Nat.le_of_ble_eq_true rfl) (Nat.le_of_ble_eq_true rfl) ?_
        have hP9 := hP.sub (ws' := [(z 0, .inr (7, [.ref (z 1), .ref (z 3), .int (nI nd), .int (nI nsg)])), (z 1, .inr (5, [.ref (z 2)])), (z 2, .inl (dA 0, 30, .inl tS)), (z 3, .inr (5, [.ref (z 4)])), (z 4, .inl (dA 0, 30, .inl tG)), (h, .inr (5, [.ref r0])), (r0, .inl (dA 0, 30, .inl (fl (fun d => bI (decide (tS d = 115))) (fl (fun _ => 0) tL 30) nd)))]) [0, 1, 2, 3, 4, 5, 6] rfl
        have hD9 := hD.sub (ws' := [(z 0, .inr (7, [.ref (z 1), .ref (z 3), .int (nI nd), .int (nI nsg)])), (z 1, .inr (5, [.ref (z 2)])), (z 2, .inl (dA 0, 30, .inl tS)), (z 3, .inr (5, [.ref (z 4)])), (z 4, .inl (dA 0, 30, .inl tG)), (h, .inr (5, [.ref r0])), (r0, .inl (dA 0, 30, .inl (fl (fun d => bI (decide (tS d = 115))) (fl (fun _ => 0) tL 30) nd)))]) [0, 1, 2, 3, 4, 5, 6] (by decide) rfl
        exact W.iret (v := (nI (cn (fun d => decide (tS d = 115)) nd))) hx hb hr (fun t ht hW => ⟨⟨(nI (cn (fun d => decide (tS d = 115)) nd)), (), rfl, rfl, ⟨by rw [ht]; exact hP9, hD9⟩⟩, hS.F ht⟩) hS.2.2 dX4_listPresent_46
      · replace c3 := mt (nI_leI (a := nd) (b := i9) (by omega) (by omega)).mpr c3
        refine lv_aload_n hx hb dX4_listPresent_17 rfl (lv_at hl 2 rfl) ?_
        refine lv_iload_n hx hb dX4_listPresent_18 rfl (lv_at hl 0 rfl) ?_
        have hPc := hP.sub (ws' := [(z 0, .inr (7, [.ref (z 1), .ref (z 3), .int (nI nd), .int (nI nsg)])), (z 1, .inr (5, [.ref (z 2)])), (z 2, .inl (dA 0, 30, .inl tS)), (z 3, .inr (5, [.ref (z 4)])), (z 4, .inl (dA 0, 30, .inl tG))]) [0, 1, 2, 3, 4] rfl
        have hDc := hD.sub (ws' := [(z 0, .inr (7, [.ref (z 1), .ref (z 3), .int (nI nd), .int (nI nsg)])), (z 1, .inr (5, [.ref (z 2)])), (z 2, .inl (dA 0, 30, .inl tS)), (z 3, .inr (5, [.ref (z 4)])), (z 4, .inl (dA 0, 30, .inl tG))]) [0, 1, 2, 3, 4] (by decide) rfl
        have hFc := va_free (wc := [(z 0, .inr (7, [.ref (z 1), .ref (z 3), .int (nI nd), .int (nI nsg)])), (z 1, .inr (5, [.ref (z 2)])), (z 2, .inl (dA 0, 30, .inl tS)), (z 3, .inr (5, [.ref (z 4)])), (z 4, .inl (dA 0, 30, .inl tG))]) hD hS hA [0, 1, 2, 3, 4] rfl
        refine va_calli (va_runV (As := [.int (nI i9)]) (rest := []) ⟨hx, hb, hml, hown, hts⟩ (s_stateOf l D dA E z tS tG nd nsg i9 H.size  (by omega) (by omega) (by omega) hAC) (cwV 1 hts (ga_V q239 q240 q237 q241 q238) rfl rfl rfl (by decide +kernel) ⟨(Nat.le_of_ble_eq_true rfl), (Nat.le_of_ble_eq_true rfl)⟩) ⟨pb_blind, va_recv hK hPc (ci := 7) (q0 := 0) rfl rfl, pb_pre hK hPc hDc hZ hS hFc _⟩ rfl rfl hl.1 rfl (lv_room (Nat.le_of_ble_eq_true rfl)) dX4_listPresent_19 ⟨(Nat.le_of_ble_eq_true rfl), (Nat.le_of_ble_eq_true rfl)⟩) hS (fun q _ h => hFc q h) hFc (fun r u t H1 locs ht hvm hw hB hz1 hk1 hS => ?_)
        refine W.widen (k := 0) (n := 0) (Nat.le_of_ble_eq_true rfl) (Nat.le_of_ble_eq_true rfl) ?_
        obtain ⟨r4, rfl⟩ : ∃ z, z = r := ⟨_, rfl⟩
        obtain ⟨u5, rfl⟩ : ∃ z, z = u := ⟨_, rfl⟩
        have hw6 := hw
        clear hw
        obtain ⟨hP1, hD1⟩ := hB
        rw [ht] at hP1
        obtain ⟨hP, hD⟩ := va_join (wr := [(h, .inr (5, [.ref r0])), (r0, .inl (dA 0, 30, .inl (fl (fun d => bI (decide (tS d = 115))) (fl (fun _ => 0) tL 30) i9)))]) (w1 := [(z 0, .inr (7, [.ref (z 1), .ref (z 3), .int (nI nd), .int (nI nsg)])), (z 1, .inr (5, [.ref (z 2)])), (z 2, .inl (dA 0, 30, .inl tS)), (z 3, .inr (5, [.ref (z 4)])), (z 4, .inl (dA 0, 30, .inl tG))]) hP hD [0, 1, 2, 3, 4] [5, 6] rfl rfl (by decide) (by decide) hk1 hFc hP1 hD1
        generalize H1 = H at hP hS ⊢
        have hP : va_P D vwCl [(h, .inr (5, [.ref r0])), (r0, .inl (dA 0, 30, .inl (fl (fun d => bI (decide (tS d = 115))) (fl (fun _ => 0) tL 30) i9))), (z 0, .inr (7, [.ref (z 1), .ref (z 3), .int (nI nd), .int (nI nsg)])), (z 1, .inr (5, [.ref (z 2)])), (z 2, .inl (dA 0, 30, .inl tS)), (z 3, .inr (5, [.ref (z 4)])), (z 4, .inl (dA 0, 30, .inl tG))] H := hP
        have hD : va_D A [(h, .inr (5, [.ref r0])), (r0, .inl (dA 0, 30, .inl (fl (fun d => bI (decide (tS d = 115))) (fl (fun _ => 0) tL 30) i9))), (z 0, .inr (7, [.ref (z 1), .ref (z 3), .int (nI nd), .int (nI nsg)])), (z 1, .inr (5, [.ref (z 2)])), (z 2, .inl (dA 0, 30, .inl tS)), (z 3, .inr (5, [.ref (z 4)])), (z 4, .inl (dA 0, 30, .inl tG))] := hD
        obtain rfl : r4 = tS i9 := hw6
        refine lv_bipush (v := 115) hx hb dX4_listPresent_22 (by decide) ?_
        refine lv_icmp_eq (tgt := 30) hx hb dX4_listPresent_24 (by decide) (fun c7 => ?_) (fun c7 => ?_)
        · refine lv_aload_n hx hb dX4_listPresent_30 rfl (lv_at hl 3 rfl) ?_
          refine lv_iload_n hx hb dX4_listPresent_31 rfl (lv_at hl 0 rfl) ?_
          refine lv_iconst (v := 1) hx hb dX4_listPresent_32 (by decide) ?_
          have hPc := hP.sub (ws' := [(h, .inr (5, [.ref r0])), (r0, .inl (dA 0, 30, .inl (fl (fun d => bI (decide (tS d = 115))) (fl (fun _ => 0) tL 30) i9)))]) [0, 1] rfl
          have hDc := hD.sub (ws' := [(h, .inr (5, [.ref r0])), (r0, .inl (dA 0, 30, .inl (fl (fun d => bI (decide (tS d = 115))) (fl (fun _ => 0) tL 30) i9)))]) [0, 1] (by decide) rfl
          have hFc := va_free (wc := [(h, .inr (5, [.ref r0])), (r0, .inl (dA 0, 30, .inl (fl (fun d => bI (decide (tS d = 115))) (fl (fun _ => 0) tL 30) i9)))]) hD hS hA [0, 1] rfl
          refine va_callv (va_runV (As := [.int (nI i9), .int 1]) (rest := []) ⟨hx, hb, hml, hown, hts⟩ (t_putN l D dA E h r0 30 (fl (fun d => bI (decide (tS d = 115))) (fl (fun _ => 0) tL 30) i9) i9 1 H.size  (by omega) (by decide)) (cwV 2 hts (ga_V q242 q210 q207 q204 q208) rfl rfl rfl (by decide +kernel) ⟨(Nat.le_of_ble_eq_true rfl), (Nat.le_of_ble_eq_true rfl)⟩) ⟨pb_blind, va_recv hK hPc (ci := 5) (q0 := 0) rfl rfl, pb_pre hK hPc hDc hZ hS hFc _⟩ rfl rfl hl.1 rfl (lv_room (Nat.le_of_ble_eq_true rfl)) dX4_listPresent_33 ⟨(Nat.le_of_ble_eq_true rfl), (Nat.le_of_ble_eq_true rfl)⟩) hS (fun q _ h => hFc q h) hFc (fun u t H1 locs ht hvm hw hB hz1 hk1 hS => ?_)
          refine W.widen (k := 0) (n := 0) (Nat.le_of_ble_eq_true rfl) (Nat.le_of_ble_eq_true rfl) ?_
          obtain ⟨u8, rfl⟩ : ∃ z, z = u := ⟨_, rfl⟩
          have hw9 := hw
          clear hw
          obtain ⟨hP1, hD1⟩ := hB
          rw [ht] at hP1
          obtain ⟨hP, hD⟩ := va_join (wr := [(z 0, .inr (7, [.ref (z 1), .ref (z 3), .int (nI nd), .int (nI nsg)])), (z 1, .inr (5, [.ref (z 2)])), (z 2, .inl (dA 0, 30, .inl tS)), (z 3, .inr (5, [.ref (z 4)])), (z 4, .inl (dA 0, 30, .inl tG))]) (w1 := [(h, .inr (5, [.ref r0])), (r0, .inl (dA 0, 30, .inl (upd (fl (fun d => bI (decide (tS d = 115))) (fl (fun _ => 0) tL 30) i9) i9 1)))]) hP hD [0, 1] [2, 3, 4, 5, 6] rfl rfl (by decide) (by decide) hk1 hFc hP1 hD1
          generalize H1 = H at hP hS ⊢
          have hP : va_P D vwCl [(z 0, .inr (7, [.ref (z 1), .ref (z 3), .int (nI nd), .int (nI nsg)])), (z 1, .inr (5, [.ref (z 2)])), (z 2, .inl (dA 0, 30, .inl tS)), (z 3, .inr (5, [.ref (z 4)])), (z 4, .inl (dA 0, 30, .inl tG)), (h, .inr (5, [.ref r0])), (r0, .inl (dA 0, 30, .inl (upd (fl (fun d => bI (decide (tS d = 115))) (fl (fun _ => 0) tL 30) i9) i9 1)))] H := hP
          have hD : va_D A [(z 0, .inr (7, [.ref (z 1), .ref (z 3), .int (nI nd), .int (nI nsg)])), (z 1, .inr (5, [.ref (z 2)])), (z 2, .inl (dA 0, 30, .inl tS)), (z 3, .inr (5, [.ref (z 4)])), (z 4, .inl (dA 0, 30, .inl tG)), (h, .inr (5, [.ref r0])), (r0, .inl (dA 0, 30, .inl (upd (fl (fun d => bI (decide (tS d = 115))) (fl (fun _ => 0) tL 30) i9) i9 1)))] := hD
          refine lv_iinc (v := nI ((cn (fun d => decide (tS d = 115)) i9) + 1)) (lv' := [(2, .int (nI ((cn (fun d => decide (tS d = 115)) i9) + 1))), (3, .int (nI i9)), (0, .ref (z 0)), (1, .ref h)]) hx hb dX4_listPresent_36 hl (k := 1) rfl (nI_add (cn (fun d => decide (tS d = 115)) i9) 1) (by decide) rfl (fun ls hl => ?_)
          refine lv_iinc (v := nI (i9 + 1)) (lv' := [(3, .int (nI (i9 + 1))), (2, .int (nI ((cn (fun d => decide (tS d = 115)) i9) + 1))), (0, .ref (z 0)), (1, .ref h)]) hx hb dX4_listPresent_39 hl (k := 1) rfl (nI_add i9 1) (by decide) rfl (fun ls hl => ?_)
          refine lv_goto (tgt := 9) hx hb dX4_listPresent_42 (by decide) ?_
          exact ih9 (i9 + 1) (upd (fl (fun d => bI (decide (tS d = 115))) (fl (fun _ => 0) tL 30) i9) i9 1) (nI ((cn (fun d => decide (tS d = 115)) i9) + 1)) (by omega) (by omega) (by omega) ⟨(fl_succ (by show _ = bI _; rw [dec_1 c7]; rfl)), (cn_y (f := fun d => decide (tS d = 115)) (dec_1 c7))⟩ _ _ hP hD hS ls (lv_sub hl [0, 1, 2, 3] rfl)
        · refine lv_goto (tgt := 39) hx hb dX4_listPresent_27 (by decide) ?_
          refine lv_iinc (v := nI (i9 + 1)) (lv' := [(3, .int (nI (i9 + 1))), (2, .int (nI (cn (fun d => decide (tS d = 115)) i9))), (0, .ref (z 0)), (1, .ref h)]) hx hb dX4_listPresent_39 hl (k := 0) rfl (nI_add i9 1) (by decide) rfl (fun ls hl => ?_)
          refine lv_goto (tgt := 9) hx hb dX4_listPresent_42 (by decide) ?_
          have hP := hP.sub (ws' := [(z 0, .inr (7, [.ref (z 1), .ref (z 3), .int (nI nd), .int (nI nsg)])), (z 1, .inr (5, [.ref (z 2)])), (z 2, .inl (dA 0, 30, .inl tS)), (z 3, .inr (5, [.ref (z 4)])), (z 4, .inl (dA 0, 30, .inl tG)), (h, .inr (5, [.ref r0])), (r0, .inl (dA 0, 30, .inl (fl (fun d => bI (decide (tS d = 115))) (fl (fun _ => 0) tL 30) i9)))]) [2, 3, 4, 5, 6, 0, 1] rfl
          have hD := hD.sub (ws' := [(z 0, .inr (7, [.ref (z 1), .ref (z 3), .int (nI nd), .int (nI nsg)])), (z 1, .inr (5, [.ref (z 2)])), (z 2, .inl (dA 0, 30, .inl tS)), (z 3, .inr (5, [.ref (z 4)])), (z 4, .inl (dA 0, 30, .inl tG)), (h, .inr (5, [.ref r0])), (r0, .inl (dA 0, 30, .inl (fl (fun d => bI (decide (tS d = 115))) (fl (fun _ => 0) tL 30) i9)))]) [2, 3, 4, 5, 6, 0, 1] (by decide) rfl
          exact ih9 (i9 + 1) (fl (fun d => bI (decide (tS d = 115))) (fl (fun _ => 0) tL 30) i9) (nI (cn (fun d => decide (tS d = 115)) i9)) (by omega) (by omega) (by omega) ⟨(fl_keep (by show bI (decide (tS i9 = 115)) = fl (fun _ => 0) tL 30 i9; rw [dec_0 c7, fl_in (by omega)]; rfl)), (cn_n' (f := fun d => decide (tS d = 115)) (dec_0 c7))⟩ _ _ hP hD hS ls (lv_sub hl [0, 1, 2, 3] rfl)
  exact K9 (nd + 1) 0 (fl (fun _ => 0) tL 30) 0 (by omega) (by omega) (by omega) ⟨fl_0.symm, rfl⟩ _ _ hP hD hS ls hl

set_option maxHeartbeats 4000000 in
set_option maxRecDepth 100000 in
theorem s_inSegments (l : Launch) (D : va_G) (dA : Nat → ClassId) (E : Nat) (z : Nat → Nat) (tS tG : Nat → Int32) (nd nsg : Nat) (sz : Nat) (hnd : nd ≤ 30) (hnsg : nsg ≤ 1000) (hAC : AC tS)  : Met l yX4_inSegments (wq (.code yX4_inSegments cX4_inSegments 3 (some .int))) { frames := 1, cells := 0, slots := 0, locals := 21 } (va_Pc [.ref (z 0)] (PcB D dA E [(z 0, .inr (7, [.ref (z 1), .ref (z 3), .int (nI nd), .int (nI nsg)])), (z 1, .inr (5, [.ref (z 2)])), (z 2, .inl (dA 0, 30, .inl tS)), (z 3, .inr (5, [.ref (z 4)])), (z 4, .inl (dA 0, 30, .inl tG))] sz)) (va_Qi (fun (r : Int32) (u : Unit) => r = nI (cn (fun d => !decide (tG d = -1)) nd)) (fun u t => va_P D vwCl [(z 0, .inr (7, [.ref (z 1), .ref (z 3), .int (nI nd), .int (nI nsg)])), (z 1, .inr (5, [.ref (z 2)])), (z 2, .inl (dA 0, 30, .inl tS)), (z 3, .inr (5, [.ref (z 4)])), (z 4, .inl (dA 0, 30, .inl tG))] t.heap ∧ va_D (va_A [(z 0, .inr (7, [.ref (z 1), .ref (z 3), .int (nI nd), .int (nI nsg)])), (z 1, .inr (5, [.ref (z 2)])), (z 2, .inl (dA 0, 30, .inl tS)), (z 3, .inr (5, [.ref (z 4)])), (z 4, .inl (dA 0, 30, .inl tG))] sz) [(z 0, .inr (7, [.ref (z 1), .ref (z 3), .int (nI nd), .int (nI nsg)])), (z 1, .inr (5, [.ref (z 2)])), (z 2, .inl (dA 0, 30, .inl tS)), (z 3, .inr (5, [.ref (z 4)])), (z 4, .inl (dA 0, 30, .inl tG))]) (va_A [(z 0, .inr (7, [.ref (z 1), .ref (z 3), .int (nI nd), .int (nI nsg)])), (z 1, .inr (5, [.ref (z 2)])), (z 2, .inl (dA 0, 30, .inl tS)), (z 3, .inr (5, [.ref (z 4)])), (z 4, .inl (dA 0, 30, .inl tG))] sz)) 0 0 (va_A [(z 0, .inr (7, [.ref (z 1), .ref (z 3), .int (nI nd), .int (nI nsg)])), (z 1, .inr (5, [.ref (z 2)])), (z 2, .inl (dA 0, 30, .inl tS)), (z 3, .inr (5, [.ref (z 4)])), (z 4, .inl (dA 0, 30, .inl tG))] sz) := by
  refine mb_of (Qc := fun A => va_Qi (fun (r : Int32) (u : Unit) => r = nI (cn (fun d => !decide (tG d = -1)) nd)) (fun u t => va_P D vwCl [(z 0, .inr (7, [.ref (z 1), .ref (z 3), .int (nI nd), .int (nI nsg)])), (z 1, .inr (5, [.ref (z 2)])), (z 2, .inl (dA 0, 30, .inl tS)), (z 3, .inr (5, [.ref (z 4)])), (z 4, .inl (dA 0, 30, .inl tG))] t.heap ∧ va_D A [(z 0, .inr (7, [.ref (z 1), .ref (z 3), .int (nI nd), .int (nI nsg)])), (z 1, .inr (5, [.ref (z 2)])), (z 2, .inl (dA 0, 30, .inl tS)), (z 3, .inr (5, [.ref (z 4)])), (z 4, .inl (dA 0, 30, .inl tG))]) A) RX4 rfl (by decide) (Nat.le_of_ble_eq_true rfl) ?_
  intro p e s m args below meth c hae hx hb hr hts hown hlocks hml hnm hP hK A hAe hD hZ hS hA ls hl
  have hl : lv_has ls 3 [(0, .ref (z 0))] := hl
  refine lv_iconst (v := 0) hx hb dX4_inSegments_0 (by decide) ?_
  refine lv_istore_n (lv' := [(1, .int 0), (0, .ref (z 0))]) hx hb dX4_inSegments_1 rfl hl (by decide) rfl (fun ls hl => ?_)
  refine lv_iconst (v := 0) hx hb dX4_inSegments_2 (by decide) ?_
  refine lv_istore_n (lv' := [(2, .int 0), (1, .int 0), (0, .ref (z 0))]) hx hb dX4_inSegments_3 rfl hl (by decide) rfl (fun ls hl => ?_)
  have K4 : ∀ (k4 i4 : Nat) (g4_0 : Int32), 0 ≤ i4 → i4 ≤ nd → nd < i4 + k4 → (g4_0 = nI (cn (fun d => !decide (tG d = -1)) i4)) → ∀ (H : Heap) (locs : List Loc), va_P D vwCl [(z 0, .inr (7, [.ref (z 1), .ref (z 3), .int (nI nd), .int (nI nsg)])), (z 1, .inr (5, [.ref (z 2)])), (z 2, .inl (dA 0, 30, .inl tS)), (z 3, .inr (5, [.ref (z 4)])), (z 4, .inl (dA 0, 30, .inl tG))] H → va_D A [(z 0, .inr (7, [.ref (z 1), .ref (z 3), .int (nI nd), .int (nI nsg)])), (z 1, .inr (5, [.ref (z 2)])), (z 2, .inl (dA 0, 30, .inl tS)), (z 3, .inr (5, [.ref (z 4)])), (z 4, .inl (dA 0, 30, .inl tG))] → va_S A s.heap H locs → ∀ ls : Array Slot, lv_has ls 3 [(2, .int (nI i4)), (1, .int g4_0), (0, .ref (z 0))] → W p l e { frames := 1, cells := 0, slots := 0, locals := 21 } s m args below meth c H locs 0 0 (MQ below (va_Qi (fun (r : Int32) (u : Unit) => r = nI (cn (fun d => !decide (tG d = -1)) nd)) (fun u t => va_P D vwCl [(z 0, .inr (7, [.ref (z 1), .ref (z 3), .int (nI nd), .int (nI nsg)])), (z 1, .inr (5, [.ref (z 2)])), (z 2, .inl (dA 0, 30, .inl tS)), (z 3, .inr (5, [.ref (z 4)])), (z 4, .inl (dA 0, 30, .inl tG))] t.heap ∧ va_D A [(z 0, .inr (7, [.ref (z 1), .ref (z 3), .int (nI nd), .int (nI nsg)])), (z 1, .inr (5, [.ref (z 2)])), (z 2, .inl (dA 0, 30, .inl tS)), (z 3, .inr (5, [.ref (z 4)])), (z 4, .inl (dA 0, 30, .inl tG))]) A) args s 0 0 A) (F0 m 4 ls []) := by
    intro k4
    induction k4 with
    | zero => intro i4 g4_0 h1 h2 h3; exact absurd h3 (by omega)
    | succ k4 ih4 =>
      intro i4 g4_0 hlo4 hhi4 hms4 hinv4 H locs hP hD hS ls hl
      have eg4_0 := hinv4
      subst eg4_0
      have hcn := cn_le (fun d => !decide (tG d = -1)) i4
      refine lv_iload_n hx hb dX4_inSegments_4 rfl (lv_at hl 0 rfl) ?_
      refine lv_aload_n hx hb dX4_inSegments_5 rfl (lv_at hl 2 rfl) ?_
      refine va_get (D := D) (ci := 7) (v := .int (nI nd)) (C := RX4) (T := TX4) (N := 4) hx hb hts inAX4 hown hK hP 0 rfl rfl 2 (by decide) (hts _ q243) (fun _ h9 => h9) rfl dX4_inSegments_6 ?_
      refine lv_icmp_ge (tgt := 33) hx hb dX4_inSegments_9 (by decide) (fun c1 => ?_) (fun c1 => ?_)
      · replace c1 := (nI_leI (a := nd) (b := i4) (by omega) (by omega)).mp c1
        obtain rfl : nd = i4 := (by omega)
        have hP : va_P D vwCl [(z 0, .inr (7, [.ref (z 1), .ref (z 3), .int (nI nd), .int (nI nsg)])), (z 1, .inr (5, [.ref (z 2)])), (z 2, .inl (dA 0, 30, .inl tS)), (z 3, .inr (5, [.ref (z 4)])), (z 4, .inl (dA 0, 30, .inl tG))] H := hP
        have hD : va_D A [(z 0, .inr (7, [.ref (z 1), .ref (z 3), .int (nI nd), .int (nI nsg)])), (z 1, .inr (5, [.ref (z 2)])), (z 2, .inl (dA 0, 30, .inl tS)), (z 3, .inr (5, [.ref (z 4)])), (z 4, .inl (dA 0, 30, .inl tG))] := hD
        refine lv_iload_n hx hb dX4_inSegments_33 rfl (lv_at hl 1 rfl) ?_
        refine W.widen (k := 0) (n := 0) (Nat.le_of_ble_eq_true rfl) (Nat.le_of_ble_eq_true rfl) ?_
        have hP9 := hP.sub (ws' := [(z 0, .inr (7, [.ref (z 1), .ref (z 3), .int (nI nd), .int (nI nsg)])), (z 1, .inr (5, [.ref (z 2)])), (z 2, .inl (dA 0, 30, .inl tS)), (z 3, .inr (5, [.ref (z 4)])), (z 4, .inl (dA 0, 30, .inl tG))]) [0, 1, 2, 3, 4] rfl
        have hD9 := hD.sub (ws' := [(z 0, .inr (7, [.ref (z 1), .ref (z 3), .int (nI nd), .int (nI nsg)])), (z 1, .inr (5, [.ref (z 2)])), (z 2, .inl (dA 0, 30, .inl tS)), (z 3, .inr (5, [.ref (z 4)])), (z 4, .inl (dA 0, 30, .inl tG))]) [0, 1, 2, 3, 4] (by decide) rfl
        exact W.iret (v := (nI (cn (fun d => !decide (tG d = -1)) nd))) hx hb hr (fun t ht hW => ⟨⟨(nI (cn (fun d => !decide (tG d = -1)) nd)), (), rfl, rfl, ⟨by rw [ht]; exact hP9, hD9⟩⟩, hS.F ht⟩) hS.2.2 dX4_inSegments_34
      · replace c1 := mt (nI_leI (a := nd) (b := i4) (by omega) (by omega)).mpr c1
        refine lv_aload_n hx hb dX4_inSegments_12 rfl (lv_at hl 2 rfl) ?_
        refine va_get (D := D) (ci := 7) (v := .ref (z 3)) (C := RX4) (T := TX4) (N := 4) hx hb hts inAX4 hown hK hP 0 rfl rfl 1 (by decide) (hts _ q244) (fun _ h9 => h9) rfl dX4_inSegments_13 ?_
        refine lv_iload_n hx hb dX4_inSegments_16 rfl (lv_at hl 0 rfl) ?_
        have hPc := hP.sub (ws' := [(z 3, .inr (5, [.ref (z 4)])), (z 4, .inl (dA 0, 30, .inl tG))]) [3, 4] rfl
        have hDc := hD.sub (ws' := [(z 3, .inr (5, [.ref (z 4)])), (z 4, .inl (dA 0, 30, .inl tG))]) [3, 4] (by decide) rfl
        have hFc := va_free (wc := [(z 3, .inr (5, [.ref (z 4)])), (z 4, .inl (dA 0, 30, .inl tG))]) hD hS hA [3, 4] rfl
        refine va_calli (va_runV (As := [.int (nI i4)]) (rest := []) ⟨hx, hb, hml, hown, hts⟩ (t_getN l D dA E (z 3) (z 4) 30 tG i4 H.size  (by omega) (by decide)) (cwV 1 hts (ga_V q236 q203 q200 q204 q201) rfl rfl rfl (by decide +kernel) ⟨(Nat.le_of_ble_eq_true rfl), (Nat.le_of_ble_eq_true rfl)⟩) ⟨pb_blind, va_recv hK hPc (ci := 5) (q0 := 0) rfl rfl, pb_pre hK hPc hDc hZ hS hFc _⟩ rfl rfl hl.1 rfl (lv_room (Nat.le_of_ble_eq_true rfl)) dX4_inSegments_17 ⟨(Nat.le_of_ble_eq_true rfl), (Nat.le_of_ble_eq_true rfl)⟩) hS (fun q _ h => hFc q h) hFc (fun r u t H1 locs ht hvm hw hB hz1 hk1 hS => ?_)
        refine W.widen (k := 0) (n := 0) (Nat.le_of_ble_eq_true rfl) (Nat.le_of_ble_eq_true rfl) ?_
        obtain ⟨r2, rfl⟩ : ∃ z, z = r := ⟨_, rfl⟩
        obtain ⟨u3, rfl⟩ : ∃ z, z = u := ⟨_, rfl⟩
        have hw4 := hw
        clear hw
        obtain ⟨hP1, hD1⟩ := hB
        rw [ht] at hP1
        obtain ⟨hP, hD⟩ := va_join (wr := [(z 0, .inr (7, [.ref (z 1), .ref (z 3), .int (nI nd), .int (nI nsg)])), (z 1, .inr (5, [.ref (z 2)])), (z 2, .inl (dA 0, 30, .inl tS))]) (w1 := [(z 3, .inr (5, [.ref (z 4)])), (z 4, .inl (dA 0, 30, .inl tG))]) hP hD [3, 4] [0, 1, 2] rfl rfl (by decide) (by decide) hk1 hFc hP1 hD1
        generalize H1 = H at hP hS ⊢
        have hP : va_P D vwCl [(z 0, .inr (7, [.ref (z 1), .ref (z 3), .int (nI nd), .int (nI nsg)])), (z 1, .inr (5, [.ref (z 2)])), (z 2, .inl (dA 0, 30, .inl tS)), (z 3, .inr (5, [.ref (z 4)])), (z 4, .inl (dA 0, 30, .inl tG))] H := hP
        have hD : va_D A [(z 0, .inr (7, [.ref (z 1), .ref (z 3), .int (nI nd), .int (nI nsg)])), (z 1, .inr (5, [.ref (z 2)])), (z 2, .inl (dA 0, 30, .inl tS)), (z 3, .inr (5, [.ref (z 4)])), (z 4, .inl (dA 0, 30, .inl tG))] := hD
        obtain rfl : r2 = tG i4 := hw4
        refine lv_iconst (v := (-1)) hx hb dX4_inSegments_20 (by decide) ?_
        refine lv_icmp_eq (tgt := 27) hx hb dX4_inSegments_21 (by decide) (fun c5 => ?_) (fun c5 => ?_)
        · refine lv_iinc (v := nI (i4 + 1)) (lv' := [(2, .int (nI (i4 + 1))), (1, .int (nI (cn (fun d => !decide (tG d = -1)) i4))), (0, .ref (z 0))]) hx hb dX4_inSegments_27 hl (k := 0) rfl (nI_add i4 1) (by decide) rfl (fun ls hl => ?_)
          refine lv_goto (tgt := 4) hx hb dX4_inSegments_30 (by decide) ?_
          exact ih4 (i4 + 1) (nI (cn (fun d => !decide (tG d = -1)) i4)) (by omega) (by omega) (by omega) (cn_n' (f := (fun d => !decide (tG d = -1))) (by simp [c5])) _ _ hP hD hS ls (lv_sub hl [0, 1, 2] rfl)
        · refine lv_iinc (v := nI ((cn (fun d => !decide (tG d = -1)) i4) + 1)) (lv' := [(1, .int (nI ((cn (fun d => !decide (tG d = -1)) i4) + 1))), (2, .int (nI i4)), (0, .ref (z 0))]) hx hb dX4_inSegments_24 hl (k := 1) rfl (nI_add (cn (fun d => !decide (tG d = -1)) i4) 1) (by decide) rfl (fun ls hl => ?_)
          refine lv_iinc (v := nI (i4 + 1)) (lv' := [(2, .int (nI (i4 + 1))), (1, .int (nI ((cn (fun d => !decide (tG d = -1)) i4) + 1))), (0, .ref (z 0))]) hx hb dX4_inSegments_27 hl (k := 1) rfl (nI_add i4 1) (by decide) rfl (fun ls hl => ?_)
          refine lv_goto (tgt := 4) hx hb dX4_inSegments_30 (by decide) ?_
          exact ih4 (i4 + 1) (nI ((cn (fun d => !decide (tG d = -1)) i4) + 1)) (by omega) (by omega) (by omega) (cn_y (f := (fun d => !decide (tG d = -1))) (by simp [c5])) _ _ hP hD hS ls (lv_sub hl [0, 1, 2] rfl)
  exact K4 (nd + 1) 0 0 (by omega) (by omega) (by omega) rfl _ _ hP hD hS ls hl

set_option maxHeartbeats 4000000 in
set_option maxRecDepth 100000 in
theorem s_removedInSegments (l : Launch) (D : va_G) (dA : Nat → ClassId) (E : Nat) (z : Nat → Nat) (tS tG : Nat → Int32) (nd nsg : Nat) (sz : Nat) (hnd : nd ≤ 30) (hnsg : nsg ≤ 1000) (hAC : AC tS)  : Met l yX4_removedInSegments (wq (.code yX4_removedInSegments cX4_removedInSegments 3 (some .int))) { frames := 2, cells := 0, slots := 0, locals := 42 } (va_Pc [.ref (z 0)] (PcB D dA E [(z 0, .inr (7, [.ref (z 1), .ref (z 3), .int (nI nd), .int (nI nsg)])), (z 1, .inr (5, [.ref (z 2)])), (z 2, .inl (dA 0, 30, .inl tS)), (z 3, .inr (5, [.ref (z 4)])), (z 4, .inl (dA 0, 30, .inl tG))] sz)) (va_Qi (fun (r : Int32) (u : Unit) => r = nI (cn (fun d => !decide (tG d = -1) && decide (tS d = 114)) nd)) (fun u t => va_P D vwCl [(z 0, .inr (7, [.ref (z 1), .ref (z 3), .int (nI nd), .int (nI nsg)])), (z 1, .inr (5, [.ref (z 2)])), (z 2, .inl (dA 0, 30, .inl tS)), (z 3, .inr (5, [.ref (z 4)])), (z 4, .inl (dA 0, 30, .inl tG))] t.heap ∧ va_D (va_A [(z 0, .inr (7, [.ref (z 1), .ref (z 3), .int (nI nd), .int (nI nsg)])), (z 1, .inr (5, [.ref (z 2)])), (z 2, .inl (dA 0, 30, .inl tS)), (z 3, .inr (5, [.ref (z 4)])), (z 4, .inl (dA 0, 30, .inl tG))] sz) [(z 0, .inr (7, [.ref (z 1), .ref (z 3), .int (nI nd), .int (nI nsg)])), (z 1, .inr (5, [.ref (z 2)])), (z 2, .inl (dA 0, 30, .inl tS)), (z 3, .inr (5, [.ref (z 4)])), (z 4, .inl (dA 0, 30, .inl tG))]) (va_A [(z 0, .inr (7, [.ref (z 1), .ref (z 3), .int (nI nd), .int (nI nsg)])), (z 1, .inr (5, [.ref (z 2)])), (z 2, .inl (dA 0, 30, .inl tS)), (z 3, .inr (5, [.ref (z 4)])), (z 4, .inl (dA 0, 30, .inl tG))] sz)) 0 0 (va_A [(z 0, .inr (7, [.ref (z 1), .ref (z 3), .int (nI nd), .int (nI nsg)])), (z 1, .inr (5, [.ref (z 2)])), (z 2, .inl (dA 0, 30, .inl tS)), (z 3, .inr (5, [.ref (z 4)])), (z 4, .inl (dA 0, 30, .inl tG))] sz) := by
  refine mb_of (Qc := fun A => va_Qi (fun (r : Int32) (u : Unit) => r = nI (cn (fun d => !decide (tG d = -1) && decide (tS d = 114)) nd)) (fun u t => va_P D vwCl [(z 0, .inr (7, [.ref (z 1), .ref (z 3), .int (nI nd), .int (nI nsg)])), (z 1, .inr (5, [.ref (z 2)])), (z 2, .inl (dA 0, 30, .inl tS)), (z 3, .inr (5, [.ref (z 4)])), (z 4, .inl (dA 0, 30, .inl tG))] t.heap ∧ va_D A [(z 0, .inr (7, [.ref (z 1), .ref (z 3), .int (nI nd), .int (nI nsg)])), (z 1, .inr (5, [.ref (z 2)])), (z 2, .inl (dA 0, 30, .inl tS)), (z 3, .inr (5, [.ref (z 4)])), (z 4, .inl (dA 0, 30, .inl tG))]) A) RX4 rfl (by decide) (Nat.le_of_ble_eq_true rfl) ?_
  intro p e s m args below meth c hae hx hb hr hts hown hlocks hml hnm hP hK A hAe hD hZ hS hA ls hl
  have hl : lv_has ls 3 [(0, .ref (z 0))] := hl
  refine lv_iconst (v := 0) hx hb dX4_removedInSegments_0 (by decide) ?_
  refine lv_istore_n (lv' := [(1, .int 0), (0, .ref (z 0))]) hx hb dX4_removedInSegments_1 rfl hl (by decide) rfl (fun ls hl => ?_)
  refine lv_iconst (v := 0) hx hb dX4_removedInSegments_2 (by decide) ?_
  refine lv_istore_n (lv' := [(2, .int 0), (1, .int 0), (0, .ref (z 0))]) hx hb dX4_removedInSegments_3 rfl hl (by decide) rfl (fun ls hl => ?_)
  have K4 : ∀ (k4 i4 : Nat) (g4_0 : Int32), 0 ≤ i4 → i4 ≤ nd → nd < i4 + k4 → (g4_0 = nI (cn (fun d => !decide (tG d = -1) && decide (tS d = 114)) i4)) → ∀ (H : Heap) (locs : List Loc), va_P D vwCl [(z 0, .inr (7, [.ref (z 1), .ref (z 3), .int (nI nd), .int (nI nsg)])), (z 1, .inr (5, [.ref (z 2)])), (z 2, .inl (dA 0, 30, .inl tS)), (z 3, .inr (5, [.ref (z 4)])), (z 4, .inl (dA 0, 30, .inl tG))] H → va_D A [(z 0, .inr (7, [.ref (z 1), .ref (z 3), .int (nI nd), .int (nI nsg)])), (z 1, .inr (5, [.ref (z 2)])), (z 2, .inl (dA 0, 30, .inl tS)), (z 3, .inr (5, [.ref (z 4)])), (z 4, .inl (dA 0, 30, .inl tG))] → va_S A s.heap H locs → ∀ ls : Array Slot, lv_has ls 3 [(2, .int (nI i4)), (1, .int g4_0), (0, .ref (z 0))] → W p l e { frames := 2, cells := 0, slots := 0, locals := 42 } s m args below meth c H locs 0 0 (MQ below (va_Qi (fun (r : Int32) (u : Unit) => r = nI (cn (fun d => !decide (tG d = -1) && decide (tS d = 114)) nd)) (fun u t => va_P D vwCl [(z 0, .inr (7, [.ref (z 1), .ref (z 3), .int (nI nd), .int (nI nsg)])), (z 1, .inr (5, [.ref (z 2)])), (z 2, .inl (dA 0, 30, .inl tS)), (z 3, .inr (5, [.ref (z 4)])), (z 4, .inl (dA 0, 30, .inl tG))] t.heap ∧ va_D A [(z 0, .inr (7, [.ref (z 1), .ref (z 3), .int (nI nd), .int (nI nsg)])), (z 1, .inr (5, [.ref (z 2)])), (z 2, .inl (dA 0, 30, .inl tS)), (z 3, .inr (5, [.ref (z 4)])), (z 4, .inl (dA 0, 30, .inl tG))]) A) args s 0 0 A) (F0 m 4 ls []) := by
    intro k4
    induction k4 with
    | zero => intro i4 g4_0 h1 h2 h3; exact absurd h3 (by omega)
    | succ k4 ih4 =>
      intro i4 g4_0 hlo4 hhi4 hms4 hinv4 H locs hP hD hS ls hl
      have eg4_0 := hinv4
      subst eg4_0
      have hcn := cn_le (fun d => !decide (tG d = -1) && decide (tS d = 114)) i4
      refine lv_iload_n hx hb dX4_removedInSegments_4 rfl (lv_at hl 0 rfl) ?_
      refine lv_aload_n hx hb dX4_removedInSegments_5 rfl (lv_at hl 2 rfl) ?_
      refine va_get (D := D) (ci := 7) (v := .int (nI nd)) (C := RX4) (T := TX4) (N := 4) hx hb hts inAX4 hown hK hP 0 rfl rfl 2 (by decide) (hts _ q243) (fun _ h9 => h9) rfl dX4_removedInSegments_6 ?_
      refine lv_icmp_ge (tgt := 43) hx hb dX4_removedInSegments_9 (by decide) (fun c1 => ?_) (fun c1 => ?_)
      · replace c1 := (nI_leI (a := nd) (b := i4) (by omega) (by omega)).mp c1
        obtain rfl : nd = i4 := (by omega)
        have hP : va_P D vwCl [(z 0, .inr (7, [.ref (z 1), .ref (z 3), .int (nI nd), .int (nI nsg)])), (z 1, .inr (5, [.ref (z 2)])), (z 2, .inl (dA 0, 30, .inl tS)), (z 3, .inr (5, [.ref (z 4)])), (z 4, .inl (dA 0, 30, .inl tG))] H := hP
        have hD : va_D A [(z 0, .inr (7, [.ref (z 1), .ref (z 3), .int (nI nd), .int (nI nsg)])), (z 1, .inr (5, [.ref (z 2)])), (z 2, .inl (dA 0, 30, .inl tS)), (z 3, .inr (5, [.ref (z 4)])), (z 4, .inl (dA 0, 30, .inl tG))] := hD
        refine lv_iload_n hx hb dX4_removedInSegments_43 rfl (lv_at hl 1 rfl) ?_
        refine W.widen (k := 0) (n := 0) (Nat.le_of_ble_eq_true rfl) (Nat.le_of_ble_eq_true rfl) ?_
        have hP9 := hP.sub (ws' := [(z 0, .inr (7, [.ref (z 1), .ref (z 3), .int (nI nd), .int (nI nsg)])), (z 1, .inr (5, [.ref (z 2)])), (z 2, .inl (dA 0, 30, .inl tS)), (z 3, .inr (5, [.ref (z 4)])), (z 4, .inl (dA 0, 30, .inl tG))]) [0, 1, 2, 3, 4] rfl
        have hD9 := hD.sub (ws' := [(z 0, .inr (7, [.ref (z 1), .ref (z 3), .int (nI nd), .int (nI nsg)])), (z 1, .inr (5, [.ref (z 2)])), (z 2, .inl (dA 0, 30, .inl tS)), (z 3, .inr (5, [.ref (z 4)])), (z 4, .inl (dA 0, 30, .inl tG))]) [0, 1, 2, 3, 4] (by decide) rfl
        exact W.iret (v := (nI (cn (fun d => !decide (tG d = -1) && decide (tS d = 114)) nd))) hx hb hr (fun t ht hW => ⟨⟨(nI (cn (fun d => !decide (tG d = -1) && decide (tS d = 114)) nd)), (), rfl, rfl, ⟨by rw [ht]; exact hP9, hD9⟩⟩, hS.F ht⟩) hS.2.2 dX4_removedInSegments_44
      · replace c1 := mt (nI_leI (a := nd) (b := i4) (by omega) (by omega)).mpr c1
        refine lv_aload_n hx hb dX4_removedInSegments_12 rfl (lv_at hl 2 rfl) ?_
        refine va_get (D := D) (ci := 7) (v := .ref (z 3)) (C := RX4) (T := TX4) (N := 4) hx hb hts inAX4 hown hK hP 0 rfl rfl 1 (by decide) (hts _ q244) (fun _ h9 => h9) rfl dX4_removedInSegments_13 ?_
        refine lv_iload_n hx hb dX4_removedInSegments_16 rfl (lv_at hl 0 rfl) ?_
        have hPc := hP.sub (ws' := [(z 3, .inr (5, [.ref (z 4)])), (z 4, .inl (dA 0, 30, .inl tG))]) [3, 4] rfl
        have hDc := hD.sub (ws' := [(z 3, .inr (5, [.ref (z 4)])), (z 4, .inl (dA 0, 30, .inl tG))]) [3, 4] (by decide) rfl
        have hFc := va_free (wc := [(z 3, .inr (5, [.ref (z 4)])), (z 4, .inl (dA 0, 30, .inl tG))]) hD hS hA [3, 4] rfl
        refine va_calli (va_runV (As := [.int (nI i4)]) (rest := []) ⟨hx, hb, hml, hown, hts⟩ (t_getN l D dA E (z 3) (z 4) 30 tG i4 H.size  (by omega) (by decide)) (cwV 1 hts (ga_V q236 q203 q200 q204 q201) rfl rfl rfl (by decide +kernel) ⟨(Nat.le_of_ble_eq_true rfl), (Nat.le_of_ble_eq_true rfl)⟩) ⟨pb_blind, va_recv hK hPc (ci := 5) (q0 := 0) rfl rfl, pb_pre hK hPc hDc hZ hS hFc _⟩ rfl rfl hl.1 rfl (lv_room (Nat.le_of_ble_eq_true rfl)) dX4_removedInSegments_17 ⟨(Nat.le_of_ble_eq_true rfl), (Nat.le_of_ble_eq_true rfl)⟩) hS (fun q _ h => hFc q h) hFc (fun r u t H1 locs ht hvm hw hB hz1 hk1 hS => ?_)
        refine W.widen (k := 0) (n := 0) (Nat.le_of_ble_eq_true rfl) (Nat.le_of_ble_eq_true rfl) ?_
        obtain ⟨r2, rfl⟩ : ∃ z, z = r := ⟨_, rfl⟩
        obtain ⟨u3, rfl⟩ : ∃ z, z = u := ⟨_, rfl⟩
        have hw4 := hw
        clear hw
        obtain ⟨hP1, hD1⟩ := hB
        rw [ht] at hP1
        obtain ⟨hP, hD⟩ := va_join (wr := [(z 0, .inr (7, [.ref (z 1), .ref (z 3), .int (nI nd), .int (nI nsg)])), (z 1, .inr (5, [.ref (z 2)])), (z 2, .inl (dA 0, 30, .inl tS))]) (w1 := [(z 3, .inr (5, [.ref (z 4)])), (z 4, .inl (dA 0, 30, .inl tG))]) hP hD [3, 4] [0, 1, 2] rfl rfl (by decide) (by decide) hk1 hFc hP1 hD1
        generalize H1 = H at hP hS ⊢
        have hP : va_P D vwCl [(z 0, .inr (7, [.ref (z 1), .ref (z 3), .int (nI nd), .int (nI nsg)])), (z 1, .inr (5, [.ref (z 2)])), (z 2, .inl (dA 0, 30, .inl tS)), (z 3, .inr (5, [.ref (z 4)])), (z 4, .inl (dA 0, 30, .inl tG))] H := hP
        have hD : va_D A [(z 0, .inr (7, [.ref (z 1), .ref (z 3), .int (nI nd), .int (nI nsg)])), (z 1, .inr (5, [.ref (z 2)])), (z 2, .inl (dA 0, 30, .inl tS)), (z 3, .inr (5, [.ref (z 4)])), (z 4, .inl (dA 0, 30, .inl tG))] := hD
        obtain rfl : r2 = tG i4 := hw4
        refine lv_iconst (v := (-1)) hx hb dX4_removedInSegments_20 (by decide) ?_
        refine lv_icmp_eq (tgt := 37) hx hb dX4_removedInSegments_21 (by decide) (fun c5 => ?_) (fun c5 => ?_)
        · refine lv_iinc (v := nI (i4 + 1)) (lv' := [(2, .int (nI (i4 + 1))), (1, .int (nI (cn (fun d => !decide (tG d = -1) && decide (tS d = 114)) i4))), (0, .ref (z 0))]) hx hb dX4_removedInSegments_37 hl (k := 0) rfl (nI_add i4 1) (by decide) rfl (fun ls hl => ?_)
          refine lv_goto (tgt := 4) hx hb dX4_removedInSegments_40 (by decide) ?_
          exact ih4 (i4 + 1) (nI (cn (fun d => !decide (tG d = -1) && decide (tS d = 114)) i4)) (by omega) (by omega) (by omega) (cn_n' (f := (fun d => !decide (tG d = -1) && decide (tS d = 114))) (by simp [c5])) _ _ hP hD hS ls (lv_sub hl [0, 1, 2] rfl)
        · refine lv_aload_n hx hb dX4_removedInSegments_24 rfl (lv_at hl 2 rfl) ?_
          refine lv_iload_n hx hb dX4_removedInSegments_25 rfl (lv_at hl 0 rfl) ?_
          have hPc := hP.sub (ws' := [(z 0, .inr (7, [.ref (z 1), .ref (z 3), .int (nI nd), .int (nI nsg)])), (z 1, .inr (5, [.ref (z 2)])), (z 2, .inl (dA 0, 30, .inl tS)), (z 3, .inr (5, [.ref (z 4)])), (z 4, .inl (dA 0, 30, .inl tG))]) [0, 1, 2, 3, 4] rfl
          have hDc := hD.sub (ws' := [(z 0, .inr (7, [.ref (z 1), .ref (z 3), .int (nI nd), .int (nI nsg)])), (z 1, .inr (5, [.ref (z 2)])), (z 2, .inl (dA 0, 30, .inl tS)), (z 3, .inr (5, [.ref (z 4)])), (z 4, .inl (dA 0, 30, .inl tG))]) [0, 1, 2, 3, 4] (by decide) rfl
          have hFc := va_free (wc := [(z 0, .inr (7, [.ref (z 1), .ref (z 3), .int (nI nd), .int (nI nsg)])), (z 1, .inr (5, [.ref (z 2)])), (z 2, .inl (dA 0, 30, .inl tS)), (z 3, .inr (5, [.ref (z 4)])), (z 4, .inl (dA 0, 30, .inl tG))]) hD hS hA [0, 1, 2, 3, 4] rfl
          refine va_calli (va_runV (As := [.int (nI i4)]) (rest := []) ⟨hx, hb, hml, hown, hts⟩ (s_stateOf l D dA E z tS tG nd nsg i4 H.size  (by omega) (by omega) (by omega) hAC) (cwV 1 hts (ga_V q239 q240 q237 q241 q238) rfl rfl rfl (by decide +kernel) ⟨(Nat.le_of_ble_eq_true rfl), (Nat.le_of_ble_eq_true rfl)⟩) ⟨pb_blind, va_recv hK hPc (ci := 7) (q0 := 0) rfl rfl, pb_pre hK hPc hDc hZ hS hFc _⟩ rfl rfl hl.1 rfl (lv_room (Nat.le_of_ble_eq_true rfl)) dX4_removedInSegments_26 ⟨(Nat.le_of_ble_eq_true rfl), (Nat.le_of_ble_eq_true rfl)⟩) hS (fun q _ h => hFc q h) hFc (fun r u t H1 locs ht hvm hw hB hz1 hk1 hS => ?_)
          refine W.widen (k := 0) (n := 0) (Nat.le_of_ble_eq_true rfl) (Nat.le_of_ble_eq_true rfl) ?_
          obtain ⟨r6, rfl⟩ : ∃ z, z = r := ⟨_, rfl⟩
          obtain ⟨u7, rfl⟩ : ∃ z, z = u := ⟨_, rfl⟩
          have hw8 := hw
          clear hw
          obtain ⟨hP1, hD1⟩ := hB
          rw [ht] at hP1
          obtain ⟨hP, hD⟩ := va_join (wr := []) (w1 := [(z 0, .inr (7, [.ref (z 1), .ref (z 3), .int (nI nd), .int (nI nsg)])), (z 1, .inr (5, [.ref (z 2)])), (z 2, .inl (dA 0, 30, .inl tS)), (z 3, .inr (5, [.ref (z 4)])), (z 4, .inl (dA 0, 30, .inl tG))]) hP hD [0, 1, 2, 3, 4] [] rfl rfl (by decide) (by decide) hk1 hFc hP1 hD1
          generalize H1 = H at hP hS ⊢
          have hP : va_P D vwCl [(z 0, .inr (7, [.ref (z 1), .ref (z 3), .int (nI nd), .int (nI nsg)])), (z 1, .inr (5, [.ref (z 2)])), (z 2, .inl (dA 0, 30, .inl tS)), (z 3, .inr (5, [.ref (z 4)])), (z 4, .inl (dA 0, 30, .inl tG))] H := hP
          have hD : va_D A [(z 0, .inr (7, [.ref (z 1), .ref (z 3), .int (nI nd), .int (nI nsg)])), (z 1, .inr (5, [.ref (z 2)])), (z 2, .inl (dA 0, 30, .inl tS)), (z 3, .inr (5, [.ref (z 4)])), (z 4, .inl (dA 0, 30, .inl tG))] := hD
          obtain rfl : r6 = tS i4 := hw8
          refine lv_bipush (v := 114) hx hb dX4_removedInSegments_29 (by decide) ?_
          refine lv_icmp_ne (tgt := 37) hx hb dX4_removedInSegments_31 (by decide) (fun c9 => ?_) (fun c9 => ?_)
          · refine lv_iinc (v := nI (i4 + 1)) (lv' := [(2, .int (nI (i4 + 1))), (1, .int (nI (cn (fun d => !decide (tG d = -1) && decide (tS d = 114)) i4))), (0, .ref (z 0))]) hx hb dX4_removedInSegments_37 hl (k := 0) rfl (nI_add i4 1) (by decide) rfl (fun ls hl => ?_)
            refine lv_goto (tgt := 4) hx hb dX4_removedInSegments_40 (by decide) ?_
            exact ih4 (i4 + 1) (nI (cn (fun d => !decide (tG d = -1) && decide (tS d = 114)) i4)) (by omega) (by omega) (by omega) (cn_n' (f := (fun d => !decide (tG d = -1) && decide (tS d = 114))) (by simp [c5, c9])) _ _ hP hD hS ls (lv_sub hl [0, 1, 2] rfl)
          · refine lv_iinc (v := nI ((cn (fun d => !decide (tG d = -1) && decide (tS d = 114)) i4) + 1)) (lv' := [(1, .int (nI ((cn (fun d => !decide (tG d = -1) && decide (tS d = 114)) i4) + 1))), (2, .int (nI i4)), (0, .ref (z 0))]) hx hb dX4_removedInSegments_34 hl (k := 1) rfl (nI_add (cn (fun d => !decide (tG d = -1) && decide (tS d = 114)) i4) 1) (by decide) rfl (fun ls hl => ?_)
            refine lv_iinc (v := nI (i4 + 1)) (lv' := [(2, .int (nI (i4 + 1))), (1, .int (nI ((cn (fun d => !decide (tG d = -1) && decide (tS d = 114)) i4) + 1))), (0, .ref (z 0))]) hx hb dX4_removedInSegments_37 hl (k := 1) rfl (nI_add i4 1) (by decide) rfl (fun ls hl => ?_)
            refine lv_goto (tgt := 4) hx hb dX4_removedInSegments_40 (by decide) ?_
            exact ih4 (i4 + 1) (nI ((cn (fun d => !decide (tG d = -1) && decide (tS d = 114)) i4) + 1)) (by omega) (by omega) (by omega) (cn_y (f := (fun d => !decide (tG d = -1) && decide (tS d = 114))) (by simp [c5, c9])) _ _ hP hD hS ls (lv_sub hl [0, 1, 2] rfl)
  exact K4 (nd + 1) 0 0 (by omega) (by omega) (by omega) rfl _ _ hP hD hS ls hl
