/-! CONTRACTS, general -/
theorem q235 : (.fieldLink RX4 14 "TallowIndex$Shelf" "states" "LTallowIndex$Row;" : Cond) ∈ WA := WA_of (tb_1 81 rfl) rfl
theorem q236 : (.methodLink RX4 31 yX2_get : Cond) ∈ WA := WA_of (tb_1 192 rfl) rfl
theorem q237 : (.selects RX4 yX4_stateOf yX4_stateOf : Cond) ∈ WA := WA_of (tb_1 190 rfl) rfl
theorem q238 : (.code yX4_stateOf cX4_stateOf 2 (some .char) : Cond) ∈ WA := WA_of (tb_1 191 rfl) rfl
theorem q239 : (.methodLink RX4 35 yX4_stateOf : Cond) ∈ WA := WA_of (tb_1 188 rfl) rfl
theorem q240 : (.instanceMethod yX4_stateOf : Cond) ∈ WA := WA_of (tb_1 189 rfl) rfl
theorem q241 : (.initialized RX4 : Cond) ∈ WA := WA_of (tb_1 5 rfl) rfl
theorem q242 : (.methodLink RX4 27 yX2_put : Cond) ∈ WA := WA_of (tb_1 196 rfl) rfl
theorem q243 : (.fieldLink RX4 23 "TallowIndex$Shelf" "documentCount" "I" : Cond) ∈ WA := WA_of (tb_1 83 rfl) rfl
theorem q244 : (.fieldLink RX4 20 "TallowIndex$Shelf" "homes" "LTallowIndex$Row;" : Cond) ∈ WA := WA_of (tb_1 82 rfl) rfl
theorem q245 : (.fieldLink RX4 39 "TallowIndex$Shelf" "segmentCount" "I" : Cond) ∈ WA := WA_of (tb_1 84 rfl) rfl
theorem q246 : (.selects RX4 yX4_moveUp yX4_moveUp : Cond) ∈ WA := WA_of (sb_1 8 rfl) rfl
theorem q247 : (.code yX4_moveUp cX4_moveUp 5 none : Cond) ∈ WA := WA_of (tb_3 187 rfl) rfl
theorem q248 : (.methodLink RX4 42 yX4_moveUp : Cond) ∈ WA := WA_of (tb_3 184 rfl) rfl
theorem q249 : (.instanceMethod yX4_moveUp : Cond) ∈ WA := WA_of (tb_3 186 rfl) rfl
theorem q250 : (.selects RX2 yX2_copyFrom yX2_copyFrom : Cond) ∈ WA := WA_of (tb_1 214 rfl) rfl
theorem q251 : (.code yX2_copyFrom cX2_copyFrom 3 none : Cond) ∈ WA := WA_of (tb_1 215 rfl) rfl
theorem q252 : (.methodLink RX4 45 yX2_copyFrom : Cond) ∈ WA := WA_of (tb_1 212 rfl) rfl
theorem q253 : (.instanceMethod yX2_copyFrom : Cond) ∈ WA := WA_of (tb_1 213 rfl) rfl
theorem q254 : (.selects RX4 yX4_lives yX4_lives : Cond) ∈ WA := WA_of (tb_1 227 rfl) rfl
theorem q255 : (.code yX4_lives cX4_lives 2 (some .boolean) : Cond) ∈ WA := WA_of (tb_1 228 rfl) rfl
theorem q256 : (.methodLink RX4 49 yX4_lives : Cond) ∈ WA := WA_of (tb_1 225 rfl) rfl
theorem q257 : (.instanceMethod yX4_lives : Cond) ∈ WA := WA_of (tb_1 226 rfl) rfl
theorem q258 : (.selects RX2 yX2_fill yX2_fill : Cond) ∈ WA := WA_of (tb_3 202 rfl) rfl
theorem q259 : (.code yX2_fill cX2_fill 3 none : Cond) ∈ WA := WA_of (tb_3 203 rfl) rfl
theorem q260 : (.methodLink RX4 53 yX2_fill : Cond) ∈ WA := WA_of (tb_3 200 rfl) rfl
theorem q261 : (.instanceMethod yX2_fill : Cond) ∈ WA := WA_of (tb_3 201 rfl) rfl
theorem ch16 (x : Int32) : (x.toUInt32 % 65536).toInt32 = vp_nar .char x := by
  rw [vp_nar_char, UInt32.toUInt32_toUInt16]
theorem AC_i2c {f : Nat → Int32} (h : AC f) (j : Nat) : (UInt32.toInt32 ((f j).toUInt32 % 65536)) = f j := (ch16 (f j)).trans (h j)
theorem AC_upd9 {f : Nat → Int32} {i : Nat} {x : Int32} (h : AC f) (hx : vp_nar .char x = x) : AC (upd f i x) := by
  intro j
  unfold upd
  split
  · exact hx
  · exact h j
def mgA (s : Nat) (st g : Nat → Int32) (d : Nat) : Int32 := if g d = nI s ∨ g d = nI (s + 1) then (if st d = 114 then -1 else nI s) else g d
def mgL (s : Nat) (st g : Nat → Int32) (d : Nat) : Bool := (decide (g d = nI s) || decide (g d = nI (s + 1))) && !decide (st d = 114)
def mvF (s b : Nat) (g : Nat → Int32) (d : Nat) : Int32 := if nI s < g d then g d - nI b else g d
theorem hs_0 {n : Nat} {p : Int32} (hn : n ≤ 1000) (h : inR 0 (nI n - 1) p = false) (h0 : ¬ p < 0) (h1 : ¬ nI n ≤ p) : False := by
  obtain ⟨j, hj, rfl⟩ := nI_of h0
  have h2 : ¬ n ≤ j := fun q => h1 ((nI_leI (by omega) hj).mpr q)
  rw [inT hn (by omega)] at h
  exact absurd h (by decide)
set_option maxHeartbeats 4000000 in
set_option maxRecDepth 100000 in
theorem s_stateOf (l : Launch) (D : va_G) (dA : Nat → ClassId) (E : Nat) (z : Nat → Nat) (tS tG : Nat → Int32) (nd nsg : Nat) (d : Nat) (sz : Nat) (hnd : nd ≤ 30) (hnsg : nsg ≤ 1000) (hd : d < 30) (hAC : AC tS)  : Met l yX4_stateOf (wq (.code yX4_stateOf cX4_stateOf 2 (some .char))) { frames := 1, cells := 0, slots := 0, locals := 21 } (va_Pc [.ref (z 0), .int (nI d)] (PcB D dA E [(z 0, .inr (7, [.ref (z 1), .ref (z 3), .int (nI nd), .int (nI nsg)])), (z 1, .inr (5, [.ref (z 2)])), (z 2, .inl (dA 0, 30, .inl tS)), (z 3, .inr (5, [.ref (z 4)])), (z 4, .inl (dA 0, 30, .inl tG))] sz)) (va_Qi (fun (r : Int32) (u : Unit) => r = tS d) (fun u t => va_P D vwCl [(z 0, .inr (7, [.ref (z 1), .ref (z 3), .int (nI nd), .int (nI nsg)])), (z 1, .inr (5, [.ref (z 2)])), (z 2, .inl (dA 0, 30, .inl tS)), (z 3, .inr (5, [.ref (z 4)])), (z 4, .inl (dA 0, 30, .inl tG))] t.heap ∧ va_D (va_A [(z 0, .inr (7, [.ref (z 1), .ref (z 3), .int (nI nd), .int (nI nsg)])), (z 1, .inr (5, [.ref (z 2)])), (z 2, .inl (dA 0, 30, .inl tS)), (z 3, .inr (5, [.ref (z 4)])), (z 4, .inl (dA 0, 30, .inl tG))] sz) [(z 0, .inr (7, [.ref (z 1), .ref (z 3), .int (nI nd), .int (nI nsg)])), (z 1, .inr (5, [.ref (z 2)])), (z 2, .inl (dA 0, 30, .inl tS)), (z 3, .inr (5, [.ref (z 4)])), (z 4, .inl (dA 0, 30, .inl tG))]) (va_A [(z 0, .inr (7, [.ref (z 1), .ref (z 3), .int (nI nd), .int (nI nsg)])), (z 1, .inr (5, [.ref (z 2)])), (z 2, .inl (dA 0, 30, .inl tS)), (z 3, .inr (5, [.ref (z 4)])), (z 4, .inl (dA 0, 30, .inl tG))] sz)) 0 0 (va_A [(z 0, .inr (7, [.ref (z 1), .ref (z 3), .int (nI nd), .int (nI nsg)])), (z 1, .inr (5, [.ref (z 2)])), (z 2, .inl (dA 0, 30, .inl tS)), (z 3, .inr (5, [.ref (z 4)])), (z 4, .inl (dA 0, 30, .inl tG))] sz) := by
  refine mb_of (Qc := fun A => va_Qi (fun (r : Int32) (u : Unit) => r = tS d) (fun u t => va_P D vwCl [(z 0, .inr (7, [.ref (z 1), .ref (z 3), .int (nI nd), .int (nI nsg)])), (z 1, .inr (5, [.ref (z 2)])), (z 2, .inl (dA 0, 30, .inl tS)), (z 3, .inr (5, [.ref (z 4)])), (z 4, .inl (dA 0, 30, .inl tG))] t.heap ∧ va_D A [(z 0, .inr (7, [.ref (z 1), .ref (z 3), .int (nI nd), .int (nI nsg)])), (z 1, .inr (5, [.ref (z 2)])), (z 2, .inl (dA 0, 30, .inl tS)), (z 3, .inr (5, [.ref (z 4)])), (z 4, .inl (dA 0, 30, .inl tG))]) A) RX4 rfl (by decide) (Nat.le_of_ble_eq_true rfl) ?_
  intro p e s m args below meth c hae hx hb hr hts hown hlocks hml hnm hP hK A hAe hD hZ hS hA ls hl
  replace hl : lv_has ls 2 [(0, .ref (z 0)), (1, .int (nI d))] := hl
  refine lv_aload_n hx hb dX4_stateOf_0 rfl (lv_at hl 0 rfl) ?_
  refine va_get (D := D) (ci := 7) (v := .ref (z 1)) (C := RX4) (T := TX4) (N := 4) hx hb hts inAX4 hown hK hP 0 rfl rfl 0 (by decide) (hts _ q235) (fun _ h9 => h9) rfl dX4_stateOf_1 ?_
  refine lv_iload_n hx hb dX4_stateOf_4 rfl (lv_at hl 1 rfl) ?_
  replace hPc := hP.sub (ws' := [(z 1, .inr (5, [.ref (z 2)])), (z 2, .inl (dA 0, 30, .inl tS))]) [1, 2] rfl
  replace hDc := hD.sub (ws' := [(z 1, .inr (5, [.ref (z 2)])), (z 2, .inl (dA 0, 30, .inl tS))]) [1, 2] (by decide) rfl
  replace hFc := va_free (wc := [(z 1, .inr (5, [.ref (z 2)])), (z 2, .inl (dA 0, 30, .inl tS))]) hD hS hA [1, 2] rfl
  refine va_calli (va_runV (As := [.int (nI d)]) (rest := []) ⟨hx, hb, hml, hown, hts⟩ (t_getN l D dA E (z 1) (z 2) 30 tS d s.heap.size  (by omega) (by decide)) (cwV 1 hts (ga_V q236 q203 q200 q204 q201) rfl rfl rfl (by decide +kernel) ⟨(Nat.le_of_ble_eq_true rfl), (Nat.le_of_ble_eq_true rfl)⟩) ⟨pb_blind, va_recv hK hPc (ci := 5) (q0 := 0) rfl rfl, pb_pre hK hPc hDc hZ hS hFc _⟩ rfl rfl hl.1 rfl (lv_room (Nat.le_of_ble_eq_true rfl)) dX4_stateOf_5 ⟨(Nat.le_of_ble_eq_true rfl), (Nat.le_of_ble_eq_true rfl)⟩) hS (fun q _ h => hFc q h) hFc (fun r u t H1 locs ht hvm hw hB hz1 hk1 hS => ?_)
  refine W.widen (k := 0) (n := 0) (Nat.le_of_ble_eq_true rfl) (Nat.le_of_ble_eq_true rfl) ?_
  obtain ⟨r1, rfl⟩ : ∃ z, z = r := ⟨_, rfl⟩
  obtain ⟨u2, rfl⟩ : ∃ z, z = u := ⟨_, rfl⟩
  have hw3 := hw
  clear hw
  obtain ⟨hP1, hD1⟩ := hB
  rw [ht] at hP1
  obtain ⟨hP, hD⟩ := va_join (wr := [(z 0, .inr (7, [.ref (z 1), .ref (z 3), .int (nI nd), .int (nI nsg)])), (z 3, .inr (5, [.ref (z 4)])), (z 4, .inl (dA 0, 30, .inl tG))]) (w1 := [(z 1, .inr (5, [.ref (z 2)])), (z 2, .inl (dA 0, 30, .inl tS))]) hP hD [1, 2] [0, 3, 4] rfl rfl (by decide) (by decide) hk1 hFc hP1 hD1
  generalize H1 = H at hP hS ⊢
  replace hP : va_P D vwCl [(z 0, .inr (7, [.ref (z 1), .ref (z 3), .int (nI nd), .int (nI nsg)])), (z 3, .inr (5, [.ref (z 4)])), (z 4, .inl (dA 0, 30, .inl tG)), (z 1, .inr (5, [.ref (z 2)])), (z 2, .inl (dA 0, 30, .inl tS))] H := hP
  replace hD : va_D A [(z 0, .inr (7, [.ref (z 1), .ref (z 3), .int (nI nd), .int (nI nsg)])), (z 3, .inr (5, [.ref (z 4)])), (z 4, .inl (dA 0, 30, .inl tG)), (z 1, .inr (5, [.ref (z 2)])), (z 2, .inl (dA 0, 30, .inl tS))] := hD
  obtain rfl : r1 = tS d := hw3
  refine lv_i2c (v := tS d) hx hb dX4_stateOf_8 (AC_i2c hAC d) ?_
  refine W.widen (k := 0) (n := 0) (Nat.le_of_ble_eq_true rfl) (Nat.le_of_ble_eq_true rfl) ?_
  have hP9 := hP.sub (ws' := [(z 0, .inr (7, [.ref (z 1), .ref (z 3), .int (nI nd), .int (nI nsg)])), (z 1, .inr (5, [.ref (z 2)])), (z 2, .inl (dA 0, 30, .inl tS)), (z 3, .inr (5, [.ref (z 4)])), (z 4, .inl (dA 0, 30, .inl tG))]) [0, 3, 4, 1, 2] rfl
  have hD9 := hD.sub (ws' := [(z 0, .inr (7, [.ref (z 1), .ref (z 3), .int (nI nd), .int (nI nsg)])), (z 1, .inr (5, [.ref (z 2)])), (z 2, .inl (dA 0, 30, .inl tS)), (z 3, .inr (5, [.ref (z 4)])), (z 4, .inl (dA 0, 30, .inl tG))]) [0, 3, 4, 1, 2] (by decide) rfl
  exact W.zret (v := (tS d)) hx hb hr (AC_nar hAC d) (fun t ht hW => ⟨⟨(tS d), (), rfl, rfl, ⟨by rw [ht]; exact hP9, hD9⟩⟩, hS.F ht⟩) hS.2.2 dX4_stateOf_9

set_option maxHeartbeats 4000000 in
set_option maxRecDepth 100000 in
theorem s_lives (l : Launch) (D : va_G) (dA : Nat → ClassId) (E : Nat) (z : Nat → Nat) (tS tG : Nat → Int32) (nd nsg : Nat) (d : Nat) (sz : Nat) (hnd : nd ≤ 30) (hnsg : nsg ≤ 1000) (hd : d < 30) (hAC : AC tS)  : Met l yX4_lives (wq (.code yX4_lives cX4_lives 2 (some .boolean))) { frames := 2, cells := 0, slots := 0, locals := 42 } (va_Pc [.ref (z 0), .int (nI d)] (PcB D dA E [(z 0, .inr (7, [.ref (z 1), .ref (z 3), .int (nI nd), .int (nI nsg)])), (z 1, .inr (5, [.ref (z 2)])), (z 2, .inl (dA 0, 30, .inl tS)), (z 3, .inr (5, [.ref (z 4)])), (z 4, .inl (dA 0, 30, .inl tG))] sz)) (va_Qi (fun (r : Int32) (u : Unit) => r = bI (thB (tS d))) (fun u t => va_P D vwCl [(z 0, .inr (7, [.ref (z 1), .ref (z 3), .int (nI nd), .int (nI nsg)])), (z 1, .inr (5, [.ref (z 2)])), (z 2, .inl (dA 0, 30, .inl tS)), (z 3, .inr (5, [.ref (z 4)])), (z 4, .inl (dA 0, 30, .inl tG))] t.heap ∧ va_D (va_A [(z 0, .inr (7, [.ref (z 1), .ref (z 3), .int (nI nd), .int (nI nsg)])), (z 1, .inr (5, [.ref (z 2)])), (z 2, .inl (dA 0, 30, .inl tS)), (z 3, .inr (5, [.ref (z 4)])), (z 4, .inl (dA 0, 30, .inl tG))] sz) [(z 0, .inr (7, [.ref (z 1), .ref (z 3), .int (nI nd), .int (nI nsg)])), (z 1, .inr (5, [.ref (z 2)])), (z 2, .inl (dA 0, 30, .inl tS)), (z 3, .inr (5, [.ref (z 4)])), (z 4, .inl (dA 0, 30, .inl tG))]) (va_A [(z 0, .inr (7, [.ref (z 1), .ref (z 3), .int (nI nd), .int (nI nsg)])), (z 1, .inr (5, [.ref (z 2)])), (z 2, .inl (dA 0, 30, .inl tS)), (z 3, .inr (5, [.ref (z 4)])), (z 4, .inl (dA 0, 30, .inl tG))] sz)) 0 0 (va_A [(z 0, .inr (7, [.ref (z 1), .ref (z 3), .int (nI nd), .int (nI nsg)])), (z 1, .inr (5, [.ref (z 2)])), (z 2, .inl (dA 0, 30, .inl tS)), (z 3, .inr (5, [.ref (z 4)])), (z 4, .inl (dA 0, 30, .inl tG))] sz) := by
  refine mb_of (Qc := fun A => va_Qi (fun (r : Int32) (u : Unit) => r = bI (thB (tS d))) (fun u t => va_P D vwCl [(z 0, .inr (7, [.ref (z 1), .ref (z 3), .int (nI nd), .int (nI nsg)])), (z 1, .inr (5, [.ref (z 2)])), (z 2, .inl (dA 0, 30, .inl tS)), (z 3, .inr (5, [.ref (z 4)])), (z 4, .inl (dA 0, 30, .inl tG))] t.heap ∧ va_D A [(z 0, .inr (7, [.ref (z 1), .ref (z 3), .int (nI nd), .int (nI nsg)])), (z 1, .inr (5, [.ref (z 2)])), (z 2, .inl (dA 0, 30, .inl tS)), (z 3, .inr (5, [.ref (z 4)])), (z 4, .inl (dA 0, 30, .inl tG))]) A) RX4 rfl (by decide) (Nat.le_of_ble_eq_true rfl) ?_
  intro p e s m args below meth c hae hx hb hr hts hown hlocks hml hnm hP hK A hAe hD hZ hS hA ls hl
  replace hl : lv_has ls 2 [(0, .ref (z 0)), (1, .int (nI d))] := hl
  refine lv_aload_n hx hb dX4_lives_0 rfl (lv_at hl 0 rfl) ?_
  refine lv_iload_n hx hb dX4_lives_1 rfl (lv_at hl 1 rfl) ?_
  replace hPc := hP.sub (ws' := [(z 0, .inr (7, [.ref (z 1), .ref (z 3), .int (nI nd), .int (nI nsg)])), (z 1, .inr (5, [.ref (z 2)])), (z 2, .inl (dA 0, 30, .inl tS)), (z 3, .inr (5, [.ref (z 4)])), (z 4, .inl (dA 0, 30, .inl tG))]) [0, 1, 2, 3, 4] rfl
  replace hDc := hD.sub (ws' := [(z 0, .inr (7, [.ref (z 1), .ref (z 3), .int (nI nd), .int (nI nsg)])), (z 1, .inr (5, [.ref (z 2)])), (z 2, .inl (dA 0, 30, .inl tS)), (z 3, .inr (5, [.ref (z 4)])), (z 4, .inl (dA 0, 30, .inl tG))]) [0, 1, 2, 3, 4] (by decide) rfl
  replace hFc := va_free (wc := [(z 0, .inr (7, [.ref (z 1), .ref (z 3), .int (nI nd), .int (nI nsg)])), (z 1, .inr (5, [.ref (z 2)])), (z 2, .inl (dA 0, 30, .inl tS)), (z 3, .inr (5, [.ref (z 4)])), (z 4, .inl (dA 0, 30, .inl tG))]) hD hS hA [0, 1, 2, 3, 4] rfl
  refine va_calli (va_runV (As := [.int (nI d)]) (rest := []) ⟨hx, hb, hml, hown, hts⟩ (s_stateOf l D dA E z tS tG nd nsg d s.heap.size  (by omega) (by omega) (by omega) hAC) (cwV 1 hts (ga_V q239 q240 q237 q241 q238) rfl rfl rfl (by decide +kernel) ⟨(Nat.le_of_ble_eq_true rfl), (Nat.le_of_ble_eq_true rfl)⟩) ⟨pb_blind, va_recv hK hPc (ci := 7) (q0 := 0) rfl rfl, pb_pre hK hPc hDc hZ hS hFc _⟩ rfl rfl hl.1 rfl (lv_room (Nat.le_of_ble_eq_true rfl)) dX4_lives_2 ⟨(Nat.le_of_ble_eq_true rfl), (Nat.le_of_ble_eq_true rfl)⟩) hS (fun q _ h => hFc q h) hFc (fun r u t H1 locs ht hvm hw hB hz1 hk1 hS => ?_)
  refine W.widen (k := 0) (n := 0) (Nat.le_of_ble_eq_true rfl) (Nat.le_of_ble_eq_true rfl) ?_
  obtain ⟨r1, rfl⟩ : ∃ z, z = r := ⟨_, rfl⟩
  obtain ⟨u2, rfl⟩ : ∃ z, z = u := ⟨_, rfl⟩
  have hw3 := hw
  clear hw
  obtain ⟨hP1, hD1⟩ := hB
  rw [ht] at hP1
  obtain ⟨hP, hD⟩ := va_join (wr := []) (w1 := [(z 0, .inr (7, [.ref (z 1), .ref (z 3), .int (nI nd), .int (nI nsg)])), (z 1, .inr (5, [.ref (z 2)])), (z 2, .inl (dA 0, 30, .inl tS)), (z 3, .inr (5, [.ref (z 4)])), (z 4, .inl (dA 0, 30, .inl tG))]) hP hD [0, 1, 2, 3, 4] [] rfl rfl (by decide) (by decide) hk1 hFc hP1 hD1
  generalize H1 = H at hP hS ⊢
  replace hP : va_P D vwCl [(z 0, .inr (7, [.ref (z 1), .ref (z 3), .int (nI nd), .int (nI nsg)])), (z 1, .inr (5, [.ref (z 2)])), (z 2, .inl (dA 0, 30, .inl tS)), (z 3, .inr (5, [.ref (z 4)])), (z 4, .inl (dA 0, 30, .inl tG))] H := hP
  replace hD : va_D A [(z 0, .inr (7, [.ref (z 1), .ref (z 3), .int (nI nd), .int (nI nsg)])), (z 1, .inr (5, [.ref (z 2)])), (z 2, .inl (dA 0, 30, .inl tS)), (z 3, .inr (5, [.ref (z 4)])), (z 4, .inl (dA 0, 30, .inl tG))] := hD
  obtain rfl : r1 = tS d := hw3
  refine lv_bipush (v := 98) hx hb dX4_lives_5 (by decide) ?_
  refine lv_icmp_eq (tgt := 20) hx hb dX4_lives_7 (by decide) (fun c4 => ?_) (fun c4 => ?_)
  · refine lv_iconst (v := 1) hx hb dX4_lives_20 (by decide) ?_
    refine lv_goto (tgt := 25) hx hb dX4_lives_21 (by decide) ?_
    refine W.widen (k := 0) (n := 0) (Nat.le_of_ble_eq_true rfl) (Nat.le_of_ble_eq_true rfl) ?_
    have hP9 := hP.sub (ws' := [(z 0, .inr (7, [.ref (z 1), .ref (z 3), .int (nI nd), .int (nI nsg)])), (z 1, .inr (5, [.ref (z 2)])), (z 2, .inl (dA 0, 30, .inl tS)), (z 3, .inr (5, [.ref (z 4)])), (z 4, .inl (dA 0, 30, .inl tG))]) [0, 1, 2, 3, 4] rfl
    have hD9 := hD.sub (ws' := [(z 0, .inr (7, [.ref (z 1), .ref (z 3), .int (nI nd), .int (nI nsg)])), (z 1, .inr (5, [.ref (z 2)])), (z 2, .inl (dA 0, 30, .inl tS)), (z 3, .inr (5, [.ref (z 4)])), (z 4, .inl (dA 0, 30, .inl tG))]) [0, 1, 2, 3, 4] (by decide) rfl
    exact W.zret (v := 1) hx hb hr rfl (fun t ht hW => ⟨⟨1, (), rfl, (show _ = bI (thB (tS d)) from (congrArg bI (thB_1 c4)).symm), ⟨by rw [ht]; exact hP9, hD9⟩⟩, hS.F ht⟩) hS.2.2 dX4_lives_25
  · refine lv_aload_n hx hb dX4_lives_10 rfl (lv_at hl 0 rfl) ?_
    refine lv_iload_n hx hb dX4_lives_11 rfl (lv_at hl 1 rfl) ?_
    replace hPc := hP.sub (ws' := [(z 0, .inr (7, [.ref (z 1), .ref (z 3), .int (nI nd), .int (nI nsg)])), (z 1, .inr (5, [.ref (z 2)])), (z 2, .inl (dA 0, 30, .inl tS)), (z 3, .inr (5, [.ref (z 4)])), (z 4, .inl (dA 0, 30, .inl tG))]) [0, 1, 2, 3, 4] rfl
    replace hDc := hD.sub (ws' := [(z 0, .inr (7, [.ref (z 1), .ref (z 3), .int (nI nd), .int (nI nsg)])), (z 1, .inr (5, [.ref (z 2)])), (z 2, .inl (dA 0, 30, .inl tS)), (z 3, .inr (5, [.ref (z 4)])), (z 4, .inl (dA 0, 30, .inl tG))]) [0, 1, 2, 3, 4] (by decide) rfl
    replace hFc := va_free (wc := [(z 0, .inr (7, [.ref (z 1), .ref (z 3), .int (nI nd), .int (nI nsg)])), (z 1, .inr (5, [.ref (z 2)])), (z 2, .inl (dA 0, 30, .inl tS)), (z 3, .inr (5, [.ref (z 4)])), (z 4, .inl (dA 0, 30, .inl tG))]) hD hS hA [0, 1, 2, 3, 4] rfl
    refine va_calli (va_runV (As := [.int (nI d)]) (rest := []) ⟨hx, hb, hml, hown, hts⟩ (s_stateOf l D dA E z tS tG nd nsg d H.size  (by omega) (by omega) (by omega) hAC) (cwV 1 hts (ga_V q239 q240 q237 q241 q238) rfl rfl rfl (by decide +kernel) ⟨(Nat.le_of_ble_eq_true rfl), (Nat.le_of_ble_eq_true rfl)⟩) ⟨pb_blind, va_recv hK hPc (ci := 7) (q0 := 0) rfl rfl, pb_pre hK hPc hDc hZ hS hFc _⟩ rfl rfl hl.1 rfl (lv_room (Nat.le_of_ble_eq_true rfl)) dX4_lives_12 ⟨(Nat.le_of_ble_eq_true rfl), (Nat.le_of_ble_eq_true rfl)⟩) hS (fun q _ h => hFc q h) hFc (fun r u t H1 locs ht hvm hw hB hz1 hk1 hS => ?_)
    refine W.widen (k := 0) (n := 0) (Nat.le_of_ble_eq_true rfl) (Nat.le_of_ble_eq_true rfl) ?_
    obtain ⟨r5, rfl⟩ : ∃ z, z = r := ⟨_, rfl⟩
    obtain ⟨u6, rfl⟩ : ∃ z, z = u := ⟨_, rfl⟩
    have hw7 := hw
    clear hw
    obtain ⟨hP1, hD1⟩ := hB
    rw [ht] at hP1
    obtain ⟨hP, hD⟩ := va_join (wr := []) (w1 := [(z 0, .inr (7, [.ref (z 1), .ref (z 3), .int (nI nd), .int (nI nsg)])), (z 1, .inr (5, [.ref (z 2)])), (z 2, .inl (dA 0, 30, .inl tS)), (z 3, .inr (5, [.ref (z 4)])), (z 4, .inl (dA 0, 30, .inl tG))]) hP hD [0, 1, 2, 3, 4] [] rfl rfl (by decide) (by decide) hk1 hFc hP1 hD1
    generalize H1 = H at hP hS ⊢
    replace hP : va_P D vwCl [(z 0, .inr (7, [.ref (z 1), .ref (z 3), .int (nI nd), .int (nI nsg)])), (z 1, .inr (5, [.ref (z 2)])), (z 2, .inl (dA 0, 30, .inl tS)), (z 3, .inr (5, [.ref (z 4)])), (z 4, .inl (dA 0, 30, .inl tG))] H := hP
    replace hD : va_D A [(z 0, .inr (7, [.ref (z 1), .ref (z 3), .int (nI nd), .int (nI nsg)])), (z 1, .inr (5, [.ref (z 2)])), (z 2, .inl (dA 0, 30, .inl tS)), (z 3, .inr (5, [.ref (z 4)])), (z 4, .inl (dA 0, 30, .inl tG))] := hD
    obtain rfl : r5 = tS d := hw7
    refine lv_bipush (v := 115) hx hb dX4_lives_15 (by decide) ?_
    refine lv_icmp_ne (tgt := 24) hx hb dX4_lives_17 (by decide) (fun c8 => ?_) (fun c8 => ?_)
    · refine lv_iconst (v := 0) hx hb dX4_lives_24 (by decide) ?_
      refine W.widen (k := 0) (n := 0) (Nat.le_of_ble_eq_true rfl) (Nat.le_of_ble_eq_true rfl) ?_
      have hP9 := hP.sub (ws' := [(z 0, .inr (7, [.ref (z 1), .ref (z 3), .int (nI nd), .int (nI nsg)])), (z 1, .inr (5, [.ref (z 2)])), (z 2, .inl (dA 0, 30, .inl tS)), (z 3, .inr (5, [.ref (z 4)])), (z 4, .inl (dA 0, 30, .inl tG))]) [0, 1, 2, 3, 4] rfl
      have hD9 := hD.sub (ws' := [(z 0, .inr (7, [.ref (z 1), .ref (z 3), .int (nI nd), .int (nI nsg)])), (z 1, .inr (5, [.ref (z 2)])), (z 2, .inl (dA 0, 30, .inl tS)), (z 3, .inr (5, [.ref (z 4)])), (z 4, .inl (dA 0, 30, .inl tG))]) [0, 1, 2, 3, 4] (by decide) rfl
      exact W.zret (v := 0) hx hb hr rfl (fun t ht hW => ⟨⟨0, (), rfl, (show _ = bI (thB (tS d)) from (congrArg bI (thB_0 c4 c8)).symm), ⟨by rw [ht]; exact hP9, hD9⟩⟩, hS.F ht⟩) hS.2.2 dX4_lives_25
    · refine lv_iconst (v := 1) hx hb dX4_lives_20 (by decide) ?_
      refine lv_goto (tgt := 25) hx hb dX4_lives_21 (by decide) ?_
      refine W.widen (k := 0) (n := 0) (Nat.le_of_ble_eq_true rfl) (Nat.le_of_ble_eq_true rfl) ?_
      have hP9 := hP.sub (ws' := [(z 0, .inr (7, [.ref (z 1), .ref (z 3), .int (nI nd), .int (nI nsg)])), (z 1, .inr (5, [.ref (z 2)])), (z 2, .inl (dA 0, 30, .inl tS)), (z 3, .inr (5, [.ref (z 4)])), (z 4, .inl (dA 0, 30, .inl tG))]) [0, 1, 2, 3, 4] rfl
      have hD9 := hD.sub (ws' := [(z 0, .inr (7, [.ref (z 1), .ref (z 3), .int (nI nd), .int (nI nsg)])), (z 1, .inr (5, [.ref (z 2)])), (z 2, .inl (dA 0, 30, .inl tS)), (z 3, .inr (5, [.ref (z 4)])), (z 4, .inl (dA 0, 30, .inl tG))]) [0, 1, 2, 3, 4] (by decide) rfl
      exact W.zret (v := 1) hx hb hr rfl (fun t ht hW => ⟨⟨1, (), rfl, (show _ = bI (thB (tS d)) from (congrArg bI (thB_2 c8)).symm), ⟨by rw [ht]; exact hP9, hD9⟩⟩, hS.F ht⟩) hS.2.2 dX4_lives_25

set_option maxHeartbeats 4000000 in
set_option maxRecDepth 100000 in
theorem s_takeOut (l : Launch) (D : va_G) (dA : Nat → ClassId) (E : Nat) (z : Nat → Nat) (tS tG : Nat → Int32) (nd nsg : Nat) (d : Nat) (sz : Nat) (hnd : nd ≤ 30) (hnsg : nsg ≤ 1000) (hd : d < 30)  : Met l yX4_takeOut (wq (.code yX4_takeOut cX4_takeOut 2 none)) { frames := 1, cells := 0, slots := 0, locals := 22 } (va_Pc [.ref (z 0), .int (nI d)] (PcB D dA E [(z 0, .inr (7, [.ref (z 1), .ref (z 3), .int (nI nd), .int (nI nsg)])), (z 1, .inr (5, [.ref (z 2)])), (z 2, .inl (dA 0, 30, .inl tS)), (z 3, .inr (5, [.ref (z 4)])), (z 4, .inl (dA 0, 30, .inl tG))] sz)) (va_Qv (fun (u : Unit) => True) (fun u t => va_P D vwCl [(z 0, .inr (7, [.ref (z 1), .ref (z 3), .int (nI nd), .int (nI nsg)])), (z 1, .inr (5, [.ref (z 2)])), (z 2, .inl (dA 0, 30, .inl (upd tS d 114))), (z 3, .inr (5, [.ref (z 4)])), (z 4, .inl (dA 0, 30, .inl tG))] t.heap ∧ va_D (va_A [(z 0, .inr (7, [.ref (z 1), .ref (z 3), .int (nI nd), .int (nI nsg)])), (z 1, .inr (5, [.ref (z 2)])), (z 2, .inl (dA 0, 30, .inl tS)), (z 3, .inr (5, [.ref (z 4)])), (z 4, .inl (dA 0, 30, .inl tG))] sz) [(z 0, .inr (7, [.ref (z 1), .ref (z 3), .int (nI nd), .int (nI nsg)])), (z 1, .inr (5, [.ref (z 2)])), (z 2, .inl (dA 0, 30, .inl (upd tS d 114))), (z 3, .inr (5, [.ref (z 4)])), (z 4, .inl (dA 0, 30, .inl tG))]) (va_A [(z 0, .inr (7, [.ref (z 1), .ref (z 3), .int (nI nd), .int (nI nsg)])), (z 1, .inr (5, [.ref (z 2)])), (z 2, .inl (dA 0, 30, .inl tS)), (z 3, .inr (5, [.ref (z 4)])), (z 4, .inl (dA 0, 30, .inl tG))] sz)) 0 0 (va_A [(z 0, .inr (7, [.ref (z 1), .ref (z 3), .int (nI nd), .int (nI nsg)])), (z 1, .inr (5, [.ref (z 2)])), (z 2, .inl (dA 0, 30, .inl tS)), (z 3, .inr (5, [.ref (z 4)])), (z 4, .inl (dA 0, 30, .inl tG))] sz) := by
  refine mb_of (Qc := fun A => va_Qv (fun (u : Unit) => True) (fun u t => va_P D vwCl [(z 0, .inr (7, [.ref (z 1), .ref (z 3), .int (nI nd), .int (nI nsg)])), (z 1, .inr (5, [.ref (z 2)])), (z 2, .inl (dA 0, 30, .inl (upd tS d 114))), (z 3, .inr (5, [.ref (z 4)])), (z 4, .inl (dA 0, 30, .inl tG))] t.heap ∧ va_D A [(z 0, .inr (7, [.ref (z 1), .ref (z 3), .int (nI nd), .int (nI nsg)])), (z 1, .inr (5, [.ref (z 2)])), (z 2, .inl (dA 0, 30, .inl (upd tS d 114))), (z 3, .inr (5, [.ref (z 4)])), (z 4, .inl (dA 0, 30, .inl tG))]) A) RX4 rfl (by decide) (Nat.le_of_ble_eq_true rfl) ?_
  intro p e s m args below meth c hae hx hb hr hts hown hlocks hml hnm hP hK A hAe hD hZ hS hA ls hl
  replace hl : lv_has ls 2 [(0, .ref (z 0)), (1, .int (nI d))] := hl
  refine lv_aload_n hx hb dX4_takeOut_0 rfl (lv_at hl 0 rfl) ?_
  refine va_get (D := D) (ci := 7) (v := .ref (z 1)) (C := RX4) (T := TX4) (N := 4) hx hb hts inAX4 hown hK hP 0 rfl rfl 0 (by decide) (hts _ q235) (fun _ h9 => h9) rfl dX4_takeOut_1 ?_
  refine lv_iload_n hx hb dX4_takeOut_4 rfl (lv_at hl 1 rfl) ?_
  refine lv_bipush (v := 114) hx hb dX4_takeOut_5 (by decide) ?_
  replace hPc := hP.sub (ws' := [(z 1, .inr (5, [.ref (z 2)])), (z 2, .inl (dA 0, 30, .inl tS))]) [1, 2] rfl
  replace hDc := hD.sub (ws' := [(z 1, .inr (5, [.ref (z 2)])), (z 2, .inl (dA 0, 30, .inl tS))]) [1, 2] (by decide) rfl
  replace hFc := va_free (wc := [(z 1, .inr (5, [.ref (z 2)])), (z 2, .inl (dA 0, 30, .inl tS))]) hD hS hA [1, 2] rfl
  refine va_callv (va_runV (As := [.int (nI d), .int 114]) (rest := []) ⟨hx, hb, hml, hown, hts⟩ (t_putN l D dA E (z 1) (z 2) 30 tS d 114 s.heap.size  (by omega) (by decide)) (cwV 2 hts (ga_V q242 q210 q207 q204 q208) rfl rfl rfl (by decide +kernel) ⟨(Nat.le_of_ble_eq_true rfl), (Nat.le_of_ble_eq_true rfl)⟩) ⟨pb_blind, va_recv hK hPc (ci := 5) (q0 := 0) rfl rfl, pb_pre hK hPc hDc hZ hS hFc _⟩ rfl rfl hl.1 rfl (lv_room (Nat.le_of_ble_eq_true rfl)) dX4_takeOut_7 ⟨(Nat.le_of_ble_eq_true rfl), (Nat.le_of_ble_eq_true rfl)⟩) hS (fun q _ h => hFc q h) hFc (fun u t H1 locs ht hvm hw hB hz1 hk1 hS => ?_)
  refine W.widen (k := 0) (n := 0) (Nat.le_of_ble_eq_true rfl) (Nat.le_of_ble_eq_true rfl) ?_
  obtain ⟨u1, rfl⟩ : ∃ z, z = u := ⟨_, rfl⟩
  have hw2 := hw
  clear hw
  obtain ⟨hP1, hD1⟩ := hB
  rw [ht] at hP1
  obtain ⟨hP, hD⟩ := va_join (wr := [(z 0, .inr (7, [.ref (z 1), .ref (z 3), .int (nI nd), .int (nI nsg)])), (z 3, .inr (5, [.ref (z 4)])), (z 4, .inl (dA 0, 30, .inl tG))]) (w1 := [(z 1, .inr (5, [.ref (z 2)])), (z 2, .inl (dA 0, 30, .inl (upd tS d 114)))]) hP hD [1, 2] [0, 3, 4] rfl rfl (by decide) (by decide) hk1 hFc hP1 hD1
  generalize H1 = H at hP hS ⊢
  replace hP : va_P D vwCl [(z 0, .inr (7, [.ref (z 1), .ref (z 3), .int (nI nd), .int (nI nsg)])), (z 3, .inr (5, [.ref (z 4)])), (z 4, .inl (dA 0, 30, .inl tG)), (z 1, .inr (5, [.ref (z 2)])), (z 2, .inl (dA 0, 30, .inl (upd tS d 114)))] H := hP
  replace hD : va_D A [(z 0, .inr (7, [.ref (z 1), .ref (z 3), .int (nI nd), .int (nI nsg)])), (z 3, .inr (5, [.ref (z 4)])), (z 4, .inl (dA 0, 30, .inl tG)), (z 1, .inr (5, [.ref (z 2)])), (z 2, .inl (dA 0, 30, .inl (upd tS d 114)))] := hD
  refine W.widen (k := 0) (n := 0) (Nat.le_of_ble_eq_true rfl) (Nat.le_of_ble_eq_true rfl) ?_
  have hP9 := hP.sub (ws' := [(z 0, .inr (7, [.ref (z 1), .ref (z 3), .int (nI nd), .int (nI nsg)])), (z 1, .inr (5, [.ref (z 2)])), (z 2, .inl (dA 0, 30, .inl (upd tS d 114))), (z 3, .inr (5, [.ref (z 4)])), (z 4, .inl (dA 0, 30, .inl tG))]) [0, 3, 4, 1, 2] rfl
  have hD9 := hD.sub (ws' := [(z 0, .inr (7, [.ref (z 1), .ref (z 3), .int (nI nd), .int (nI nsg)])), (z 1, .inr (5, [.ref (z 2)])), (z 2, .inl (dA 0, 30, .inl (upd tS d 114))), (z 3, .inr (5, [.ref (z 4)])), (z 4, .inl (dA 0, 30, .inl tG))]) [0, 3, 4, 1, 2] (by decide) rfl
  exact W.vret hx hb hr (fun t ht hW => ⟨⟨(), rfl, trivial, ⟨by rw [ht]; exact hP9, hD9⟩⟩, hS.F ht⟩) hS.2.2 dX4_takeOut_10
