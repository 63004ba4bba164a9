/-! CONTRACTS, p1 -/
theorem q115 : (.classLink RX8 57 "java/lang/IllegalArgumentException" : Cond) ∈ WA := WA_of (tb_2 4 rfl) rfl
theorem q116 : (.initialized "java/lang/IllegalArgumentException" : Cond) ∈ WA := WA_of (tb_1 13 rfl) rfl
theorem q117 : (.classLink RX8 166 "java/lang/IndexOutOfBoundsException" : Cond) ∈ WA := WA_of (tb_2 210 rfl) rfl
theorem q118 : (.initialized "java/lang/IndexOutOfBoundsException" : Cond) ∈ WA := WA_of (tb_1 19 rfl) rfl
theorem q119 : (.selects RJx4a65c yJx4a65c_size_8abf5 yJx4a65c_size_8abf5 : Cond) ∈ WA := WA_of (tb_1 174 rfl) rfl
theorem q120 : (.code yJx4a65c_size_8abf5 cJx4a65c_size_8abf5 1 (some .int) : Cond) ∈ WA := WA_of (tb_1 175 rfl) rfl
theorem q121 : (.methodLink RX8 64 yJx4a65c_size_8abf5 : Cond) ∈ WA := WA_of (tb_1 172 rfl) rfl
theorem q122 : (.instanceMethod yJx4a65c_size_8abf5 : Cond) ∈ WA := WA_of (tb_1 173 rfl) rfl
theorem q123 : (.selects RX8 yX8_checkDocument yX8_checkDocument : Cond) ∈ WA := WA_of (sb_1 4 rfl) rfl
theorem q124 : (.code yX8_checkDocument cX8_checkDocument 2 none : Cond) ∈ WA := WA_of (tb_2 209 rfl) rfl
theorem q125 : (.methodLink RX8 86 yX8_checkDocument : Cond) ∈ WA := WA_of (tb_2 206 rfl) rfl
theorem q126 : (.instanceMethod yX8_checkDocument : Cond) ∈ WA := WA_of (tb_2 208 rfl) rfl
theorem q127 : (.selects RX8 yX8_slotOf yX8_slotOf : Cond) ∈ WA := WA_of (sb_1 9 rfl) rfl
theorem q128 : (.code yX8_slotOf cX8_slotOf 3 (some .int) : Cond) ∈ WA := WA_of (tb_4 9 rfl) rfl
theorem q129 : (.methodLink RX8 209 yX8_slotOf : Cond) ∈ WA := WA_of (tb_4 6 rfl) rfl
theorem q130 : (.instanceMethod yX8_slotOf : Cond) ∈ WA := WA_of (tb_4 8 rfl) rfl
theorem q131 : (.selects RX8 yX8_viewNumbered yX8_viewNumbered : Cond) ∈ WA := WA_of (sb_1 11 rfl) rfl
theorem q132 : (.code yX8_viewNumbered cX8_viewNumbered 3 (some (.object "TallowIndex$View")) : Cond) ∈ WA := WA_of (tb_4 30 rfl) rfl
theorem q133 : (.methodLink RX8 217 yX8_viewNumbered : Cond) ∈ WA := WA_of (tb_4 27 rfl) rfl
theorem q134 : (.instanceMethod yX8_viewNumbered : Cond) ∈ WA := WA_of (tb_4 29 rfl) rfl
theorem q135 : (.fieldLink RX4 23 "TallowIndex$Shelf" "documentCount" "I" : Cond) ∈ WA := WA_of (tb_1 83 rfl) rfl
theorem q136 : (.fieldLink RX4 39 "TallowIndex$Shelf" "segmentCount" "I" : Cond) ∈ WA := WA_of (tb_1 84 rfl) rfl
theorem hat0_RX8_61 : ∀ w ∈ (vx_atS RX8 61 "java/lang/IllegalArgumentException" ["java/lang/RuntimeException", "java/lang/Exception"]).filter goodWord, w ∈ lw_tbl := by decide +kernel
theorem hat_RX8_61 {args : Array Value} {s : State} (hts : ∀ w ∈ WA, w.before args s = true) (hz : ZS s) : ∀ w ∈ vx_atS RX8 61 "java/lang/IllegalArgumentException" ["java/lang/RuntimeException", "java/lang/Exception"], w.before args s = true := vx_hat (L := vx_atS RX8 61 "java/lang/IllegalArgumentException" ["java/lang/RuntimeException", "java/lang/Exception"]) (B := [.castable "java/lang/IllegalArgumentException" "java/lang/IllegalArgumentException", .declares ⟨"java/lang/RuntimeException", "<init>", "(Ljava/lang/String;)V"⟩, .declares ⟨"java/lang/Exception", "<init>", "(Ljava/lang/String;)V"⟩, .declares ⟨"java/lang/Throwable", "<init>", "(Ljava/lang/String;)V"⟩]) (fun w hw => hts w (WA_of (hat0_RX8_61 w hw) (List.mem_filter.mp hw).2)) (by decide +kernel) (vx_c (va_Nw.use rfl (hz.1 _ (List.mem_of_getElem? (i := 0) rfl))) (vx_c (va_Nw.use rfl (hz.2.1 _ (List.mem_of_getElem? (i := 1) rfl))) (vx_c (va_Nw.use rfl (hz.2.1 _ (List.mem_of_getElem? (i := 3) rfl))) (vx_c (va_Nw.use rfl (hz.2.1 _ (List.mem_of_getElem? (i := 5) rfl))) (vx_n)))))
theorem hgd_RX8_61_57 : ∀ w ∈ Cond.classLink RX8 57 "java/lang/IllegalArgumentException" :: Cond.initialized "java/lang/IllegalArgumentException" :: vx_atS RX8 61 "java/lang/IllegalArgumentException" ["java/lang/RuntimeException", "java/lang/Exception"], vx_ot w = true := by decide +kernel
theorem hat0_RX8_170 : ∀ w ∈ (vx_atS RX8 170 "java/lang/IndexOutOfBoundsException" ["java/lang/RuntimeException", "java/lang/Exception"]).filter goodWord, w ∈ lw_tbl := by decide +kernel
theorem hat_RX8_170 {args : Array Value} {s : State} (hts : ∀ w ∈ WA, w.before args s = true) (hz : ZS s) : ∀ w ∈ vx_atS RX8 170 "java/lang/IndexOutOfBoundsException" ["java/lang/RuntimeException", "java/lang/Exception"], w.before args s = true := vx_hat (L := vx_atS RX8 170 "java/lang/IndexOutOfBoundsException" ["java/lang/RuntimeException", "java/lang/Exception"]) (B := [.castable "java/lang/IndexOutOfBoundsException" "java/lang/IndexOutOfBoundsException", .declares ⟨"java/lang/RuntimeException", "<init>", "(Ljava/lang/String;)V"⟩, .declares ⟨"java/lang/Exception", "<init>", "(Ljava/lang/String;)V"⟩, .declares ⟨"java/lang/Throwable", "<init>", "(Ljava/lang/String;)V"⟩]) (fun w hw => hts w (WA_of (hat0_RX8_170 w hw) (List.mem_filter.mp hw).2)) (by decide +kernel) (vx_c (va_Nw.use rfl (hz.1 _ (List.mem_of_getElem? (i := 3) rfl))) (vx_c (va_Nw.use rfl (hz.2.1 _ (List.mem_of_getElem? (i := 1) rfl))) (vx_c (va_Nw.use rfl (hz.2.1 _ (List.mem_of_getElem? (i := 3) rfl))) (vx_c (va_Nw.use rfl (hz.2.1 _ (List.mem_of_getElem? (i := 5) rfl))) (vx_n)))))
theorem hgd_RX8_170_166 : ∀ w ∈ Cond.classLink RX8 166 "java/lang/IndexOutOfBoundsException" :: Cond.initialized "java/lang/IndexOutOfBoundsException" :: vx_atS RX8 170 "java/lang/IndexOutOfBoundsException" ["java/lang/RuntimeException", "java/lang/Exception"], vx_ot w = true := by decide +kernel
/-! a call that answers a reference or throws; checks of a fresh object -/
section VXR
variable {p : Program} {l : Launch} {e : Env} {R : Room} {s : State} {m : MethodId} {args : Array Value} {below : List Frame} {meth : Method} {c : Code} {H : Heap} {locs : List Loc} {cells slots : Nat} {Q : State → Prop}
variable {mc ms : Nat} {free : Addr → Prop} {A0 A1 : Nat → Prop} {H0 : Heap} {a : Array Value} {pc : Nat} {ls : Array Slot} {st0 rest : List Value}
theorem vx_callr {S SX : Type} {post : S → Prop} {px : SX → Prop} {B : S → Nat → State → Prop} {BX : String → SX → State → Prop} {AX : Nat → Prop} (hr : vx_Run p l e R s m args below meth c H locs cells slots mc ms (F0 m pc ls st0) rest (va_Qr post B A1 a) (vx_X px BX AX) free) (hS : va_S A0 H0 H locs) (hA : ∀ q, q < H.size → A1 q → A0 q) (hf : ∀ q, free q → A0 q) (hAX : ∀ q, q < H.size → AX q → A0 q)
    (kx : ∀ (E : String) (ce : Cell) (q9 : Addr) (u : SX) (t : State) (H1 : Heap) (locs1 : List Loc), t.heap = H1 → s.vm.Alike t.vm → px u → BX E u t → H.size ≤ H1.size → (∀ q : Nat, q < H.size → ¬ AX q → H1[q]? = H[q]?) → va_S A0 H0 H1 locs1 → H1[q9]? = some ce → ce.vm = .none → s.vm.findClass E = some ce.cls → vx_W p l e R s m args below meth c H1 locs1 (cells + mc) (slots + ms) Q (F0 m pc ls rest) q9)
    (kk : ∀ (u : S) (ra : Nat) (t : State) (H1 : Heap) (locs1 : List Loc), t.heap = H1 → s.vm.Alike t.vm → post u → B u ra t → H.size ≤ H1.size → (∀ q : Nat, q < H.size → ¬ A1 q → H1[q]? = H[q]?) → va_S A0 H0 H1 locs1 → W p l e R s m args below meth c H1 locs1 (cells + mc) (slots + ms) Q (F0 m (pc + 3) ls (.ref ra :: rest))) : W p l e R s m args below meth c H locs cells slots Q (F0 m pc ls st0) := by
  intro T hT X
  rcases hr T hT X with ⟨v, st₀, t, T', L, h0, X', hL, e1, e2, ⟨⟨u, ra, hv, hp, hb⟩, hF⟩, st⟩ | ⟨q, st₀, t, T', L, E, ce, h0, X', hL, e1, e2, ⟨u, hp, hb, hF⟩, hce, hcv, hcl, st⟩
  · cases hv
    obtain ⟨k1, k2, k3⟩ := vx_keep h0 e1 hS hA hf hL hF
    obtain ⟨t2, a1, b1⟩ := kk u ra t T'.heap (locs ++ L) e1.symm (by rw [← e2]; exact X'.warmed.alike) hp hb k1 k2 k3 T' rfl X'
    exact ⟨t2, st t2 a1, b1⟩
  · obtain ⟨k1, k2, k3⟩ := vx_keep h0 e1 hS hAX hf hL hF
    obtain ⟨t2, a1, b1⟩ := kx E ce q u t T'.heap (locs ++ L) e1.symm (by rw [← e2]; exact X'.warmed.alike) hp hb k1 k2 k3 (by rw [e1]; exact hce) hcv hcl T' rfl X'
    exact ⟨t2, st.trans a1, b1⟩
end VXR
set_option maxHeartbeats 4000000 in
set_option maxRecDepth 100000 in
theorem c_checkTag (l : Launch) (hlt : l.stackTraces = false) (D : va_G) (dA : Nat → ClassId) (E : Nat) (p0 : Int32) (sz : Nat)  : vx_Met l yX8_checkTag (wq (.code yX8_checkTag cX8_checkTag 1 none)) { frames := 6, cells := 1, slots := 6, locals := 82 } (va_Pc [.int p0] (PcB D dA E [] sz)) (va_Qv (fun (u : Unit) => inR 0 5 p0 = true) (fun u t => True) (va_A [] sz)) (vx_X (fun (k : Nat) => k = 1 ∧ inR 0 5 p0 = false) (fun E9 k t => E9 = xN k) (va_A [] sz)) 1 6 (va_A [] sz) := by
  refine mx_of (Qc := fun A => va_Qv (fun (u : Unit) => inR 0 5 p0 = true) (fun u t => True) A) (XC := fun A => vx_X (fun (k : Nat) => k = 1 ∧ inR 0 5 p0 = false) (fun E9 k t => E9 = xN k) A) RX8 rfl (by decide) (Nat.le_of_ble_eq_true rfl) ?_
  intro p e s m args below meth c hae hx hb hr hts hown hlocks hml hnm htb hP hK A hAe hD hZ hS hA ls hl
  have hl : lv_has ls 1 [(0, .int p0)] := hl
  refine lv_iload_n hx hb dX8_checkTag_0 rfl (lv_at hl 0 rfl) ?_
  refine lv_if_lt (tgt := 10) hx hb dX8_checkTag_1 (by decide) (fun c1 => ?_) (fun c1 => ?_)
  · obtain ⟨sa, hstr2⟩ := hZ.1.2.2.2.2.1 ("TallowIndex", 313, "no such tag") (List.mem_of_getElem? (i := 2) rfl)
    exact vx_throwSW (cls := "java/lang/IllegalArgumentException") (names := ["java/lang/RuntimeException", "java/lang/Exception"]) (own := RX8) hx hb hlt hown hFit_1 hFitN (hts _ q115) (hts _ q116) hstr2 (hat_RX8_61 hts hZ.1) hgd_RX8_61_57 hZ.2.1 hZ.2.2.1 hS (hl.1.trans hml.symm) dX8_checkTag_10 dX8_checkTag_13 dX8_checkTag_14 dX8_checkTag_17 dX8_checkTag_20 (fun x h => (htb x h).elim) (Nat.le_of_ble_eq_true rfl) (Nat.le_of_ble_eq_true rfl) (Nat.le_of_ble_eq_true rfl) (Nat.le_of_ble_eq_true rfl) hlocks (fun t hal hz hk => ⟨1, ⟨rfl, (by simp [inR, c1])⟩, rfl, sF_t hS hz hk⟩) hS.2.2 (Nat.le_of_ble_eq_true rfl) (Nat.le_of_ble_eq_true rfl)
  · refine lv_iload_n hx hb dX8_checkTag_4 rfl (lv_at hl 0 rfl) ?_
    refine lv_bipush (v := 6) hx hb dX8_checkTag_5 (by decide) ?_
    refine lv_icmp_lt (tgt := 21) hx hb dX8_checkTag_7 (by decide) (fun c3 => ?_) (fun c3 => ?_)
    · refine W.widen (k := 1) (n := 6) (Nat.le_of_ble_eq_true rfl) (Nat.le_of_ble_eq_true rfl) ?_
      refine vx_ret ?_
      exact W.vret hx hb hr (fun t ht hW => ⟨⟨(), rfl, (by simp [inR, c1, (j6 _).mp c3]), trivial⟩, hS.F ht⟩) hS.2.2 dX8_checkTag_21
    · obtain ⟨sa, hstr4⟩ := hZ.1.2.2.2.2.1 ("TallowIndex", 313, "no such tag") (List.mem_of_getElem? (i := 2) rfl)
      exact vx_throwSW (cls := "java/lang/IllegalArgumentException") (names := ["java/lang/RuntimeException", "java/lang/Exception"]) (own := RX8) hx hb hlt hown hFit_1 hFitN (hts _ q115) (hts _ q116) hstr4 (hat_RX8_61 hts hZ.1) hgd_RX8_61_57 hZ.2.1 hZ.2.2.1 hS (hl.1.trans hml.symm) dX8_checkTag_10 dX8_checkTag_13 dX8_checkTag_14 dX8_checkTag_17 dX8_checkTag_20 (fun x h => (htb x h).elim) (Nat.le_of_ble_eq_true rfl) (Nat.le_of_ble_eq_true rfl) (Nat.le_of_ble_eq_true rfl) (Nat.le_of_ble_eq_true rfl) hlocks (fun t hal hz hk => ⟨1, ⟨rfl, (by simp [inR, c1, (j6n _).mp c3])⟩, rfl, sF_t hS hz hk⟩) hS.2.2 (Nat.le_of_ble_eq_true rfl) (Nat.le_of_ble_eq_true rfl)

set_option maxHeartbeats 4000000 in
set_option maxRecDepth 100000 in
theorem c_checkDocument (l : Launch) (hlt : l.stackTraces = false) (D : va_G) (dA : Nat → ClassId) (E : Nat) (a : Nat → Nat) (p0 : Int32) (sz : Nat)  : vx_Met l yX8_checkDocument (wq (.code yX8_checkDocument cX8_checkDocument 2 none)) { frames := 6, cells := 1, slots := 6, locals := 82 } (va_Pc [.ref (a 0), .int p0] (PcB D dA E [(a 0, .inr (11, [.ref (a 1), .ref (a 2), .ref (a 3), .ref (a 4), .ref (a 5), .ref (a 10), .ref (a 15), .ref (a 17), .null, .int 0, .int 0, .int 0])), (a 2, .inr (2, [.int 0, .ref E, .int 0]))] sz)) (va_Qv (fun (u : Unit) => False) (fun u t => True) (va_A [(a 0, .inr (11, [.ref (a 1), .ref (a 2), .ref (a 3), .ref (a 4), .ref (a 5), .ref (a 10), .ref (a 15), .ref (a 17), .null, .int 0, .int 0, .int 0])), (a 2, .inr (2, [.int 0, .ref E, .int 0]))] sz)) (vx_X (fun (k : Nat) => k = 2) (fun E9 k t => E9 = xN k) (va_A [(a 0, .inr (11, [.ref (a 1), .ref (a 2), .ref (a 3), .ref (a 4), .ref (a 5), .ref (a 10), .ref (a 15), .ref (a 17), .null, .int 0, .int 0, .int 0])), (a 2, .inr (2, [.int 0, .ref E, .int 0]))] sz)) 1 6 (va_A [(a 0, .inr (11, [.ref (a 1), .ref (a 2), .ref (a 3), .ref (a 4), .ref (a 5), .ref (a 10), .ref (a 15), .ref (a 17), .null, .int 0, .int 0, .int 0])), (a 2, .inr (2, [.int 0, .ref E, .int 0]))] sz) := by
  refine mx_of (Qc := fun A => va_Qv (fun (u : Unit) => False) (fun u t => True) A) (XC := fun A => vx_X (fun (k : Nat) => k = 2) (fun E9 k t => E9 = xN k) A) RX8 rfl (by decide) (Nat.le_of_ble_eq_true rfl) ?_
  intro p e s m args below meth c hae hx hb hr hts hown hlocks hml hnm htb hP hK A hAe hD hZ hS hA ls hl
  have hl : lv_has ls 2 [(0, .ref (a 0)), (1, .int p0)] := hl
  refine lv_iload_n hx hb dX8_checkDocument_0 rfl (lv_at hl 1 rfl) ?_
  refine lv_if_lt (tgt := 15) hx hb dX8_checkDocument_1 (by decide) (fun c1 => ?_) (fun c1 => ?_)
  · obtain ⟨sa, hstr2⟩ := hZ.1.2.2.2.2.1 ("TallowIndex", 315, "no such document") (List.mem_of_getElem? (i := 3) rfl)
    exact vx_throwSW (cls := "java/lang/IndexOutOfBoundsException") (names := ["java/lang/RuntimeException", "java/lang/Exception"]) (own := RX8) hx hb hlt hown hFit_2 hFitN (hts _ q117) (hts _ q118) hstr2 (hat_RX8_170 hts hZ.1) hgd_RX8_170_166 hZ.2.1 hZ.2.2.1 hS (hl.1.trans hml.symm) dX8_checkDocument_15 dX8_checkDocument_18 dX8_checkDocument_19 dX8_checkDocument_22 dX8_checkDocument_25 (fun x h => (htb x h).elim) (Nat.le_of_ble_eq_true rfl) (Nat.le_of_ble_eq_true rfl) (Nat.le_of_ble_eq_true rfl) (Nat.le_of_ble_eq_true rfl) hlocks (fun t hal hz hk => ⟨2, rfl, rfl, sF_t hS hz hk⟩) hS.2.2 (Nat.le_of_ble_eq_true rfl) (Nat.le_of_ble_eq_true rfl)
  · refine lv_iload_n hx hb dX8_checkDocument_4 rfl (lv_at hl 1 rfl) ?_
    refine lv_aload_n hx hb dX8_checkDocument_5 rfl (lv_at hl 0 rfl) ?_
    refine va_get (D := D) (ci := 11) (v := .ref (a 2)) (C := RX8) (T := TX8) (N := 12) hx hb hts inAX8 hown hK hP 0 rfl rfl 1 (by decide) (hts _ q93) (fun _ h9 => h9) rfl dX8_checkDocument_6 ?_
    have hPc := hP.sub (ws' := [(a 2, .inr (2, [.int 0, .ref E, .int 0]))]) [1] rfl
    have hDc := hD.sub (ws' := [(a 2, .inr (2, [.int 0, .ref E, .int 0]))]) [1] (by decide) rfl
    have hFc := va_free (wc := [(a 2, .inr (2, [.int 0, .ref E, .int 0]))]) hD hS hA [1] rfl
    refine va_calli (va_runV (As := []) (rest := [.int p0]) ⟨hx, hb, hml, hown, hts⟩ (c_size l D dA E (a 2) 0 (.ref E) 0 s.heap.size ) (cwV 0 hts (ga_V q121 q122 q119 q12 q120) rfl rfl rfl (by decide +kernel) ⟨(Nat.le_of_ble_eq_true rfl), (Nat.le_of_ble_eq_true rfl)⟩) ⟨pb_blind, va_recv hK hPc (ci := 2) (q0 := 0) rfl rfl, pb_pre hK hPc hDc hZ hS hFc _⟩ rfl rfl hl.1 rfl (lv_room (Nat.le_of_ble_eq_true rfl)) dX8_checkDocument_9 ⟨(Nat.le_of_ble_eq_true rfl), (Nat.le_of_ble_eq_true rfl)⟩) hS (fun q _ h => hFc q h) hFc (fun r u t H1 locs ht hvm hw hB hz1 hk1 hS => ?_)
    refine W.widen (k := 0) (n := 0) (Nat.le_of_ble_eq_true rfl) (Nat.le_of_ble_eq_true rfl) ?_
    obtain ⟨r3, rfl⟩ : ∃ z, z = r := ⟨_, rfl⟩
    obtain ⟨u4, rfl⟩ : ∃ z, z = u := ⟨_, rfl⟩
    have hw5 := hw
    clear hw
    obtain ⟨hP1, hD1⟩ := hB
    rw [ht] at hP1
    obtain ⟨hP, hD⟩ := va_join (wr := [(a 0, .inr (11, [.ref (a 1), .ref (a 2), .ref (a 3), .ref (a 4), .ref (a 5), .ref (a 10), .ref (a 15), .ref (a 17), .null, .int 0, .int 0, .int 0]))]) (w1 := [(a 2, .inr (2, [.int 0, .ref E, .int 0]))]) hP hD [1] [0] rfl rfl (by decide) (by decide) hk1 hFc hP1 hD1
    generalize H1 = H at hP hS ⊢
    have hP : va_P D vwCl [(a 0, .inr (11, [.ref (a 1), .ref (a 2), .ref (a 3), .ref (a 4), .ref (a 5), .ref (a 10), .ref (a 15), .ref (a 17), .null, .int 0, .int 0, .int 0])), (a 2, .inr (2, [.int 0, .ref E, .int 0]))] H := hP
    have hD : va_D A [(a 0, .inr (11, [.ref (a 1), .ref (a 2), .ref (a 3), .ref (a 4), .ref (a 5), .ref (a 10), .ref (a 15), .ref (a 17), .null, .int 0, .int 0, .int 0])), (a 2, .inr (2, [.int 0, .ref E, .int 0]))] := hD
    obtain rfl : r3 = 0 := hw5
    refine lv_icmp_lt (tgt := 26) hx hb dX8_checkDocument_12 (by decide) (fun c6 => absurd c6 c1) (fun _ => ?_)
    obtain ⟨sa, hstr7⟩ := hZ.1.2.2.2.2.1 ("TallowIndex", 315, "no such document") (List.mem_of_getElem? (i := 3) rfl)
    exact vx_throwSW (cls := "java/lang/IndexOutOfBoundsException") (names := ["java/lang/RuntimeException", "java/lang/Exception"]) (own := RX8) hx hb hlt hown hFit_2 hFitN (hts _ q117) (hts _ q118) hstr7 (hat_RX8_170 hts hZ.1) hgd_RX8_170_166 hZ.2.1 hZ.2.2.1 hS (hl.1.trans hml.symm) dX8_checkDocument_15 dX8_checkDocument_18 dX8_checkDocument_19 dX8_checkDocument_22 dX8_checkDocument_25 (fun x h => (htb x h).elim) (Nat.le_of_ble_eq_true rfl) (Nat.le_of_ble_eq_true rfl) (Nat.le_of_ble_eq_true rfl) (Nat.le_of_ble_eq_true rfl) hlocks (fun t hal hz hk => ⟨2, rfl, rfl, sF_t hS hz hk⟩) hS.2.2 (Nat.le_of_ble_eq_true rfl) (Nat.le_of_ble_eq_true rfl)

set_option maxHeartbeats 4000000 in
set_option maxRecDepth 100000 in
theorem c_checkQuery (l : Launch) (hlt : l.stackTraces = false) (D : va_G) (dA : Nat → ClassId) (E : Nat) (a : Nat → Nat) (p0 : Int32) (sz : Nat)  : vx_Met l yX8_checkQuery (wq (.code yX8_checkQuery cX8_checkQuery 2 none)) { frames := 6, cells := 1, slots := 6, locals := 82 } (va_Pc [.ref (a 0), .int p0] (PcB D dA E [(a 0, .inr (11, [.ref (a 1), .ref (a 2), .ref (a 3), .ref (a 4), .ref (a 5), .ref (a 10), .ref (a 15), .ref (a 17), .null, .int 0, .int 0, .int 0])), (a 4, .inr (2, [.int 0, .ref E, .int 0]))] sz)) (va_Qv (fun (u : Unit) => False) (fun u t => True) (va_A [(a 0, .inr (11, [.ref (a 1), .ref (a 2), .ref (a 3), .ref (a 4), .ref (a 5), .ref (a 10), .ref (a 15), .ref (a 17), .null, .int 0, .int 0, .int 0])), (a 4, .inr (2, [.int 0, .ref E, .int 0]))] sz)) (vx_X (fun (k : Nat) => k = 2) (fun E9 k t => E9 = xN k) (va_A [(a 0, .inr (11, [.ref (a 1), .ref (a 2), .ref (a 3), .ref (a 4), .ref (a 5), .ref (a 10), .ref (a 15), .ref (a 17), .null, .int 0, .int 0, .int 0])), (a 4, .inr (2, [.int 0, .ref E, .int 0]))] sz)) 1 6 (va_A [(a 0, .inr (11, [.ref (a 1), .ref (a 2), .ref (a 3), .ref (a 4), .ref (a 5), .ref (a 10), .ref (a 15), .ref (a 17), .null, .int 0, .int 0, .int 0])), (a 4, .inr (2, [.int 0, .ref E, .int 0]))] sz) := by
  refine mx_of (Qc := fun A => va_Qv (fun (u : Unit) => False) (fun u t => True) A) (XC := fun A => vx_X (fun (k : Nat) => k = 2) (fun E9 k t => E9 = xN k) A) RX8 rfl (by decide) (Nat.le_of_ble_eq_true rfl) ?_
  intro p e s m args below meth c hae hx hb hr hts hown hlocks hml hnm htb hP hK A hAe hD hZ hS hA ls hl
  have hl : lv_has ls 2 [(0, .ref (a 0)), (1, .int p0)] := hl
  refine lv_iload_n hx hb dX8_checkQuery_0 rfl (lv_at hl 1 rfl) ?_
  refine lv_if_lt (tgt := 15) hx hb dX8_checkQuery_1 (by decide) (fun c1 => ?_) (fun c1 => ?_)
  · obtain ⟨sa, hstr2⟩ := hZ.1.2.2.2.2.1 ("TallowIndex", 317, "no such query") (List.mem_of_getElem? (i := 19) rfl)
    exact vx_throwSW (cls := "java/lang/IndexOutOfBoundsException") (names := ["java/lang/RuntimeException", "java/lang/Exception"]) (own := RX8) hx hb hlt hown hFit_2 hFitN (hts _ q117) (hts _ q118) hstr2 (hat_RX8_170 hts hZ.1) hgd_RX8_170_166 hZ.2.1 hZ.2.2.1 hS (hl.1.trans hml.symm) dX8_checkQuery_15 dX8_checkQuery_18 dX8_checkQuery_19 dX8_checkQuery_22 dX8_checkQuery_25 (fun x h => (htb x h).elim) (Nat.le_of_ble_eq_true rfl) (Nat.le_of_ble_eq_true rfl) (Nat.le_of_ble_eq_true rfl) (Nat.le_of_ble_eq_true rfl) hlocks (fun t hal hz hk => ⟨2, rfl, rfl, sF_t hS hz hk⟩) hS.2.2 (Nat.le_of_ble_eq_true rfl) (Nat.le_of_ble_eq_true rfl)
  · refine lv_iload_n hx hb dX8_checkQuery_4 rfl (lv_at hl 1 rfl) ?_
    refine lv_aload_n hx hb dX8_checkQuery_5 rfl (lv_at hl 0 rfl) ?_
    refine va_get (D := D) (ci := 11) (v := .ref (a 4)) (C := RX8) (T := TX8) (N := 12) hx hb hts inAX8 hown hK hP 0 rfl rfl 3 (by decide) (hts _ q95) (fun _ h9 => h9) rfl dX8_checkQuery_6 ?_
    have hPc := hP.sub (ws' := [(a 4, .inr (2, [.int 0, .ref E, .int 0]))]) [1] rfl
    have hDc := hD.sub (ws' := [(a 4, .inr (2, [.int 0, .ref E, .int 0]))]) [1] (by decide) rfl
    have hFc := va_free (wc := [(a 4, .inr (2, [.int 0, .ref E, .int 0]))]) hD hS hA [1] rfl
    refine va_calli (va_runV (As := []) (rest := [.int p0]) ⟨hx, hb, hml, hown, hts⟩ (c_size l D dA E (a 4) 0 (.ref E) 0 s.heap.size ) (cwV 0 hts (ga_V q121 q122 q119 q12 q120) rfl rfl rfl (by decide +kernel) ⟨(Nat.le_of_ble_eq_true rfl), (Nat.le_of_ble_eq_true rfl)⟩) ⟨pb_blind, va_recv hK hPc (ci := 2) (q0 := 0) rfl rfl, pb_pre hK hPc hDc hZ hS hFc _⟩ rfl rfl hl.1 rfl (lv_room (Nat.le_of_ble_eq_true rfl)) dX8_checkQuery_9 ⟨(Nat.le_of_ble_eq_true rfl), (Nat.le_of_ble_eq_true rfl)⟩) hS (fun q _ h => hFc q h) hFc (fun r u t H1 locs ht hvm hw hB hz1 hk1 hS => ?_)
    refine W.widen (k := 0) (n := 0) (Nat.le_of_ble_eq_true rfl) (Nat.le_of_ble_eq_true rfl) ?_
    obtain ⟨r3, rfl⟩ : ∃ z, z = r := ⟨_, rfl⟩
    obtain ⟨u4, rfl⟩ : ∃ z, z = u := ⟨_, rfl⟩
    have hw5 := hw
    clear hw
    obtain ⟨hP1, hD1⟩ := hB
    rw [ht] at hP1
    obtain ⟨hP, hD⟩ := va_join (wr := [(a 0, .inr (11, [.ref (a 1), .ref (a 2), .ref (a 3), .ref (a 4), .ref (a 5), .ref (a 10), .ref (a 15), .ref (a 17), .null, .int 0, .int 0, .int 0]))]) (w1 := [(a 4, .inr (2, [.int 0, .ref E, .int 0]))]) hP hD [1] [0] rfl rfl (by decide) (by decide) hk1 hFc hP1 hD1
    generalize H1 = H at hP hS ⊢
    have hP : va_P D vwCl [(a 0, .inr (11, [.ref (a 1), .ref (a 2), .ref (a 3), .ref (a 4), .ref (a 5), .ref (a 10), .ref (a 15), .ref (a 17), .null, .int 0, .int 0, .int 0])), (a 4, .inr (2, [.int 0, .ref E, .int 0]))] H := hP
    have hD : va_D A [(a 0, .inr (11, [.ref (a 1), .ref (a 2), .ref (a 3), .ref (a 4), .ref (a 5), .ref (a 10), .ref (a 15), .ref (a 17), .null, .int 0, .int 0, .int 0])), (a 4, .inr (2, [.int 0, .ref E, .int 0]))] := hD
    obtain rfl : r3 = 0 := hw5
    refine lv_icmp_lt (tgt := 26) hx hb dX8_checkQuery_12 (by decide) (fun c6 => absurd c6 c1) (fun _ => ?_)
    obtain ⟨sa, hstr7⟩ := hZ.1.2.2.2.2.1 ("TallowIndex", 317, "no such query") (List.mem_of_getElem? (i := 19) rfl)
    exact vx_throwSW (cls := "java/lang/IndexOutOfBoundsException") (names := ["java/lang/RuntimeException", "java/lang/Exception"]) (own := RX8) hx hb hlt hown hFit_2 hFitN (hts _ q117) (hts _ q118) hstr7 (hat_RX8_170 hts hZ.1) hgd_RX8_170_166 hZ.2.1 hZ.2.2.1 hS (hl.1.trans hml.symm) dX8_checkQuery_15 dX8_checkQuery_18 dX8_checkQuery_19 dX8_checkQuery_22 dX8_checkQuery_25 (fun x h => (htb x h).elim) (Nat.le_of_ble_eq_true rfl) (Nat.le_of_ble_eq_true rfl) (Nat.le_of_ble_eq_true rfl) (Nat.le_of_ble_eq_true rfl) hlocks (fun t hal hz hk => ⟨2, rfl, rfl, sF_t hS hz hk⟩) hS.2.2 (Nat.le_of_ble_eq_true rfl) (Nat.le_of_ble_eq_true rfl)

set_option maxHeartbeats 4000000 in
set_option maxRecDepth 100000 in
theorem c_documentNumbered (l : Launch) (hlt : l.stackTraces = false) (D : va_G) (dA : Nat → ClassId) (E : Nat) (a : Nat → Nat) (p0 : Int32) (sz : Nat)  : vx_Met l yX8_documentNumbered (wq (.code yX8_documentNumbered cX8_documentNumbered 2 (some (.object "TallowIndex$Document")))) { frames := 7, cells := 1, slots := 6, locals := 103 } (va_Pc [.ref (a 0), .int p0] (PcB D dA E [(a 0, .inr (11, [.ref (a 1), .ref (a 2), .ref (a 3), .ref (a 4), .ref (a 5), .ref (a 10), .ref (a 15), .ref (a 17), .null, .int 0, .int 0, .int 0])), (a 2, .inr (2, [.int 0, .ref E, .int 0]))] sz)) (va_Qr (fun (u : Unit) => False) (fun u ra t => True) (va_A [(a 0, .inr (11, [.ref (a 1), .ref (a 2), .ref (a 3), .ref (a 4), .ref (a 5), .ref (a 10), .ref (a 15), .ref (a 17), .null, .int 0, .int 0, .int 0])), (a 2, .inr (2, [.int 0, .ref E, .int 0]))] sz)) (vx_X (fun (k : Nat) => k = 2) (fun E9 k t => E9 = xN k) (va_A [(a 0, .inr (11, [.ref (a 1), .ref (a 2), .ref (a 3), .ref (a 4), .ref (a 5), .ref (a 10), .ref (a 15), .ref (a 17), .null, .int 0, .int 0, .int 0])), (a 2, .inr (2, [.int 0, .ref E, .int 0]))] sz)) 1 6 (va_A [(a 0, .inr (11, [.ref (a 1), .ref (a 2), .ref (a 3), .ref (a 4), .ref (a 5), .ref (a 10), .ref (a 15), .ref (a 17), .null, .int 0, .int 0, .int 0])), (a 2, .inr (2, [.int 0, .ref E, .int 0]))] sz) := by
  refine mx_of (Qc := fun A => va_Qr (fun (u : Unit) => False) (fun u ra t => True) A) (XC := fun A => vx_X (fun (k : Nat) => k = 2) (fun E9 k t => E9 = xN k) A) RX8 rfl (by decide) (Nat.le_of_ble_eq_true rfl) ?_
  intro p e s m args below meth c hae hx hb hr hts hown hlocks hml hnm htb hP hK A hAe hD hZ hS hA ls hl
  have hl : lv_has ls 2 [(0, .ref (a 0)), (1, .int p0)] := hl
  refine lv_aload_n hx hb dX8_documentNumbered_0 rfl (lv_at hl 0 rfl) ?_
  refine lv_iload_n hx hb dX8_documentNumbered_1 rfl (lv_at hl 1 rfl) ?_
  have hPc := hP.sub (ws' := [(a 0, .inr (11, [.ref (a 1), .ref (a 2), .ref (a 3), .ref (a 4), .ref (a 5), .ref (a 10), .ref (a 15), .ref (a 17), .null, .int 0, .int 0, .int 0])), (a 2, .inr (2, [.int 0, .ref E, .int 0]))]) [0, 1] rfl
  have hDc := hD.sub (ws' := [(a 0, .inr (11, [.ref (a 1), .ref (a 2), .ref (a 3), .ref (a 4), .ref (a 5), .ref (a 10), .ref (a 15), .ref (a 17), .null, .int 0, .int 0, .int 0])), (a 2, .inr (2, [.int 0, .ref E, .int 0]))]) [0, 1] (by decide) rfl
  have hFc := va_free (wc := [(a 0, .inr (11, [.ref (a 1), .ref (a 2), .ref (a 3), .ref (a 4), .ref (a 5), .ref (a 10), .ref (a 15), .ref (a 17), .null, .int 0, .int 0, .int 0])), (a 2, .inr (2, [.int 0, .ref E, .int 0]))]) hD hS hA [0, 1] rfl
  refine vx_callv (vx_runV (As := [.int p0]) (rest := []) ⟨hx, hb, hml, hown, hts⟩ (c_checkDocument l hlt D dA E a p0 s.heap.size ) (cwV 1 hts (ga_V q125 q126 q123 q113 q124) rfl rfl rfl (by decide +kernel) ⟨(Nat.le_of_ble_eq_true rfl), (Nat.le_of_ble_eq_true rfl)⟩) ⟨pb_blind, va_recv hK hPc (ci := 11) (q0 := 0) rfl rfl, pb_pre hK hPc hDc hZ hS hFc _⟩ rfl rfl hl.1 rfl (lv_room (Nat.le_of_ble_eq_true rfl)) dX8_documentNumbered_2 ⟨(Nat.le_of_ble_eq_true rfl), (Nat.le_of_ble_eq_true rfl)⟩) hS (fun q _ h => hFc q h) hFc (fun q _ h => hFc q h) (fun E9 ce q9 k t H1 locs ht hvm hpx hBX hz1 hk1 hS hce hcv hcl => ?_) (fun u t H1 locs ht hvm hw hB hz1 hk1 hS => ?_)
  · exact vx_out (fun x h => (htb x h).elim) hlocks hce hcv hcl (fun t1 ht1 hal => ⟨k, hpx, hBX, hS.F ht1⟩) hS.2.2 (Nat.le_of_ble_eq_true rfl) (Nat.le_of_ble_eq_true rfl)
  · exact hw.elim

set_option maxHeartbeats 4000000 in
set_option maxRecDepth 100000 in
theorem c_slotOf (l : Launch) (D : va_G) (dA : Nat → ClassId) (E : Nat) (a : Nat → Nat) (p0 : Int32) (sz : Nat)  : Met l yX8_slotOf (wq (.code yX8_slotOf cX8_slotOf 3 (some .int))) { frames := 1, cells := 0, slots := 0, locals := 20 } (va_Pc [.ref (a 0), .int p0] (PcB D dA E [(a 0, .inr (11, [.ref (a 1), .ref (a 2), .ref (a 3), .ref (a 4), .ref (a 5), .ref (a 10), .ref (a 15), .ref (a 17), .null, .int 0, .int 0, .int 0])), (a 3, .inr (2, [.int 0, .ref E, .int 0]))] sz)) (va_Qi (fun (r : Int32) (u : Unit) => r = -1) (fun u t => va_P D vwCl [(a 0, .inr (11, [.ref (a 1), .ref (a 2), .ref (a 3), .ref (a 4), .ref (a 5), .ref (a 10), .ref (a 15), .ref (a 17), .null, .int 0, .int 0, .int 0])), (a 3, .inr (2, [.int 0, .ref E, .int 0]))] t.heap ∧ va_D (va_A [(a 0, .inr (11, [.ref (a 1), .ref (a 2), .ref (a 3), .ref (a 4), .ref (a 5), .ref (a 10), .ref (a 15), .ref (a 17), .null, .int 0, .int 0, .int 0])), (a 3, .inr (2, [.int 0, .ref E, .int 0]))] sz) [(a 0, .inr (11, [.ref (a 1), .ref (a 2), .ref (a 3), .ref (a 4), .ref (a 5), .ref (a 10), .ref (a 15), .ref (a 17), .null, .int 0, .int 0, .int 0])), (a 3, .inr (2, [.int 0, .ref E, .int 0]))]) (va_A [(a 0, .inr (11, [.ref (a 1), .ref (a 2), .ref (a 3), .ref (a 4), .ref (a 5), .ref (a 10), .ref (a 15), .ref (a 17), .null, .int 0, .int 0, .int 0])), (a 3, .inr (2, [.int 0, .ref E, .int 0]))] sz)) 0 0 (va_A [(a 0, .inr (11, [.ref (a 1), .ref (a 2), .ref (a 3), .ref (a 4), .ref (a 5), .ref (a 10), .ref (a 15), .ref (a 17), .null, .int 0, .int 0, .int 0])), (a 3, .inr (2, [.int 0, .ref E, .int 0]))] sz) := by
  refine mb_of (Qc := fun A => va_Qi (fun (r : Int32) (u : Unit) => r = -1) (fun u t => va_P D vwCl [(a 0, .inr (11, [.ref (a 1), .ref (a 2), .ref (a 3), .ref (a 4), .ref (a 5), .ref (a 10), .ref (a 15), .ref (a 17), .null, .int 0, .int 0, .int 0])), (a 3, .inr (2, [.int 0, .ref E, .int 0]))] t.heap ∧ va_D A [(a 0, .inr (11, [.ref (a 1), .ref (a 2), .ref (a 3), .ref (a 4), .ref (a 5), .ref (a 10), .ref (a 15), .ref (a 17), .null, .int 0, .int 0, .int 0])), (a 3, .inr (2, [.int 0, .ref E, .int 0]))]) A) RX8 rfl (by decide) (Nat.le_of_ble_eq_true rfl) ?_
  intro p e s m args below meth c hae hx hb hr hts hown hlocks hml hnm hP hK A hAe hD hZ hS hA ls hl
  have hl : lv_has ls 3 [(0, .ref (a 0)), (1, .int p0)] := hl
  refine lv_iconst (v := 0) hx hb dX8_slotOf_0 (by decide) ?_
  refine lv_istore_n (lv' := [(2, .int 0), (0, .ref (a 0)), (1, .int p0)]) hx hb dX8_slotOf_1 rfl hl (by decide) rfl (fun ls hl => ?_)
  refine lv_iload_n hx hb dX8_slotOf_2 rfl (lv_at hl 0 rfl) ?_
  refine lv_aload_n hx hb dX8_slotOf_3 rfl (lv_at hl 1 rfl) ?_
  refine va_get (D := D) (ci := 11) (v := .ref (a 3)) (C := RX8) (T := TX8) (N := 12) hx hb hts inAX8 hown hK hP 0 rfl rfl 2 (by decide) (hts _ q94) (fun _ h9 => h9) rfl dX8_slotOf_4 ?_
  have hPc := hP.sub (ws' := [(a 3, .inr (2, [.int 0, .ref E, .int 0]))]) [1] rfl
  have hDc := hD.sub (ws' := [(a 3, .inr (2, [.int 0, .ref E, .int 0]))]) [1] (by decide) rfl
  have hFc := va_free (wc := [(a 3, .inr (2, [.int 0, .ref E, .int 0]))]) hD hS hA [1] rfl
  refine va_calli (va_runV (As := []) (rest := [.int 0]) ⟨hx, hb, hml, hown, hts⟩ (c_size l D dA E (a 3) 0 (.ref E) 0 s.heap.size ) (cwV 0 hts (ga_V q121 q122 q119 q12 q120) rfl rfl rfl (by decide +kernel) ⟨(Nat.le_of_ble_eq_true rfl), (Nat.le_of_ble_eq_true rfl)⟩) ⟨pb_blind, va_recv hK hPc (ci := 2) (q0 := 0) rfl rfl, pb_pre hK hPc hDc hZ hS hFc _⟩ rfl rfl hl.1 rfl (lv_room (Nat.le_of_ble_eq_true rfl)) dX8_slotOf_7 ⟨(Nat.le_of_ble_eq_true rfl), (Nat.le_of_ble_eq_true rfl)⟩) hS (fun q _ h => hFc q h) hFc (fun r u t H1 locs ht hvm hw hB hz1 hk1 hS => ?_)
  refine W.widen (k := 0) (n := 0) (Nat.le_of_ble_eq_true rfl) (Nat.le_of_ble_eq_true rfl) ?_
  obtain ⟨r1, rfl⟩ : ∃ z, z = r := ⟨_, rfl⟩
  obtain ⟨u2, rfl⟩ : ∃ z, z = u := ⟨_, rfl⟩
  have hw3 := hw
  clear hw
  obtain ⟨hP1, hD1⟩ := hB
  rw [ht] at hP1
  obtain ⟨hP, hD⟩ := va_join (wr := [(a 0, .inr (11, [.ref (a 1), .ref (a 2), .ref (a 3), .ref (a 4), .ref (a 5), .ref (a 10), .ref (a 15), .ref (a 17), .null, .int 0, .int 0, .int 0]))]) (w1 := [(a 3, .inr (2, [.int 0, .ref E, .int 0]))]) hP hD [1] [0] rfl rfl (by decide) (by decide) hk1 hFc hP1 hD1
  generalize H1 = H at hP hS ⊢
  have hP : va_P D vwCl [(a 0, .inr (11, [.ref (a 1), .ref (a 2), .ref (a 3), .ref (a 4), .ref (a 5), .ref (a 10), .ref (a 15), .ref (a 17), .null, .int 0, .int 0, .int 0])), (a 3, .inr (2, [.int 0, .ref E, .int 0]))] H := hP
  have hD : va_D A [(a 0, .inr (11, [.ref (a 1), .ref (a 2), .ref (a 3), .ref (a 4), .ref (a 5), .ref (a 10), .ref (a 15), .ref (a 17), .null, .int 0, .int 0, .int 0])), (a 3, .inr (2, [.int 0, .ref E, .int 0]))] := hD
  obtain rfl : r1 = 0 := hw3
  refine lv_icmp_ge (tgt := 39) hx hb dX8_slotOf_10 (by decide) (fun _ => ?_) (fun c4 => absurd (by decide) c4)
  refine lv_iconst (v := (-1)) hx hb dX8_slotOf_39 (by decide) ?_
  refine W.widen (k := 0) (n := 0) (Nat.le_of_ble_eq_true rfl) (Nat.le_of_ble_eq_true rfl) ?_
  have hP9 := hP.sub (ws' := [(a 0, .inr (11, [.ref (a 1), .ref (a 2), .ref (a 3), .ref (a 4), .ref (a 5), .ref (a 10), .ref (a 15), .ref (a 17), .null, .int 0, .int 0, .int 0])), (a 3, .inr (2, [.int 0, .ref E, .int 0]))]) [0, 1] rfl
  have hD9 := hD.sub (ws' := [(a 0, .inr (11, [.ref (a 1), .ref (a 2), .ref (a 3), .ref (a 4), .ref (a 5), .ref (a 10), .ref (a 15), .ref (a 17), .null, .int 0, .int 0, .int 0])), (a 3, .inr (2, [.int 0, .ref E, .int 0]))]) [0, 1] (by decide) rfl
  exact W.iret (v := ((-1))) hx hb hr (fun t ht hW => ⟨⟨((-1)), (), rfl, rfl, ⟨by rw [ht]; exact hP9, hD9⟩⟩, hS.F ht⟩) hS.2.2 dX8_slotOf_40

set_option maxHeartbeats 4000000 in
set_option maxRecDepth 100000 in
theorem c_viewNumbered (l : Launch) (hlt : l.stackTraces = false) (D : va_G) (dA : Nat → ClassId) (E : Nat) (a : Nat → Nat) (p0 : Int32) (sz : Nat)  : vx_Met l yX8_viewNumbered (wq (.code yX8_viewNumbered cX8_viewNumbered 3 (some (.object "TallowIndex$View")))) { frames := 6, cells := 1, slots := 6, locals := 82 } (va_Pc [.ref (a 0), .int p0] (PcB D dA E [(a 0, .inr (11, [.ref (a 1), .ref (a 2), .ref (a 3), .ref (a 4), .ref (a 5), .ref (a 10), .ref (a 15), .ref (a 17), .null, .int 0, .int 0, .int 0])), (a 3, .inr (2, [.int 0, .ref E, .int 0]))] sz)) (va_Qr (fun (u : Unit) => False) (fun u ra t => True) (va_A [(a 0, .inr (11, [.ref (a 1), .ref (a 2), .ref (a 3), .ref (a 4), .ref (a 5), .ref (a 10), .ref (a 15), .ref (a 17), .null, .int 0, .int 0, .int 0])), (a 3, .inr (2, [.int 0, .ref E, .int 0]))] sz)) (vx_X (fun (k : Nat) => k = 2) (fun E9 k t => E9 = xN k) (va_A [(a 0, .inr (11, [.ref (a 1), .ref (a 2), .ref (a 3), .ref (a 4), .ref (a 5), .ref (a 10), .ref (a 15), .ref (a 17), .null, .int 0, .int 0, .int 0])), (a 3, .inr (2, [.int 0, .ref E, .int 0]))] sz)) 1 6 (va_A [(a 0, .inr (11, [.ref (a 1), .ref (a 2), .ref (a 3), .ref (a 4), .ref (a 5), .ref (a 10), .ref (a 15), .ref (a 17), .null, .int 0, .int 0, .int 0])), (a 3, .inr (2, [.int 0, .ref E, .int 0]))] sz) := by
  refine mx_of (Qc := fun A => va_Qr (fun (u : Unit) => False) (fun u ra t => True) A) (XC := fun A => vx_X (fun (k : Nat) => k = 2) (fun E9 k t => E9 = xN k) A) RX8 rfl (by decide) (Nat.le_of_ble_eq_true rfl) ?_
  intro p e s m args below meth c hae hx hb hr hts hown hlocks hml hnm htb hP hK A hAe hD hZ hS hA ls hl
  have hl : lv_has ls 3 [(0, .ref (a 0)), (1, .int p0)] := hl
  refine lv_aload_n hx hb dX8_viewNumbered_0 rfl (lv_at hl 0 rfl) ?_
  refine lv_iload_n hx hb dX8_viewNumbered_1 rfl (lv_at hl 1 rfl) ?_
  have hPc := hP.sub (ws' := [(a 0, .inr (11, [.ref (a 1), .ref (a 2), .ref (a 3), .ref (a 4), .ref (a 5), .ref (a 10), .ref (a 15), .ref (a 17), .null, .int 0, .int 0, .int 0])), (a 3, .inr (2, [.int 0, .ref E, .int 0]))]) [0, 1] rfl
  have hDc := hD.sub (ws' := [(a 0, .inr (11, [.ref (a 1), .ref (a 2), .ref (a 3), .ref (a 4), .ref (a 5), .ref (a 10), .ref (a 15), .ref (a 17), .null, .int 0, .int 0, .int 0])), (a 3, .inr (2, [.int 0, .ref E, .int 0]))]) [0, 1] (by decide) rfl
  have hFc := va_free (wc := [(a 0, .inr (11, [.ref (a 1), .ref (a 2), .ref (a 3), .ref (a 4), .ref (a 5), .ref (a 10), .ref (a 15), .ref (a 17), .null, .int 0, .int 0, .int 0])), (a 3, .inr (2, [.int 0, .ref E, .int 0]))]) hD hS hA [0, 1] rfl
  refine va_calli (va_runV (As := [.int p0]) (rest := []) ⟨hx, hb, hml, hown, hts⟩ (c_slotOf l D dA E a p0 s.heap.size ) (cwV 1 hts (ga_V q129 q130 q127 q113 q128) rfl rfl rfl (by decide +kernel) ⟨(Nat.le_of_ble_eq_true rfl), (Nat.le_of_ble_eq_true rfl)⟩) ⟨pb_blind, va_recv hK hPc (ci := 11) (q0 := 0) rfl rfl, pb_pre hK hPc hDc hZ hS hFc _⟩ rfl rfl hl.1 rfl (lv_room (Nat.le_of_ble_eq_true rfl)) dX8_viewNumbered_2 ⟨(Nat.le_of_ble_eq_true rfl), (Nat.le_of_ble_eq_true rfl)⟩) hS (fun q _ h => hFc q h) hFc (fun r u t H1 locs ht hvm hw hB hz1 hk1 hS => ?_)
  refine W.widen (k := 0) (n := 0) (Nat.le_of_ble_eq_true rfl) (Nat.le_of_ble_eq_true rfl) ?_
  obtain ⟨r1, rfl⟩ : ∃ z, z = r := ⟨_, rfl⟩
  obtain ⟨u2, rfl⟩ : ∃ z, z = u := ⟨_, rfl⟩
  have hw3 := hw
  clear hw
  obtain ⟨hP1, hD1⟩ := hB
  rw [ht] at hP1
  obtain ⟨hP, hD⟩ := va_join (wr := []) (w1 := [(a 0, .inr (11, [.ref (a 1), .ref (a 2), .ref (a 3), .ref (a 4), .ref (a 5), .ref (a 10), .ref (a 15), .ref (a 17), .null, .int 0, .int 0, .int 0])), (a 3, .inr (2, [.int 0, .ref E, .int 0]))]) hP hD [0, 1] [] rfl rfl (by decide) (by decide) hk1 hFc hP1 hD1
  generalize H1 = H at hP hS ⊢
  have hP : va_P D vwCl [(a 0, .inr (11, [.ref (a 1), .ref (a 2), .ref (a 3), .ref (a 4), .ref (a 5), .ref (a 10), .ref (a 15), .ref (a 17), .null, .int 0, .int 0, .int 0])), (a 3, .inr (2, [.int 0, .ref E, .int 0]))] H := hP
  have hD : va_D A [(a 0, .inr (11, [.ref (a 1), .ref (a 2), .ref (a 3), .ref (a 4), .ref (a 5), .ref (a 10), .ref (a 15), .ref (a 17), .null, .int 0, .int 0, .int 0])), (a 3, .inr (2, [.int 0, .ref E, .int 0]))] := hD
  obtain rfl : r1 = (-1) := hw3
  refine lv_istore_n (lv' := [(2, .int ((-1))), (0, .ref (a 0)), (1, .int p0)]) hx hb dX8_viewNumbered_5 rfl hl (by decide) rfl (fun ls hl => ?_)
  refine lv_iload_n hx hb dX8_viewNumbered_6 rfl (lv_at hl 0 rfl) ?_
  refine lv_if_ge (tgt := 20) hx hb dX8_viewNumbered_7 (by decide) (fun c4 => absurd c4 (by decide)) (fun _ => ?_)
  obtain ⟨sa, hstr5⟩ := hZ.1.2.2.2.2.1 ("TallowIndex", 212, "no such open view") (List.mem_of_getElem? (i := 14) rfl)
  exact vx_throwS (cls := "java/lang/IndexOutOfBoundsException") (names := ["java/lang/RuntimeException", "java/lang/Exception"]) (own := RX8) hx hb hlt hown hFit_2 hFitN (hts _ q117) (hts _ q118) hstr5 (hat_RX8_170 hts hZ.1) hgd_RX8_170_166 hZ.2.1 hZ.2.2.1 hS (hl.1.trans hml.symm) dX8_viewNumbered_10 dX8_viewNumbered_13 dX8_viewNumbered_14 dX8_viewNumbered_16 dX8_viewNumbered_19 (fun x h => (htb x h).elim) (Nat.le_of_ble_eq_true rfl) (Nat.le_of_ble_eq_true rfl) (Nat.le_of_ble_eq_true rfl) (Nat.le_of_ble_eq_true rfl) hlocks (fun t hal hz hk => ⟨2, rfl, rfl, sF_t hS hz hk⟩) hS.2.2 (Nat.le_of_ble_eq_true rfl) (Nat.le_of_ble_eq_true rfl)

set_option maxHeartbeats 4000000 in
set_option maxRecDepth 100000 in
theorem c_find (l : Launch) (hlt : l.stackTraces = false) (D : va_G) (dA : Nat → ClassId) (E : Nat) (a : Nat → Nat) (p0 p1 : Int32) (sz : Nat)  : vx_Met l yX8_find (wq (.code yX8_find cX8_find 4 (some (.object "TallowIndex$View")))) { frames := 7, cells := 1, slots := 6, locals := 104 } (va_Pc [.ref (a 0), .int p0, .int p1] (PcB D dA E [(a 0, .inr (11, [.ref (a 1), .ref (a 2), .ref (a 3), .ref (a 4), .ref (a 5), .ref (a 10), .ref (a 15), .ref (a 17), .null, .int 0, .int 0, .int 0])), (a 3, .inr (2, [.int 0, .ref E, .int 0]))] sz)) (va_Qr (fun (u : Unit) => False) (fun u ra t => True) (va_A [(a 0, .inr (11, [.ref (a 1), .ref (a 2), .ref (a 3), .ref (a 4), .ref (a 5), .ref (a 10), .ref (a 15), .ref (a 17), .null, .int 0, .int 0, .int 0])), (a 3, .inr (2, [.int 0, .ref E, .int 0]))] sz)) (vx_X (fun (k : Nat) => k = 2) (fun E9 k t => E9 = xN k) (va_A [(a 0, .inr (11, [.ref (a 1), .ref (a 2), .ref (a 3), .ref (a 4), .ref (a 5), .ref (a 10), .ref (a 15), .ref (a 17), .null, .int 0, .int 0, .int 0])), (a 3, .inr (2, [.int 0, .ref E, .int 0]))] sz)) 1 6 (va_A [(a 0, .inr (11, [.ref (a 1), .ref (a 2), .ref (a 3), .ref (a 4), .ref (a 5), .ref (a 10), .ref (a 15), .ref (a 17), .null, .int 0, .int 0, .int 0])), (a 3, .inr (2, [.int 0, .ref E, .int 0]))] sz) := by
  refine mx_of (Qc := fun A => va_Qr (fun (u : Unit) => False) (fun u ra t => True) A) (XC := fun A => vx_X (fun (k : Nat) => k = 2) (fun E9 k t => E9 = xN k) A) RX8 rfl (by decide) (Nat.le_of_ble_eq_true rfl) ?_
  intro p e s m args below meth c hae hx hb hr hts hown hlocks hml hnm htb hP hK A hAe hD hZ hS hA ls hl
  have hl : lv_has ls 4 [(0, .ref (a 0)), (1, .int p0), (2, .int p1)] := hl
  refine lv_aload_n hx hb dX8_find_0 rfl (lv_at hl 0 rfl) ?_
  refine lv_iload_n hx hb dX8_find_1 rfl (lv_at hl 1 rfl) ?_
  have hPc := hP.sub (ws' := [(a 0, .inr (11, [.ref (a 1), .ref (a 2), .ref (a 3), .ref (a 4), .ref (a 5), .ref (a 10), .ref (a 15), .ref (a 17), .null, .int 0, .int 0, .int 0])), (a 3, .inr (2, [.int 0, .ref E, .int 0]))]) [0, 1] rfl
  have hDc := hD.sub (ws' := [(a 0, .inr (11, [.ref (a 1), .ref (a 2), .ref (a 3), .ref (a 4), .ref (a 5), .ref (a 10), .ref (a 15), .ref (a 17), .null, .int 0, .int 0, .int 0])), (a 3, .inr (2, [.int 0, .ref E, .int 0]))]) [0, 1] (by decide) rfl
  have hFc := va_free (wc := [(a 0, .inr (11, [.ref (a 1), .ref (a 2), .ref (a 3), .ref (a 4), .ref (a 5), .ref (a 10), .ref (a 15), .ref (a 17), .null, .int 0, .int 0, .int 0])), (a 3, .inr (2, [.int 0, .ref E, .int 0]))]) hD hS hA [0, 1] rfl
  refine vx_callr (vx_runV (As := [.int p0]) (rest := []) ⟨hx, hb, hml, hown, hts⟩ (c_viewNumbered l hlt D dA E a p0 s.heap.size ) (cwV 1 hts (ga_V q133 q134 q131 q113 q132) rfl rfl rfl (by decide +kernel) ⟨(Nat.le_of_ble_eq_true rfl), (Nat.le_of_ble_eq_true rfl)⟩) ⟨pb_blind, va_recv hK hPc (ci := 11) (q0 := 0) rfl rfl, pb_pre hK hPc hDc hZ hS hFc _⟩ rfl rfl hl.1 rfl (lv_room (Nat.le_of_ble_eq_true rfl)) dX8_find_2 ⟨(Nat.le_of_ble_eq_true rfl), (Nat.le_of_ble_eq_true rfl)⟩) hS (fun q _ h => hFc q h) hFc (fun q _ h => hFc q h) (fun E9 ce q9 k t H1 locs ht hvm hpx hBX hz1 hk1 hS hce hcv hcl => ?_) (fun u ra t H1 locs ht hvm hw hB hz1 hk1 hS => ?_)
  · exact vx_out (fun x h => (htb x h).elim) hlocks hce hcv hcl (fun t1 ht1 hal => ⟨k, hpx, hBX, hS.F ht1⟩) hS.2.2 (Nat.le_of_ble_eq_true rfl) (Nat.le_of_ble_eq_true rfl)
  · exact hw.elim

set_option maxHeartbeats 4000000 in
set_option maxRecDepth 100000 in
theorem c_writeBuffer (l : Launch) (D : va_G) (dA : Nat → ClassId) (E : Nat) (h r1 r2 : Nat) (sz : Nat)  : Met l yX4_writeBuffer (wq (.code yX4_writeBuffer cX4_writeBuffer 3 (some .int))) { frames := 0, cells := 0, slots := 0, locals := 0 } (va_Pc [.ref h] (PcB D dA E [(h, .inr (7, [.ref r1, .ref r2, .int 0, .int 0]))] sz)) (va_Qi (fun (r : Int32) (u : Unit) => r = 0) (fun u t => va_P D vwCl [(h, .inr (7, [.ref r1, .ref r2, .int 0, .int 0]))] t.heap ∧ va_D (va_A [(h, .inr (7, [.ref r1, .ref r2, .int 0, .int 0]))] sz) [(h, .inr (7, [.ref r1, .ref r2, .int 0, .int 0]))]) (va_A [(h, .inr (7, [.ref r1, .ref r2, .int 0, .int 0]))] sz)) 0 0 (va_A [(h, .inr (7, [.ref r1, .ref r2, .int 0, .int 0]))] sz) := by
  refine mb_of (Qc := fun A => va_Qi (fun (r : Int32) (u : Unit) => r = 0) (fun u t => va_P D vwCl [(h, .inr (7, [.ref r1, .ref r2, .int 0, .int 0]))] t.heap ∧ va_D A [(h, .inr (7, [.ref r1, .ref r2, .int 0, .int 0]))]) A) RX4 rfl (by decide) (Nat.le_of_ble_eq_true rfl) ?_
  intro p e s m args below meth c hae hx hb hr hts hown hlocks hml hnm hP hK A hAe hD hZ hS hA ls hl
  have hl : lv_has ls 3 [(0, .ref h)] := hl
  refine lv_iconst (v := 0) hx hb dX4_writeBuffer_0 (by decide) ?_
  refine lv_istore_n (lv' := [(1, .int 0), (0, .ref h)]) hx hb dX4_writeBuffer_1 rfl hl (by decide) rfl (fun ls hl => ?_)
  refine lv_iconst (v := 0) hx hb dX4_writeBuffer_2 (by decide) ?_
  refine lv_istore_n (lv' := [(2, .int 0), (1, .int 0), (0, .ref h)]) hx hb dX4_writeBuffer_3 rfl hl (by decide) rfl (fun ls hl => ?_)
  refine lv_iload_n hx hb dX4_writeBuffer_4 rfl (lv_at hl 0 rfl) ?_
  refine lv_aload_n hx hb dX4_writeBuffer_5 rfl (lv_at hl 2 rfl) ?_
  refine va_get (D := D) (ci := 7) (v := .int 0) (C := RX4) (T := TX4) (N := 4) hx hb hts inAX4 hown hK hP 0 rfl rfl 2 (by decide) (hts _ q135) (fun _ h9 => h9) rfl dX4_writeBuffer_6 ?_
  refine lv_icmp_ge (tgt := 56) hx hb dX4_writeBuffer_9 (by decide) (fun _ => ?_) (fun c1 => absurd (by decide) c1)
  refine lv_iload_n hx hb dX4_writeBuffer_56 rfl (lv_at hl 1 rfl) ?_
  refine lv_if_le (tgt := 70) hx hb dX4_writeBuffer_57 (by decide) (fun _ => ?_) (fun c2 => absurd (by decide) c2)
  refine lv_iload_n hx hb dX4_writeBuffer_70 rfl (lv_at hl 1 rfl) ?_
  refine W.widen (k := 0) (n := 0) (Nat.le_of_ble_eq_true rfl) (Nat.le_of_ble_eq_true rfl) ?_
  have hP9 := hP.sub (ws' := [(h, .inr (7, [.ref r1, .ref r2, .int 0, .int 0]))]) [0] rfl
  have hD9 := hD.sub (ws' := [(h, .inr (7, [.ref r1, .ref r2, .int 0, .int 0]))]) [0] (by decide) rfl
  exact W.iret (v := 0) hx hb hr (fun t ht hW => ⟨⟨0, (), rfl, rfl, ⟨by rw [ht]; exact hP9, hD9⟩⟩, hS.F ht⟩) hS.2.2 dX4_writeBuffer_71

set_option maxHeartbeats 4000000 in
set_option maxRecDepth 100000 in
theorem c_hasSegment (l : Launch) (D : va_G) (dA : Nat → ClassId) (E : Nat) (h r1 r2 : Nat) (p0 : Int32) (sz : Nat)  : Met l yX4_hasSegment (wq (.code yX4_hasSegment cX4_hasSegment 2 (some .boolean))) { frames := 0, cells := 0, slots := 0, locals := 0 } (va_Pc [.ref h, .int p0] (PcB D dA E [(h, .inr (7, [.ref r1, .ref r2, .int 0, .int 0]))] sz)) (va_Qi (fun (r : Int32) (u : Unit) => r = 0) (fun u t => va_P D vwCl [(h, .inr (7, [.ref r1, .ref r2, .int 0, .int 0]))] t.heap ∧ va_D (va_A [(h, .inr (7, [.ref r1, .ref r2, .int 0, .int 0]))] sz) [(h, .inr (7, [.ref r1, .ref r2, .int 0, .int 0]))]) (va_A [(h, .inr (7, [.ref r1, .ref r2, .int 0, .int 0]))] sz)) 0 0 (va_A [(h, .inr (7, [.ref r1, .ref r2, .int 0, .int 0]))] sz) := by
  refine mb_of (Qc := fun A => va_Qi (fun (r : Int32) (u : Unit) => r = 0) (fun u t => va_P D vwCl [(h, .inr (7, [.ref r1, .ref r2, .int 0, .int 0]))] t.heap ∧ va_D A [(h, .inr (7, [.ref r1, .ref r2, .int 0, .int 0]))]) A) RX4 rfl (by decide) (Nat.le_of_ble_eq_true rfl) ?_
  intro p e s m args below meth c hae hx hb hr hts hown hlocks hml hnm hP hK A hAe hD hZ hS hA ls hl
  have hl : lv_has ls 2 [(0, .ref h), (1, .int p0)] := hl
  refine lv_iload_n hx hb dX4_hasSegment_0 rfl (lv_at hl 1 rfl) ?_
  refine lv_if_lt (tgt := 16) hx hb dX4_hasSegment_1 (by decide) (fun c1 => ?_) (fun c1 => ?_)
  · refine lv_iconst (v := 0) hx hb dX4_hasSegment_16 (by decide) ?_
    refine W.widen (k := 0) (n := 0) (Nat.le_of_ble_eq_true rfl) (Nat.le_of_ble_eq_true rfl) ?_
    have hP9 := hP.sub (ws' := [(h, .inr (7, [.ref r1, .ref r2, .int 0, .int 0]))]) [0] rfl
    have hD9 := hD.sub (ws' := [(h, .inr (7, [.ref r1, .ref r2, .int 0, .int 0]))]) [0] (by decide) rfl
    exact W.zret (v := 0) hx hb hr rfl (fun t ht hW => ⟨⟨0, (), rfl, rfl, ⟨by rw [ht]; exact hP9, hD9⟩⟩, hS.F ht⟩) hS.2.2 dX4_hasSegment_17
  · refine lv_iload_n hx hb dX4_hasSegment_4 rfl (lv_at hl 1 rfl) ?_
    refine lv_aload_n hx hb dX4_hasSegment_5 rfl (lv_at hl 0 rfl) ?_
    refine va_get (D := D) (ci := 7) (v := .int 0) (C := RX4) (T := TX4) (N := 4) hx hb hts inAX4 hown hK hP 0 rfl rfl 3 (by decide) (hts _ q136) (fun _ h9 => h9) rfl dX4_hasSegment_6 ?_
    refine lv_icmp_ge (tgt := 16) hx hb dX4_hasSegment_9 (by decide) (fun _ => ?_) (fun c2 => absurd (m_neg _ c1) c2)
    refine lv_iconst (v := 0) hx hb dX4_hasSegment_16 (by decide) ?_
    refine W.widen (k := 0) (n := 0) (Nat.le_of_ble_eq_true rfl) (Nat.le_of_ble_eq_true rfl) ?_
    have hP9 := hP.sub (ws' := [(h, .inr (7, [.ref r1, .ref r2, .int 0, .int 0]))]) [0] rfl
    have hD9 := hD.sub (ws' := [(h, .inr (7, [.ref r1, .ref r2, .int 0, .int 0]))]) [0] (by decide) rfl
    exact W.zret (v := 0) hx hb hr rfl (fun t ht hW => ⟨⟨0, (), rfl, rfl, ⟨by rw [ht]; exact hP9, hD9⟩⟩, hS.F ht⟩) hS.2.2 dX4_hasSegment_17

set_option maxHeartbeats 4000000 in
set_option maxRecDepth 100000 in
theorem c_inSegments (l : Launch) (D : va_G) (dA : Nat → ClassId) (E : Nat) (h r1 r2 : Nat) (sz : Nat)  : Met l yX4_inSegments (wq (.code yX4_inSegments cX4_inSegments 3 (some .int))) { frames := 0, cells := 0, slots := 0, locals := 0 } (va_Pc [.ref h] (PcB D dA E [(h, .inr (7, [.ref r1, .ref r2, .int 0, .int 0]))] sz)) (va_Qi (fun (r : Int32) (u : Unit) => r = 0) (fun u t => va_P D vwCl [(h, .inr (7, [.ref r1, .ref r2, .int 0, .int 0]))] t.heap ∧ va_D (va_A [(h, .inr (7, [.ref r1, .ref r2, .int 0, .int 0]))] sz) [(h, .inr (7, [.ref r1, .ref r2, .int 0, .int 0]))]) (va_A [(h, .inr (7, [.ref r1, .ref r2, .int 0, .int 0]))] sz)) 0 0 (va_A [(h, .inr (7, [.ref r1, .ref r2, .int 0, .int 0]))] sz) := by
  refine mb_of (Qc := fun A => va_Qi (fun (r : Int32) (u : Unit) => r = 0) (fun u t => va_P D vwCl [(h, .inr (7, [.ref r1, .ref r2, .int 0, .int 0]))] t.heap ∧ va_D A [(h, .inr (7, [.ref r1, .ref r2, .int 0, .int 0]))]) A) RX4 rfl (by decide) (Nat.le_of_ble_eq_true rfl) ?_
  intro p e s m args below meth c hae hx hb hr hts hown hlocks hml hnm hP hK A hAe hD hZ hS hA ls hl
  have hl : lv_has ls 3 [(0, .ref h)] := hl
  refine lv_iconst (v := 0) hx hb dX4_inSegments_0 (by decide) ?_
  refine lv_istore_n (lv' := [(1, .int 0), (0, .ref h)]) hx hb dX4_inSegments_1 rfl hl (by decide) rfl (fun ls hl => ?_)
  refine lv_iconst (v := 0) hx hb dX4_inSegments_2 (by decide) ?_
  refine lv_istore_n (lv' := [(2, .int 0), (1, .int 0), (0, .ref h)]) hx hb dX4_inSegments_3 rfl hl (by decide) rfl (fun ls hl => ?_)
  refine lv_iload_n hx hb dX4_inSegments_4 rfl (lv_at hl 0 rfl) ?_
  refine lv_aload_n hx hb dX4_inSegments_5 rfl (lv_at hl 2 rfl) ?_
  refine va_get (D := D) (ci := 7) (v := .int 0) (C := RX4) (T := TX4) (N := 4) hx hb hts inAX4 hown hK hP 0 rfl rfl 2 (by decide) (hts _ q135) (fun _ h9 => h9) rfl dX4_inSegments_6 ?_
  refine lv_icmp_ge (tgt := 33) hx hb dX4_inSegments_9 (by decide) (fun _ => ?_) (fun c1 => absurd (by decide) c1)
  refine lv_iload_n hx hb dX4_inSegments_33 rfl (lv_at hl 1 rfl) ?_
  refine W.widen (k := 0) (n := 0) (Nat.le_of_ble_eq_true rfl) (Nat.le_of_ble_eq_true rfl) ?_
  have hP9 := hP.sub (ws' := [(h, .inr (7, [.ref r1, .ref r2, .int 0, .int 0]))]) [0] rfl
  have hD9 := hD.sub (ws' := [(h, .inr (7, [.ref r1, .ref r2, .int 0, .int 0]))]) [0] (by decide) rfl
  exact W.iret (v := 0) hx hb hr (fun t ht hW => ⟨⟨0, (), rfl, rfl, ⟨by rw [ht]; exact hP9, hD9⟩⟩, hS.F ht⟩) hS.2.2 dX4_inSegments_34

set_option maxHeartbeats 4000000 in
set_option maxRecDepth 100000 in
theorem c_goBackTo (l : Launch) (D : va_G) (dA : Nat → ClassId) (E : Nat) (h r1 r2 g r3 r4 : Nat) (sz : Nat)  : Met l yX4_goBackTo (wq (.code yX4_goBackTo cX4_goBackTo 6 (some .int))) { frames := 0, cells := 0, slots := 0, locals := 0 } (va_Pc [.ref h, .ref g] (PcB D dA E [(h, .inr (7, [.ref r1, .ref r2, .int 0, .int 0])), (g, .inr (7, [.ref r3, .ref r4, .int 0, .int 0]))] sz)) (va_Qi (fun (r : Int32) (u : Unit) => r = 0) (fun u t => True) (va_A [(h, .inr (7, [.ref r1, .ref r2, .int 0, .int 0])), (g, .inr (7, [.ref r3, .ref r4, .int 0, .int 0]))] sz)) 0 0 (va_A [(h, .inr (7, [.ref r1, .ref r2, .int 0, .int 0])), (g, .inr (7, [.ref r3, .ref r4, .int 0, .int 0]))] sz) := by
  refine mb_of (Qc := fun A => va_Qi (fun (r : Int32) (u : Unit) => r = 0) (fun u t => True) A) RX4 rfl (by decide) (Nat.le_of_ble_eq_true rfl) ?_
  intro p e s m args below meth c hae hx hb hr hts hown hlocks hml hnm hP hK A hAe hD hZ hS hA ls hl
  have hl : lv_has ls 6 [(0, .ref h), (1, .ref g)] := hl
  refine lv_iconst (v := 0) hx hb dX4_goBackTo_0 (by decide) ?_
  refine lv_istore_n (lv' := [(2, .int 0), (0, .ref h), (1, .ref g)]) hx hb dX4_goBackTo_1 rfl hl (by decide) rfl (fun ls hl => ?_)
  refine lv_iconst (v := 0) hx hb dX4_goBackTo_2 (by decide) ?_
  refine lv_istore_n (lv' := [(3, .int 0), (2, .int 0), (0, .ref h), (1, .ref g)]) hx hb dX4_goBackTo_3 rfl hl (by decide) rfl (fun ls hl => ?_)
  refine lv_iload_n hx hb dX4_goBackTo_4 rfl (lv_at hl 0 rfl) ?_
  refine lv_aload_n hx hb dX4_goBackTo_5 rfl (lv_at hl 2 rfl) ?_
  refine va_get (D := D) (ci := 7) (v := .int 0) (C := RX4) (T := TX4) (N := 4) hx hb hts inAX4 hown hK hP 0 rfl rfl 2 (by decide) (hts _ q135) (fun _ h9 => h9) rfl dX4_goBackTo_6 ?_
  refine lv_icmp_ge (tgt := 101) hx hb dX4_goBackTo_9 (by decide) (fun _ => ?_) (fun c1 => absurd (by decide) c1)
  refine lv_aload_n hx hb dX4_goBackTo_101 rfl (lv_at hl 2 rfl) ?_
  refine lv_aload_n hx hb dX4_goBackTo_102 rfl (lv_at hl 3 rfl) ?_
  refine va_get (D := D) (ci := 7) (v := .int 0) (C := RX4) (T := TX4) (N := 4) hx hb hts inAX4 hown hK hP 1 rfl rfl 3 (by decide) (hts _ q136) (fun _ h9 => h9) rfl dX4_goBackTo_103 ?_
  refine va_put (D := D) (ci := 7) (v := .int 0) (ty := .int) (C := RX4) (T := TX4) (N := 4) hx hb hts inAX4 tyX4 tyX4_ok nmX4 hown hK hP hD hS 0 rfl rfl 3 (by decide) (hts _ q136) (fun _ h9 => h9) rfl (tyX4_ok 3 (by decide)) rfl rfl (Nat.le_of_ble_eq_true rfl) dX4_goBackTo_106 (fun H locs hP hD hS => ?_)
  have hP : va_P D vwCl [(h, .inr (7, [.ref r1, .ref r2, .int 0, .int 0])), (g, .inr (7, [.ref r3, .ref r4, .int 0, .int 0]))] H := hP
  have hD : va_D A [(h, .inr (7, [.ref r1, .ref r2, .int 0, .int 0])), (g, .inr (7, [.ref r3, .ref r4, .int 0, .int 0]))] := hD
  refine lv_iload_n hx hb dX4_goBackTo_109 rfl (lv_at hl 1 rfl) ?_
  refine W.widen (k := 0) (n := 0) (Nat.le_of_ble_eq_true rfl) (Nat.le_of_ble_eq_true rfl) ?_
  exact W.iret (v := 0) hx hb hr (fun t ht hW => ⟨⟨0, (), rfl, rfl, trivial⟩, hS.F ht⟩) hS.2.2 dX4_goBackTo_110
