/-! CONTRACTS, general -/
theorem q437 : (.methodLink RX7 20 yX2_get : Cond) ∈ WA := WA_of (tb_4 134 rfl) rfl
theorem perm_P {D : va_G} {cl : List vw_C} {ws ws' : va_W} {H : Heap} (h : ws.Perm ws') (hP : va_P D cl ws H) : va_P D cl ws' H := by
  intro k q hk
  obtain ⟨i, hi⟩ := List.getElem?_of_mem (h.mem_iff.mpr (List.mem_of_getElem? hk))
  exact hP i q hi
theorem nd_of {A : Nat → Prop} {ws : va_W} (h : va_D A ws) : (ws.map (fun q => q.1)).Nodup := by
  unfold List.Nodup
  rw [List.pairwise_iff_getElem]
  intro i j hi hj hij e
  rw [List.length_map] at hi hj
  rw [List.getElem_map, List.getElem_map] at e
  have := h.1 i j _ _ (List.getElem?_eq_getElem hi) (List.getElem?_eq_getElem hj) e
  omega
theorem of_nd {A : Nat → Prop} {ws : va_W} (h : (ws.map (fun q => q.1)).Nodup) (h2 : ∀ q ∈ ws, A q.1) : va_D A ws := by
  unfold List.Nodup at h
  rw [List.pairwise_iff_getElem] at h
  have key : ∀ (i j : Nat) (p q : Nat × va_E), ws[i]? = some p → ws[j]? = some q → p.1 = q.1 → ¬ i < j := by
    intro i j p q hi hj e hij
    obtain ⟨li, ei⟩ := List.getElem?_eq_some_iff.mp hi
    obtain ⟨lj, ej⟩ := List.getElem?_eq_some_iff.mp hj
    have := h i j (by rw [List.length_map]; exact li) (by rw [List.length_map]; exact lj) hij
    rw [List.getElem_map, List.getElem_map, ei, ej] at this
    exact this e
  refine ⟨fun i j p q hi hj e => ?_, fun k q hk => h2 q (List.mem_of_getElem? hk)⟩
  have h3 := key i j p q hi hj e
  have h4 := key j i q p hj hi e.symm
  omega
theorem perm_D {A : Nat → Prop} {ws ws' : va_W} (h : ws.Perm ws') (hD : va_D A ws) : va_D A ws' := of_nd ((h.map (fun q => q.1)).nodup_iff.mp (nd_of hD)) (fun q hq => by
  obtain ⟨i, hi⟩ := List.getElem?_of_mem (h.mem_iff.mpr hq)
  exact hD.2 i q hi)
theorem foc_p {X T B T' : va_W} (hp : T.Perm (B ++ T')) : (X ++ T).Perm ((X ++ B) ++ T') := by
  rw [List.append_assoc]
  exact List.Perm.append_left X hp
theorem foc_P {D : va_G} {cl : List vw_C} {X T B T' : va_W} {H : Heap} (hp : T.Perm (B ++ T')) (h : va_P D cl (X ++ T) H) : va_P D cl ((X ++ B) ++ T') H := perm_P (foc_p hp) h
theorem foc_D {A : Nat → Prop} {X T B T' : va_W} (hp : T.Perm (B ++ T')) (h : va_D A (X ++ T)) : va_D A ((X ++ B) ++ T') := perm_D (foc_p hp) h
theorem unf_P {D : va_G} {cl : List vw_C} {X T B T' : va_W} {H : Heap} (hp : T.Perm (B ++ T')) (h : va_P D cl ((X ++ B) ++ T') H) : va_P D cl (X ++ T) H := perm_P (foc_p hp).symm h
theorem unf_D {A : Nat → Prop} {X T B T' : va_W} (hp : T.Perm (B ++ T')) (h : va_D A ((X ++ B) ++ T')) : va_D A (X ++ T) := perm_D (foc_p hp).symm h
theorem pm_l {A B A' R : va_W} (h : A.Perm (B ++ A')) : (A ++ R).Perm (B ++ (A' ++ R)) := by
  rw [← List.append_assoc]
  exact List.Perm.append_right R h
theorem pm_r {A B R R' : va_W} (h : R.Perm (B ++ R')) : (A ++ R).Perm (B ++ (A ++ R')) := (List.Perm.append_left A h).trans (List.perm_append_comm_assoc A B R')
/-- blocks of cells, the i-th b i -/
def fam (n : Nat) (b : Nat → va_W) : va_W := (List.range n).flatMap b
def famx (n i : Nat) (b : Nat → va_W) : va_W := ((List.range n).erase i).flatMap b
theorem fam_pm {n i : Nat} {b : Nat → va_W} (h : i < n) : (fam n b).Perm (b i ++ famx n i b) := by
  have h1 := List.perm_cons_erase (List.mem_range.mpr h)
  have h2 := List.Perm.flatMap_right b h1
  rw [List.flatMap_cons] at h2
  exact h2
theorem famx_cong {n i : Nat} {b b' : Nat → va_W} (h : ∀ j, j < n → j ≠ i → b j = b' j) : famx n i b = famx n i b' := by
  unfold famx
  rw [List.flatMap_def, List.flatMap_def]
  congr 1
  apply List.map_congr_left
  intro j hj
  have hn : (List.range n).Nodup := List.nodup_range
  have hj2 := (hn.mem_erase_iff).mp hj
  exact h j (List.mem_range.mp hj2.2) hj2.1
theorem fam_cong {n : Nat} {b b' : Nat → va_W} (h : ∀ j, j < n → b j = b' j) : fam n b = fam n b' := by
  unfold fam
  rw [List.flatMap_def, List.flatMap_def]
  congr 1
  apply List.map_congr_left
  intro j hj
  exact h j (List.mem_range.mp hj)
theorem fam_succ {n : Nat} {b : Nat → va_W} : fam (n + 1) b = fam n b ++ b n := by
  unfold fam
  rw [List.range_succ, List.flatMap_append]
  simp
/-- the array of a list: none as long as nothing was added -/
def arw (dA : Nat → ClassId) (cap ar : Nat) (f : Nat → Option Nat) : va_W := if cap = 0 then [] else [(ar, .inl (dA 5, cap, .inr (.inr (.inr (.inr f)))))]
theorem arw_pm {dA : Nat → ClassId} {cap ar : Nat} {f : Nat → Option Nat} (h : 0 < cap) : (arw dA cap ar f).Perm ([(ar, .inl (dA 5, cap, .inr (.inr (.inr (.inr f)))))] ++ []) := by
  unfold arw
  rw [if_neg (by omega), List.append_nil]
set_option maxHeartbeats 4000000 in
set_option maxRecDepth 100000 in
theorem v_sees (l : Launch) (D : va_G) (dA : Nat → ClassId) (E : Nat) (vo v1 v2 : Nat) (vn vc : Int32) (vp : Nat → Int32) (d : Nat) (sz : Nat) (hd : d < 30)  : Met l yX7_sees (wq (.code yX7_sees cX7_sees 2 (some .boolean))) { frames := 1, cells := 0, slots := 0, locals := 21 } (va_Pc [.ref vo, .int (nI d)] (PcB D dA E [(vo, .inr (10, [.int vn, .ref v1, .int vc])), (v1, .inr (5, [.ref v2])), (v2, .inl (dA 0, 30, .inl vp))] sz)) (va_Qi (fun (r : Int32) (u : Unit) => r = bI (decide (vp d = 1))) (fun u t => va_P D vwCl [(vo, .inr (10, [.int vn, .ref v1, .int vc])), (v1, .inr (5, [.ref v2])), (v2, .inl (dA 0, 30, .inl vp))] t.heap ∧ va_D (va_A [(vo, .inr (10, [.int vn, .ref v1, .int vc])), (v1, .inr (5, [.ref v2])), (v2, .inl (dA 0, 30, .inl vp))] sz) [(vo, .inr (10, [.int vn, .ref v1, .int vc])), (v1, .inr (5, [.ref v2])), (v2, .inl (dA 0, 30, .inl vp))]) (va_A [(vo, .inr (10, [.int vn, .ref v1, .int vc])), (v1, .inr (5, [.ref v2])), (v2, .inl (dA 0, 30, .inl vp))] sz)) 0 0 (va_A [(vo, .inr (10, [.int vn, .ref v1, .int vc])), (v1, .inr (5, [.ref v2])), (v2, .inl (dA 0, 30, .inl vp))] sz) := by
  refine mb_of (Qc := fun A => va_Qi (fun (r : Int32) (u : Unit) => r = bI (decide (vp d = 1))) (fun u t => va_P D vwCl [(vo, .inr (10, [.int vn, .ref v1, .int vc])), (v1, .inr (5, [.ref v2])), (v2, .inl (dA 0, 30, .inl vp))] t.heap ∧ va_D A [(vo, .inr (10, [.int vn, .ref v1, .int vc])), (v1, .inr (5, [.ref v2])), (v2, .inl (dA 0, 30, .inl vp))]) A) RX7 rfl (by decide) (Nat.le_of_ble_eq_true rfl) ?_
  intro p e s m args below meth c hae hx hb hr hts hown hlocks hml hnm hP hK A hAe hD hZ hS hA ls hl
  replace hl : lv_has ls 2 [(0, .ref vo), (1, .int (nI d))] := hl
  refine lv_aload_n hx hb dX7_sees_0 rfl (lv_at hl 0 rfl) ?_
  refine va_get (D := D) (ci := 10) (v := .ref v1) (C := RX7) (T := TX7) (N := 3) hx hb hts inAX7 hown hK hP 0 rfl rfl 1 (by decide) (hts _ q294) (fun _ h9 => h9) rfl dX7_sees_1 ?_
  refine lv_iload_n hx hb dX7_sees_4 rfl (lv_at hl 1 rfl) ?_
  replace hPc := hP.sub (ws' := [(v1, .inr (5, [.ref v2])), (v2, .inl (dA 0, 30, .inl vp))]) [1, 2] rfl
  replace hDc := hD.sub (ws' := [(v1, .inr (5, [.ref v2])), (v2, .inl (dA 0, 30, .inl vp))]) [1, 2] (by decide) rfl
  replace hFc := va_free (wc := [(v1, .inr (5, [.ref v2])), (v2, .inl (dA 0, 30, .inl vp))]) hD hS hA [1, 2] rfl
  refine va_calli (va_runV (As := [.int (nI d)]) (rest := []) ⟨hx, hb, hml, hown, hts⟩ (t_getN l D dA E v1 v2 30 vp d s.heap.size  (by omega) (by decide)) (cwV 1 hts (ga_V q437 q203 q200 q204 q201) rfl rfl rfl (by decide +kernel) ⟨(Nat.le_of_ble_eq_true rfl), (Nat.le_of_ble_eq_true rfl)⟩) ⟨pb_blind, va_recv hK hPc (ci := 5) (q0 := 0) rfl rfl, pb_pre hK hPc hDc hZ hS hFc _⟩ rfl rfl hl.1 rfl (lv_room (Nat.le_of_ble_eq_true rfl)) dX7_sees_5 ⟨(Nat.le_of_ble_eq_true rfl), (Nat.le_of_ble_eq_true rfl)⟩) hS (fun q _ h => hFc q h) hFc (fun r u t H1 locs ht hvm hw hB hz1 hk1 hS => ?_)
  refine W.widen (k := 0) (n := 0) (Nat.le_of_ble_eq_true rfl) (Nat.le_of_ble_eq_true rfl) ?_
  obtain ⟨r1, rfl⟩ : ∃ z, z = r := ⟨_, rfl⟩
  obtain ⟨u2, rfl⟩ : ∃ z, z = u := ⟨_, rfl⟩
  have hw3 := hw
  clear hw
  obtain ⟨hP1, hD1⟩ := hB
  rw [ht] at hP1
  obtain ⟨hP, hD⟩ := va_join (wr := [(vo, .inr (10, [.int vn, .ref v1, .int vc]))]) (w1 := [(v1, .inr (5, [.ref v2])), (v2, .inl (dA 0, 30, .inl vp))]) hP hD [1, 2] [0] rfl rfl (by decide) (by decide) hk1 hFc hP1 hD1
  generalize H1 = H at hP hS ⊢
  replace hP : va_P D vwCl [(vo, .inr (10, [.int vn, .ref v1, .int vc])), (v1, .inr (5, [.ref v2])), (v2, .inl (dA 0, 30, .inl vp))] H := hP
  replace hD : va_D A [(vo, .inr (10, [.int vn, .ref v1, .int vc])), (v1, .inr (5, [.ref v2])), (v2, .inl (dA 0, 30, .inl vp))] := hD
  obtain rfl : r1 = vp d := hw3
  refine lv_iconst (v := 1) hx hb dX7_sees_8 (by decide) ?_
  refine lv_icmp_ne (tgt := 16) hx hb dX7_sees_9 (by decide) (fun c4 => ?_) (fun c4 => ?_)
  · refine lv_iconst (v := 0) hx hb dX7_sees_16 (by decide) ?_
    refine W.widen (k := 0) (n := 0) (Nat.le_of_ble_eq_true rfl) (Nat.le_of_ble_eq_true rfl) ?_
    have hP9 := hP.sub (ws' := [(vo, .inr (10, [.int vn, .ref v1, .int vc])), (v1, .inr (5, [.ref v2])), (v2, .inl (dA 0, 30, .inl vp))]) [0, 1, 2] rfl
    have hD9 := hD.sub (ws' := [(vo, .inr (10, [.int vn, .ref v1, .int vc])), (v1, .inr (5, [.ref v2])), (v2, .inl (dA 0, 30, .inl vp))]) [0, 1, 2] (by decide) rfl
    exact W.zret (v := 0) hx hb hr rfl (fun t ht hW => ⟨⟨0, (), rfl, (show _ = bI (decide (vp d = 1)) from by simp [bI, c4]), ⟨by rw [ht]; exact hP9, hD9⟩⟩, hS.F ht⟩) hS.2.2 dX7_sees_17
  · refine lv_iconst (v := 1) hx hb dX7_sees_12 (by decide) ?_
    refine lv_goto (tgt := 17) hx hb dX7_sees_13 (by decide) ?_
    refine W.widen (k := 0) (n := 0) (Nat.le_of_ble_eq_true rfl) (Nat.le_of_ble_eq_true rfl) ?_
    have hP9 := hP.sub (ws' := [(vo, .inr (10, [.int vn, .ref v1, .int vc])), (v1, .inr (5, [.ref v2])), (v2, .inl (dA 0, 30, .inl vp))]) [0, 1, 2] rfl
    have hD9 := hD.sub (ws' := [(vo, .inr (10, [.int vn, .ref v1, .int vc])), (v1, .inr (5, [.ref v2])), (v2, .inl (dA 0, 30, .inl vp))]) [0, 1, 2] (by decide) rfl
    exact W.zret (v := 1) hx hb hr rfl (fun t ht hW => ⟨⟨1, (), rfl, (show _ = bI (decide (vp d = 1)) from by simp [bI, c4]), ⟨by rw [ht]; exact hP9, hD9⟩⟩, hS.F ht⟩) hS.2.2 dX7_sees_17

set_option maxHeartbeats 4000000 in
set_option maxRecDepth 100000 in
theorem v_seesAny (l : Launch) (D : va_G) (dA : Nat → ClassId) (E : Nat) (vo v1 v2 : Nat) (vn vc : Int32) (vp : Nat → Int32) (p0 : Int32) (sz : Nat)   : Met l yX7_sees (wq (.code yX7_sees cX7_sees 2 (some .boolean))) { frames := 1, cells := 0, slots := 0, locals := 21 } (va_Pc [.ref vo, .int p0] (PcB D dA E [(vo, .inr (10, [.int vn, .ref v1, .int vc])), (v1, .inr (5, [.ref v2])), (v2, .inl (dA 0, 30, .inl vp))] sz)) (va_Qi (fun (r : Int32) (u : Unit) => r = bI (decide (rgF 30 vp p0 = 1))) (fun u t => va_P D vwCl [(vo, .inr (10, [.int vn, .ref v1, .int vc])), (v1, .inr (5, [.ref v2])), (v2, .inl (dA 0, 30, .inl vp))] t.heap ∧ va_D (va_A [(vo, .inr (10, [.int vn, .ref v1, .int vc])), (v1, .inr (5, [.ref v2])), (v2, .inl (dA 0, 30, .inl vp))] sz) [(vo, .inr (10, [.int vn, .ref v1, .int vc])), (v1, .inr (5, [.ref v2])), (v2, .inl (dA 0, 30, .inl vp))]) (va_A [(vo, .inr (10, [.int vn, .ref v1, .int vc])), (v1, .inr (5, [.ref v2])), (v2, .inl (dA 0, 30, .inl vp))] sz)) 0 0 (va_A [(vo, .inr (10, [.int vn, .ref v1, .int vc])), (v1, .inr (5, [.ref v2])), (v2, .inl (dA 0, 30, .inl vp))] sz) := by
  refine mb_of (Qc := fun A => va_Qi (fun (r : Int32) (u : Unit) => r = bI (decide (rgF 30 vp p0 = 1))) (fun u t => va_P D vwCl [(vo, .inr (10, [.int vn, .ref v1, .int vc])), (v1, .inr (5, [.ref v2])), (v2, .inl (dA 0, 30, .inl vp))] t.heap ∧ va_D A [(vo, .inr (10, [.int vn, .ref v1, .int vc])), (v1, .inr (5, [.ref v2])), (v2, .inl (dA 0, 30, .inl vp))]) A) RX7 rfl (by decide) (Nat.le_of_ble_eq_true rfl) ?_
  intro p e s m args below meth c hae hx hb hr hts hown hlocks hml hnm hP hK A hAe hD hZ hS hA ls hl
  replace hl : lv_has ls 2 [(0, .ref vo), (1, .int p0)] := hl
  refine lv_aload_n hx hb dX7_sees_0 rfl (lv_at hl 0 rfl) ?_
  refine va_get (D := D) (ci := 10) (v := .ref v1) (C := RX7) (T := TX7) (N := 3) hx hb hts inAX7 hown hK hP 0 rfl rfl 1 (by decide) (hts _ q294) (fun _ h9 => h9) rfl dX7_sees_1 ?_
  refine lv_iload_n hx hb dX7_sees_4 rfl (lv_at hl 1 rfl) ?_
  replace hPc := hP.sub (ws' := [(v1, .inr (5, [.ref v2])), (v2, .inl (dA 0, 30, .inl vp))]) [1, 2] rfl
  replace hDc := hD.sub (ws' := [(v1, .inr (5, [.ref v2])), (v2, .inl (dA 0, 30, .inl vp))]) [1, 2] (by decide) rfl
  replace hFc := va_free (wc := [(v1, .inr (5, [.ref v2])), (v2, .inl (dA 0, 30, .inl vp))]) hD hS hA [1, 2] rfl
  refine va_calli (va_runV (As := [.int p0]) (rest := []) ⟨hx, hb, hml, hown, hts⟩ (t_get l D dA E v1 v2 30 vp p0 s.heap.size  (by decide)) (cwV 1 hts (ga_V q437 q203 q200 q204 q201) rfl rfl rfl (by decide +kernel) ⟨(Nat.le_of_ble_eq_true rfl), (Nat.le_of_ble_eq_true rfl)⟩) ⟨pb_blind, va_recv hK hPc (ci := 5) (q0 := 0) rfl rfl, pb_pre hK hPc hDc hZ hS hFc _⟩ rfl rfl hl.1 rfl (lv_room (Nat.le_of_ble_eq_true rfl)) dX7_sees_5 ⟨(Nat.le_of_ble_eq_true rfl), (Nat.le_of_ble_eq_true rfl)⟩) hS (fun q _ h => hFc q h) hFc (fun r u t H1 locs ht hvm hw hB hz1 hk1 hS => ?_)
  refine W.widen (k := 0) (n := 0) (Nat.le_of_ble_eq_true rfl) (Nat.le_of_ble_eq_true rfl) ?_
  obtain ⟨r1, rfl⟩ : ∃ z, z = r := ⟨_, rfl⟩
  obtain ⟨u2, rfl⟩ : ∃ z, z = u := ⟨_, rfl⟩
  have hw3 := hw
  clear hw
  obtain ⟨hP1, hD1⟩ := hB
  rw [ht] at hP1
  obtain ⟨hP, hD⟩ := va_join (wr := [(vo, .inr (10, [.int vn, .ref v1, .int vc]))]) (w1 := [(v1, .inr (5, [.ref v2])), (v2, .inl (dA 0, 30, .inl vp))]) hP hD [1, 2] [0] rfl rfl (by decide) (by decide) hk1 hFc hP1 hD1
  generalize H1 = H at hP hS ⊢
  replace hP : va_P D vwCl [(vo, .inr (10, [.int vn, .ref v1, .int vc])), (v1, .inr (5, [.ref v2])), (v2, .inl (dA 0, 30, .inl vp))] H := hP
  replace hD : va_D A [(vo, .inr (10, [.int vn, .ref v1, .int vc])), (v1, .inr (5, [.ref v2])), (v2, .inl (dA 0, 30, .inl vp))] := hD
  obtain rfl : r1 = rgF 30 vp p0 := hw3
  refine lv_iconst (v := 1) hx hb dX7_sees_8 (by decide) ?_
  refine lv_icmp_ne (tgt := 16) hx hb dX7_sees_9 (by decide) (fun c4 => ?_) (fun c4 => ?_)
  · refine lv_iconst (v := 0) hx hb dX7_sees_16 (by decide) ?_
    refine W.widen (k := 0) (n := 0) (Nat.le_of_ble_eq_true rfl) (Nat.le_of_ble_eq_true rfl) ?_
    have hP9 := hP.sub (ws' := [(vo, .inr (10, [.int vn, .ref v1, .int vc])), (v1, .inr (5, [.ref v2])), (v2, .inl (dA 0, 30, .inl vp))]) [0, 1, 2] rfl
    have hD9 := hD.sub (ws' := [(vo, .inr (10, [.int vn, .ref v1, .int vc])), (v1, .inr (5, [.ref v2])), (v2, .inl (dA 0, 30, .inl vp))]) [0, 1, 2] (by decide) rfl
    exact W.zret (v := 0) hx hb hr rfl (fun t ht hW => ⟨⟨0, (), rfl, (show _ = bI (decide (rgF 30 vp p0 = 1)) from by simp [bI, c4]), ⟨by rw [ht]; exact hP9, hD9⟩⟩, hS.F ht⟩) hS.2.2 dX7_sees_17
  · refine lv_iconst (v := 1) hx hb dX7_sees_12 (by decide) ?_
    refine lv_goto (tgt := 17) hx hb dX7_sees_13 (by decide) ?_
    refine W.widen (k := 0) (n := 0) (Nat.le_of_ble_eq_true rfl) (Nat.le_of_ble_eq_true rfl) ?_
    have hP9 := hP.sub (ws' := [(vo, .inr (10, [.int vn, .ref v1, .int vc])), (v1, .inr (5, [.ref v2])), (v2, .inl (dA 0, 30, .inl vp))]) [0, 1, 2] rfl
    have hD9 := hD.sub (ws' := [(vo, .inr (10, [.int vn, .ref v1, .int vc])), (v1, .inr (5, [.ref v2])), (v2, .inl (dA 0, 30, .inl vp))]) [0, 1, 2] (by decide) rfl
    exact W.zret (v := 1) hx hb hr rfl (fun t ht hW => ⟨⟨1, (), rfl, (show _ = bI (decide (rgF 30 vp p0 = 1)) from by simp [bI, c4]), ⟨by rw [ht]; exact hP9, hD9⟩⟩, hS.F ht⟩) hS.2.2 dX7_sees_17
