/-! CONTRACTS, general -/
set_option maxHeartbeats 4000000 in
set_option maxRecDepth 100000 in
theorem c_L_turned (l : Launch) (hlt : l.stackTraces = false) (D : va_G) (dA : Nat → ClassId) (E : Nat) (c9 : CS) (tn o : Nat) (g : Nat → Int64) (p0 : Int32) (p1 : Int32) (sz : Nat) (hI : CI E tn c9) (htn : tn ≤ 600) : vx_Met l yL_turned (wq (.codeWith yL_turned cL_turned 5 (some .int) [(0, 10, 13, 21)])) { frames := 9, cells := 2, slots := 12, locals := 172 } (va_Pc [.ref (c9.xa 0), .int p0, .int p1, .ref o] (PcB D dA E (HAppend.hAppend (α := va_W) (β := va_W) (γ := va_W) [(o, .inl (dA 3, 1, .inr (.inl g)))] (CW dA c9)) sz)) (va_Qi (fun (r : Int32) (u : CS × (Nat → Int64)) => CI E (tn + 1) u.1 ∧ u.1.xa = c9.xa ∧ ((u.1.vs = c9.vs) ∧ (u.1.nv = c9.nv) ∧ (u.1.VN = c9.VN))) (fun u t => va_P D vwCl ([(o, .inl (dA 3, 1, .inr (.inl u.2)))] ++ (CW dA u.1)) t.heap ∧ va_D (va_A (HAppend.hAppend (α := va_W) (β := va_W) (γ := va_W) [(o, .inl (dA 3, 1, .inr (.inl g)))] (CW dA c9)) sz) ([(o, .inl (dA 3, 1, .inr (.inl u.2)))] ++ (CW dA u.1))) (va_A (HAppend.hAppend (α := va_W) (β := va_W) (γ := va_W) [(o, .inl (dA 3, 1, .inr (.inl g)))] (CW dA c9)) sz)) (vx_X (fun (k : Nat) => False) (fun E9 k t => E9 = xN k) (va_A (HAppend.hAppend (α := va_W) (β := va_W) (γ := va_W) [(o, .inl (dA 3, 1, .inr (.inl g)))] (CW dA c9)) sz)) 2 12 (va_A (HAppend.hAppend (α := va_W) (β := va_W) (γ := va_W) [(o, .inl (dA 3, 1, .inr (.inl g)))] (CW dA c9)) sz) := by
  refine mh_of (y := yL_turned) (av := [.ref (c9.xa 0), .int p0, .int p1, .ref o]) (maxL := 5) (Qc := fun A => va_Qi (fun (r : Int32) (u : CS × (Nat → Int64)) => CI E (tn + 1) u.1 ∧ u.1.xa = c9.xa ∧ ((u.1.vs = c9.vs) ∧ (u.1.nv = c9.nv) ∧ (u.1.VN = c9.VN))) (fun u t => va_P D vwCl ([(o, .inl (dA 3, 1, .inr (.inl u.2)))] ++ (CW dA u.1)) t.heap ∧ va_D A ([(o, .inl (dA 3, 1, .inr (.inl u.2)))] ++ (CW dA u.1))) A) (XC := fun A => vx_X (fun (k : Nat) => False) (fun E9 k t => E9 = xN k) A) RL rfl (by decide) (Nat.le_of_ble_eq_true rfl) ?_
  intro p e s m args below meth c hae hx hb hr hts hown hlocks hml hnm htb hP hK A hAe hD hZ hS hA ls hl
  replace hl : lv_has ls 5 [(0, .ref (c9.xa 0)), (1, .int p0), (2, .int p1), (3, .ref o)] := hl
  refine lv_aload_n hx hb dL_turned_0 rfl (lv_at hl 3 rfl) ?_
  refine lv_iconst (v := 0) hx hb dL_turned_1 (by decide) ?_
  refine lv_aload_n hx hb dL_turned_2 rfl (lv_at hl 0 rfl) ?_
  refine lv_iload_n hx hb dL_turned_3 rfl (lv_at hl 1 rfl) ?_
  refine lv_iload_n hx hb dL_turned_4 rfl (lv_at hl 2 rfl) ?_
  replace hPc := va_P.part (X := [(o, .inl (dA 3, 1, .inr (.inl g)))]) (cx := []) (pl := (CW dA c9)) hP [] rfl
  replace hDc := va_D.part (X := [(o, .inl (dA 3, 1, .inr (.inl g)))]) (cx := []) (pl := (CW dA c9)) hD [] (by decide) rfl
  replace hFc := va_freeP (X := [(o, .inl (dA 3, 1, .inr (.inl g)))]) (cx := []) (pl := (CW dA c9)) hD hS hA [] rfl
  refine vx_calli (vx_runV (As := [.int p0, .int p1]) (rest := [.int 0, .ref o]) ⟨hx, hb, hml, hown, hts⟩ (y8_turned l hlt D dA E c9 tn p0 p1 s.heap.size  hI htn) (cwV 2 hts (ga_V q807 q808 q805 q346 q806) rfl rfl rfl (by decide +kernel) ⟨(Nat.le_of_ble_eq_true rfl), (Nat.le_of_ble_eq_true rfl)⟩) ⟨pb_blind, va_recv hK hPc (ci := 11) (q0 := 0) rfl rfl, pb_pre hK hPc hDc hZ hS hFc _⟩ rfl rfl hl.1 rfl (lv_room (Nat.le_of_ble_eq_true rfl)) dL_turned_5 ⟨(Nat.le_of_ble_eq_true rfl), (Nat.le_of_ble_eq_true rfl)⟩) hS (fun q _ h => hFc q h) hFc (fun q _ h => hFc q h) (fun E9 ce q9 k t H1 locs ht hvm hpx hBX hz1 hk1 hS hce hcv hcl => ?_) (fun r u t H1 locs ht hvm hw hB hz1 hk1 hS => ?_)
  · obtain ⟨k1, kx⟩ := k
    obtain ⟨hBE, hP1, hD1⟩ := hBX
    rw [ht] at hP1
    dsimp only at hpx hBE hP1 hD1
    obtain ⟨hP, hD⟩ := va_joinP (X := [(o, .inl (dA 3, 1, .inr (.inl g)))]) (cx := []) (wr := [(o, .inl (dA 3, 1, .inr (.inl g)))]) (rx := []) (pl := (CW dA c9)) (pl1 := (CW dA kx)) hP hD [] [0] rfl rfl (by decide) (by decide) hk1 hFc hP1 hD1
    generalize H1 = H at hP hS hce ⊢
    replace hP : va_P D vwCl (HAppend.hAppend (α := va_W) (β := va_W) (γ := va_W) [(o, .inl (dA 3, 1, .inr (.inl g)))] (CW dA kx)) H := hP
    replace hD : va_D A (HAppend.hAppend (α := va_W) (β := va_W) (γ := va_W) [(o, .inl (dA 3, 1, .inr (.inl g)))] (CW dA kx)) := hD
    obtain ⟨hcx, hxx, hkx, hrx⟩ := hpx
    refine vx_widen (k := 2) (n := 12) (Nat.le_of_ble_eq_true rfl) (Nat.le_of_ble_eq_true rfl) ?_
    subst hkx
    subst hBE
    refine vx_catch (own := RL) (name := "java/lang/IndexOutOfBoundsException") (E := "java/lang/IndexOutOfBoundsException") hown [] ⟨0, 10, 13, 21⟩ [] htb (fun _ h9 => absurd h9 List.not_mem_nil) rfl (by decide) (hts _ q702) (va_Nw.use rfl (znC_3 hZ.1)) hce hcv hcl ?_
    refine W.eq (g2 := F0 m 13 ls [.ref q9]) rfl ?_
    refine lv_astore (lv' := [(4, .ref q9), (0, .ref (c9.xa 0)), (1, .int p0), (2, .int p1), (3, .ref o)]) hx hb dL_turned_13 hl (by decide) rfl (fun ls hl => ?_)
    refine lv_iconst (v := 1) hx hb dL_turned_15 (by decide) ?_
    refine W.widen (k := 2) (n := 12) (Nat.le_of_ble_eq_true rfl) (Nat.le_of_ble_eq_true rfl) ?_
    refine vx_ret ?_
    have hP9 := va_P.part (X := [(o, .inl (dA 3, 1, .inr (.inl g)))]) (cx := [(o, .inl (dA 3, 1, .inr (.inl g)))]) (pl := (CW dA kx)) hP [0] rfl
    have hD9 := va_D.part (X := [(o, .inl (dA 3, 1, .inr (.inl g)))]) (cx := [(o, .inl (dA 3, 1, .inr (.inl g)))]) (pl := (CW dA kx)) hD [0] (by decide) rfl
    exact W.iret (v := 1) hx hb hr (fun t ht hW => ⟨⟨1, (kx, g), rfl, ⟨hcx, hxx, (hrx.2)⟩, ⟨by rw [ht]; exact hP9, hD9⟩⟩, hS.F ht⟩) hS.2.2 dL_turned_16
  · refine W.widen (k := 2) (n := 12) (Nat.le_of_ble_eq_true rfl) (Nat.le_of_ble_eq_true rfl) ?_
    obtain ⟨r1, rfl⟩ : ∃ z, z = r := ⟨_, rfl⟩
    obtain ⟨u2, rfl⟩ : ∃ z, z = u := ⟨_, rfl⟩
    have hw3 := hw
    clear hw
    obtain ⟨hP1, hD1⟩ := hB
    rw [ht] at hP1
    obtain ⟨hP, hD⟩ := va_joinP (X := [(o, .inl (dA 3, 1, .inr (.inl g)))]) (cx := []) (wr := [(o, .inl (dA 3, 1, .inr (.inl g)))]) (rx := []) (pl := (CW dA c9)) (pl1 := (CW dA u2)) hP hD [] [0] rfl rfl (by decide) (by decide) hk1 hFc hP1 hD1
    generalize H1 = H at hP hS ⊢
    replace hP : va_P D vwCl (HAppend.hAppend (α := va_W) (β := va_W) (γ := va_W) [(o, .inl (dA 3, 1, .inr (.inl g)))] (CW dA u2)) H := hP
    replace hD : va_D A (HAppend.hAppend (α := va_W) (β := va_W) (γ := va_W) [(o, .inl (dA 3, 1, .inr (.inl g)))] (CW dA u2)) := hD
    refine lv_i2l (v := r1.toInt64) hx hb dL_turned_8 rfl ?_
    refine va_last hx hb hK hP hD hS 0 3 rfl rfl (vi_c (by decide)) dL_turned_9 (fun H locs hP hD hS => ?_)
    replace hP : va_P D vwCl (HAppend.hAppend (α := va_W) (β := va_W) (γ := va_W) [(o, .inl (dA 3, 1, .inr (.inl (vp_updL g 0 r1.toInt64))))] (CW dA u2)) H := hP
    replace hD : va_D A (HAppend.hAppend (α := va_W) (β := va_W) (γ := va_W) [(o, .inl (dA 3, 1, .inr (.inl (vp_updL g 0 r1.toInt64))))] (CW dA u2)) := hD
    refine lv_goto (tgt := 17) hx hb dL_turned_10 (by decide) ?_
    refine lv_iconst (v := 0) hx hb dL_turned_17 (by decide) ?_
    refine W.widen (k := 2) (n := 12) (Nat.le_of_ble_eq_true rfl) (Nat.le_of_ble_eq_true rfl) ?_
    refine vx_ret ?_
    have hP9 := va_P.part (X := [(o, .inl (dA 3, 1, .inr (.inl (vp_updL g 0 r1.toInt64))))]) (cx := [(o, .inl (dA 3, 1, .inr (.inl (vp_updL g 0 r1.toInt64))))]) (pl := (CW dA u2)) hP [0] rfl
    have hD9 := va_D.part (X := [(o, .inl (dA 3, 1, .inr (.inl (vp_updL g 0 r1.toInt64))))]) (cx := [(o, .inl (dA 3, 1, .inr (.inl (vp_updL g 0 r1.toInt64))))]) (pl := (CW dA u2)) hD [0] (by decide) rfl
    exact W.iret (v := 0) hx hb hr (fun t ht hW => ⟨⟨0, (u2, vp_updL g 0 r1.toInt64), rfl, ⟨hw3.1, hw3.2.1, (hw3.2.2.2.2)⟩, ⟨by rw [ht]; exact hP9, hD9⟩⟩, hS.F ht⟩) hS.2.2 dL_turned_18

set_option maxHeartbeats 4000000 in
set_option maxRecDepth 100000 in
theorem c_L_removedShare (l : Launch) (hlt : l.stackTraces = false) (D : va_G) (dA : Nat → ClassId) (E : Nat) (c9 : CS) (tn o : Nat) (g : Nat → UInt64) (sz : Nat) (hI : CI E tn c9) (htn : tn ≤ 600) : vx_Met l yL_removedShare (wq (.codeWith yL_removedShare cL_removedShare 3 (some .int) [(0, 8, 11, 117)])) { frames := 7, cells := 1, slots := 6, locals := 103 } (va_Pc [.ref (c9.xa 0), .ref o] (PcB D dA E (HAppend.hAppend (α := va_W) (β := va_W) (γ := va_W) [(o, .inl (dA 4, 1, .inr (.inr (.inr (.inl g)))))] (CW dA c9)) sz)) (va_Qi (fun (r : Int32) (u : CS × (Nat → UInt64)) => CI E (tn + 1) u.1 ∧ u.1.xa = c9.xa ∧ ((u.1.vs = c9.vs) ∧ (u.1.nv = c9.nv) ∧ (u.1.VN = c9.VN))) (fun u t => va_P D vwCl ([(o, .inl (dA 4, 1, .inr (.inr (.inr (.inl u.2)))))] ++ (CW dA u.1)) t.heap ∧ va_D (va_A (HAppend.hAppend (α := va_W) (β := va_W) (γ := va_W) [(o, .inl (dA 4, 1, .inr (.inr (.inr (.inl g)))))] (CW dA c9)) sz) ([(o, .inl (dA 4, 1, .inr (.inr (.inr (.inl u.2)))))] ++ (CW dA u.1))) (va_A (HAppend.hAppend (α := va_W) (β := va_W) (γ := va_W) [(o, .inl (dA 4, 1, .inr (.inr (.inr (.inl g)))))] (CW dA c9)) sz)) (vx_X (fun (k : Nat) => False) (fun E9 k t => E9 = xN k) (va_A (HAppend.hAppend (α := va_W) (β := va_W) (γ := va_W) [(o, .inl (dA 4, 1, .inr (.inr (.inr (.inl g)))))] (CW dA c9)) sz)) 1 6 (va_A (HAppend.hAppend (α := va_W) (β := va_W) (γ := va_W) [(o, .inl (dA 4, 1, .inr (.inr (.inr (.inl g)))))] (CW dA c9)) sz) := by
  refine mh_of (y := yL_removedShare) (av := [.ref (c9.xa 0), .ref o]) (maxL := 3) (Qc := fun A => va_Qi (fun (r : Int32) (u : CS × (Nat → UInt64)) => CI E (tn + 1) u.1 ∧ u.1.xa = c9.xa ∧ ((u.1.vs = c9.vs) ∧ (u.1.nv = c9.nv) ∧ (u.1.VN = c9.VN))) (fun u t => va_P D vwCl ([(o, .inl (dA 4, 1, .inr (.inr (.inr (.inl u.2)))))] ++ (CW dA u.1)) t.heap ∧ va_D A ([(o, .inl (dA 4, 1, .inr (.inr (.inr (.inl u.2)))))] ++ (CW dA u.1))) A) (XC := fun A => vx_X (fun (k : Nat) => False) (fun E9 k t => E9 = xN k) A) RL rfl (by decide) (Nat.le_of_ble_eq_true rfl) ?_
  intro p e s m args below meth c hae hx hb hr hts hown hlocks hml hnm htb hP hK A hAe hD hZ hS hA ls hl
  replace hl : lv_has ls 3 [(0, .ref (c9.xa 0)), (1, .ref o)] := hl
  refine lv_aload_n hx hb dL_removedShare_0 rfl (lv_at hl 1 rfl) ?_
  refine lv_iconst (v := 0) hx hb dL_removedShare_1 (by decide) ?_
  refine lv_aload_n hx hb dL_removedShare_2 rfl (lv_at hl 0 rfl) ?_
  replace hPc := va_P.part (X := [(o, .inl (dA 4, 1, .inr (.inr (.inr (.inl g)))))]) (cx := []) (pl := (CW dA c9)) hP [] rfl
  replace hDc := va_D.part (X := [(o, .inl (dA 4, 1, .inr (.inr (.inr (.inl g)))))]) (cx := []) (pl := (CW dA c9)) hD [] (by decide) rfl
  replace hFc := va_freeP (X := [(o, .inl (dA 4, 1, .inr (.inr (.inr (.inl g)))))]) (cx := []) (pl := (CW dA c9)) hD hS hA [] rfl
  refine vx_callf (vx_runV (As := []) (rest := [.int 0, .ref o]) ⟨hx, hb, hml, hown, hts⟩ (y8_removedShare l hlt D dA E c9 tn s.heap.size  hI htn) (cwV 0 hts (ga_V q811 q812 q809 q346 q810) rfl rfl rfl (by decide +kernel) ⟨(Nat.le_of_ble_eq_true rfl), (Nat.le_of_ble_eq_true rfl)⟩) ⟨pb_blind, va_recv hK hPc (ci := 11) (q0 := 0) rfl rfl, pb_pre hK hPc hDc hZ hS hFc _⟩ rfl rfl hl.1 rfl (lv_room (Nat.le_of_ble_eq_true rfl)) dL_removedShare_3 ⟨(Nat.le_of_ble_eq_true rfl), (Nat.le_of_ble_eq_true rfl)⟩) hS (fun q _ h => hFc q h) hFc (fun q _ h => hFc q h) (fun E9 ce q9 k t H1 locs ht hvm hpx hBX hz1 hk1 hS hce hcv hcl => ?_) (fun r u t H1 locs ht hvm hw hB hz1 hk1 hS => ?_)
  · obtain ⟨k1, kx⟩ := k
    obtain ⟨hBE, hP1, hD1⟩ := hBX
    rw [ht] at hP1
    dsimp only at hpx hBE hP1 hD1
    obtain ⟨hP, hD⟩ := va_joinP (X := [(o, .inl (dA 4, 1, .inr (.inr (.inr (.inl g)))))]) (cx := []) (wr := [(o, .inl (dA 4, 1, .inr (.inr (.inr (.inl g)))))]) (rx := []) (pl := (CW dA c9)) (pl1 := (CW dA kx)) hP hD [] [0] rfl rfl (by decide) (by decide) hk1 hFc hP1 hD1
    generalize H1 = H at hP hS hce ⊢
    replace hP : va_P D vwCl (HAppend.hAppend (α := va_W) (β := va_W) (γ := va_W) [(o, .inl (dA 4, 1, .inr (.inr (.inr (.inl g)))))] (CW dA kx)) H := hP
    replace hD : va_D A (HAppend.hAppend (α := va_W) (β := va_W) (γ := va_W) [(o, .inl (dA 4, 1, .inr (.inr (.inr (.inl g)))))] (CW dA kx)) := hD
    obtain ⟨hcx, hxx, hkx, hrx⟩ := hpx
    refine vx_widen (k := 1) (n := 6) (Nat.le_of_ble_eq_true rfl) (Nat.le_of_ble_eq_true rfl) ?_
    subst hkx
    subst hBE
    refine vx_catch (own := RL) (name := "java/lang/ArithmeticException") (E := "java/lang/ArithmeticException") hown [] ⟨0, 8, 11, 117⟩ [] htb (fun _ h9 => absurd h9 List.not_mem_nil) rfl (by decide) (hts _ q813) (va_Nw.use rfl (znC_5 hZ.1)) hce hcv hcl ?_
    refine W.eq (g2 := F0 m 11 ls [.ref q9]) rfl ?_
    refine lv_astore_n (lv' := [(2, .ref q9), (0, .ref (c9.xa 0)), (1, .ref o)]) hx hb dL_removedShare_11 rfl hl (by decide) rfl (fun ls hl => ?_)
    refine lv_iconst (v := 1) hx hb dL_removedShare_12 (by decide) ?_
    refine W.widen (k := 1) (n := 6) (Nat.le_of_ble_eq_true rfl) (Nat.le_of_ble_eq_true rfl) ?_
    refine vx_ret ?_
    have hP9 := va_P.part (X := [(o, .inl (dA 4, 1, .inr (.inr (.inr (.inl g)))))]) (cx := [(o, .inl (dA 4, 1, .inr (.inr (.inr (.inl g)))))]) (pl := (CW dA kx)) hP [0] rfl
    have hD9 := va_D.part (X := [(o, .inl (dA 4, 1, .inr (.inr (.inr (.inl g)))))]) (cx := [(o, .inl (dA 4, 1, .inr (.inr (.inr (.inl g)))))]) (pl := (CW dA kx)) hD [0] (by decide) rfl
    exact W.iret (v := 1) hx hb hr (fun t ht hW => ⟨⟨1, (kx, g), rfl, ⟨hcx, hxx, (hrx.2)⟩, ⟨by rw [ht]; exact hP9, hD9⟩⟩, hS.F ht⟩) hS.2.2 dL_removedShare_13
  · refine W.widen (k := 1) (n := 6) (Nat.le_of_ble_eq_true rfl) (Nat.le_of_ble_eq_true rfl) ?_
    obtain ⟨r1, rfl⟩ : ∃ z, z = r := ⟨_, rfl⟩
    obtain ⟨u2, rfl⟩ : ∃ z, z = u := ⟨_, rfl⟩
    have hw3 := hw
    clear hw
    obtain ⟨hP1, hD1⟩ := hB
    rw [ht] at hP1
    obtain ⟨hP, hD⟩ := va_joinP (X := [(o, .inl (dA 4, 1, .inr (.inr (.inr (.inl g)))))]) (cx := []) (wr := [(o, .inl (dA 4, 1, .inr (.inr (.inr (.inl g)))))]) (rx := []) (pl := (CW dA c9)) (pl1 := (CW dA u2)) hP hD [] [0] rfl rfl (by decide) (by decide) hk1 hFc hP1 hD1
    generalize H1 = H at hP hS ⊢
    replace hP : va_P D vwCl (HAppend.hAppend (α := va_W) (β := va_W) (γ := va_W) [(o, .inl (dA 4, 1, .inr (.inr (.inr (.inl g)))))] (CW dA u2)) H := hP
    replace hD : va_D A (HAppend.hAppend (α := va_W) (β := va_W) (γ := va_W) [(o, .inl (dA 4, 1, .inr (.inr (.inr (.inl g)))))] (CW dA u2)) := hD
    obtain ⟨hrl, R9, A9, hR9, hA9, hA0, rfl⟩ := hw3.2.2
    refine lv_f2d hx hb dL_removedShare_6 (f2d_ok (fdn_ok _ hR9 _ hA9 hA0)) ?_
    refine va_dast hx hb hK hP hD hS 0 4 rfl rfl (vi_c (by decide)) dL_removedShare_7 (fun H locs hP hD hS => ?_)
    replace hP : va_P D vwCl (HAppend.hAppend (α := va_W) (β := va_W) (γ := va_W) [(o, .inl (dA 4, 1, .inr (.inr (.inr (.inl (vf_upd g 0 (FP.f2d (FP.fdiv (FP.i2f (nI R9)) (FP.i2f (nI A9))))))))))] (CW dA u2)) H := hP
    replace hD : va_D A (HAppend.hAppend (α := va_W) (β := va_W) (γ := va_W) [(o, .inl (dA 4, 1, .inr (.inr (.inr (.inl (vf_upd g 0 (FP.f2d (FP.fdiv (FP.i2f (nI R9)) (FP.i2f (nI A9))))))))))] (CW dA u2)) := hD
    refine lv_goto (tgt := 14) hx hb dL_removedShare_8 (by decide) ?_
    refine lv_iconst (v := 0) hx hb dL_removedShare_14 (by decide) ?_
    refine W.widen (k := 1) (n := 6) (Nat.le_of_ble_eq_true rfl) (Nat.le_of_ble_eq_true rfl) ?_
    refine vx_ret ?_
    have hP9 := va_P.part (X := [(o, .inl (dA 4, 1, .inr (.inr (.inr (.inl (vf_upd g 0 (FP.f2d (FP.fdiv (FP.i2f (nI R9)) (FP.i2f (nI A9))))))))))]) (cx := [(o, .inl (dA 4, 1, .inr (.inr (.inr (.inl (vf_upd g 0 (FP.f2d (FP.fdiv (FP.i2f (nI R9)) (FP.i2f (nI A9))))))))))]) (pl := (CW dA u2)) hP [0] rfl
    have hD9 := va_D.part (X := [(o, .inl (dA 4, 1, .inr (.inr (.inr (.inl (vf_upd g 0 (FP.f2d (FP.fdiv (FP.i2f (nI R9)) (FP.i2f (nI A9))))))))))]) (cx := [(o, .inl (dA 4, 1, .inr (.inr (.inr (.inl (vf_upd g 0 (FP.f2d (FP.fdiv (FP.i2f (nI R9)) (FP.i2f (nI A9))))))))))]) (pl := (CW dA u2)) hD [0] (by decide) rfl
    exact W.iret (v := 0) hx hb hr (fun t ht hW => ⟨⟨0, (u2, vf_upd g 0 (FP.f2d (FP.fdiv (FP.i2f (nI R9)) (FP.i2f (nI A9))))), rfl, ⟨hw3.1, hw3.2.1, (hrl.2.2)⟩, ⟨by rw [ht]; exact hP9, hD9⟩⟩, hS.F ht⟩) hS.2.2 dL_removedShare_15

set_option maxHeartbeats 4000000 in
set_option maxRecDepth 100000 in
theorem c_L_meanLength (l : Launch) (hlt : l.stackTraces = false) (D : va_G) (dA : Nat → ClassId) (E : Nat) (c9 : CS) (tn o : Nat) (g : Nat → UInt64) (p0 : Int32) (sz : Nat) (hI : CI E tn c9) (htn : tn ≤ 600) : vx_Met l yL_meanLength (wq (.codeWith yL_meanLength cL_meanLength 4 (some .int) [(0, 8, 11, 21), (0, 8, 14, 117)])) { frames := 8, cells := 2, slots := 12, locals := 132 } (va_Pc [.ref (c9.xa 0), .int p0, .ref o] (PcB D dA E (HAppend.hAppend (α := va_W) (β := va_W) (γ := va_W) [(o, .inl (dA 4, 1, .inr (.inr (.inr (.inl g)))))] (CW dA c9)) sz)) (va_Qi (fun (r : Int32) (u : CS × (Nat → UInt64)) => CI E (tn + 1) u.1 ∧ u.1.xa = c9.xa ∧ ((u.1.vs = c9.vs) ∧ (u.1.nv = c9.nv) ∧ (u.1.VN = c9.VN))) (fun u t => va_P D vwCl ([(o, .inl (dA 4, 1, .inr (.inr (.inr (.inl u.2)))))] ++ (CW dA u.1)) t.heap ∧ va_D (va_A (HAppend.hAppend (α := va_W) (β := va_W) (γ := va_W) [(o, .inl (dA 4, 1, .inr (.inr (.inr (.inl g)))))] (CW dA c9)) sz) ([(o, .inl (dA 4, 1, .inr (.inr (.inr (.inl u.2)))))] ++ (CW dA u.1))) (va_A (HAppend.hAppend (α := va_W) (β := va_W) (γ := va_W) [(o, .inl (dA 4, 1, .inr (.inr (.inr (.inl g)))))] (CW dA c9)) sz)) (vx_X (fun (k : Nat) => False) (fun E9 k t => E9 = xN k) (va_A (HAppend.hAppend (α := va_W) (β := va_W) (γ := va_W) [(o, .inl (dA 4, 1, .inr (.inr (.inr (.inl g)))))] (CW dA c9)) sz)) 2 12 (va_A (HAppend.hAppend (α := va_W) (β := va_W) (γ := va_W) [(o, .inl (dA 4, 1, .inr (.inr (.inr (.inl g)))))] (CW dA c9)) sz) := by
  refine mh_of (y := yL_meanLength) (av := [.ref (c9.xa 0), .int p0, .ref o]) (maxL := 4) (Qc := fun A => va_Qi (fun (r : Int32) (u : CS × (Nat → UInt64)) => CI E (tn + 1) u.1 ∧ u.1.xa = c9.xa ∧ ((u.1.vs = c9.vs) ∧ (u.1.nv = c9.nv) ∧ (u.1.VN = c9.VN))) (fun u t => va_P D vwCl ([(o, .inl (dA 4, 1, .inr (.inr (.inr (.inl u.2)))))] ++ (CW dA u.1)) t.heap ∧ va_D A ([(o, .inl (dA 4, 1, .inr (.inr (.inr (.inl u.2)))))] ++ (CW dA u.1))) A) (XC := fun A => vx_X (fun (k : Nat) => False) (fun E9 k t => E9 = xN k) A) RL rfl (by decide) (Nat.le_of_ble_eq_true rfl) ?_
  intro p e s m args below meth c hae hx hb hr hts hown hlocks hml hnm htb hP hK A hAe hD hZ hS hA ls hl
  replace hl : lv_has ls 4 [(0, .ref (c9.xa 0)), (1, .int p0), (2, .ref o)] := hl
  refine lv_aload_n hx hb dL_meanLength_0 rfl (lv_at hl 2 rfl) ?_
  refine lv_iconst (v := 0) hx hb dL_meanLength_1 (by decide) ?_
  refine lv_aload_n hx hb dL_meanLength_2 rfl (lv_at hl 0 rfl) ?_
  refine lv_iload_n hx hb dL_meanLength_3 rfl (lv_at hl 1 rfl) ?_
  replace hPc := va_P.part (X := [(o, .inl (dA 4, 1, .inr (.inr (.inr (.inl g)))))]) (cx := []) (pl := (CW dA c9)) hP [] rfl
  replace hDc := va_D.part (X := [(o, .inl (dA 4, 1, .inr (.inr (.inr (.inl g)))))]) (cx := []) (pl := (CW dA c9)) hD [] (by decide) rfl
  replace hFc := va_freeP (X := [(o, .inl (dA 4, 1, .inr (.inr (.inr (.inl g)))))]) (cx := []) (pl := (CW dA c9)) hD hS hA [] rfl
  refine vx_calld (vx_runV (As := [.int p0]) (rest := [.int 0, .ref o]) ⟨hx, hb, hml, hown, hts⟩ (y8_meanLength l hlt D dA E c9 tn p0 s.heap.size  hI htn) (cwV 1 hts (ga_V q816 q817 q814 q346 q815) rfl rfl rfl (by decide +kernel) ⟨(Nat.le_of_ble_eq_true rfl), (Nat.le_of_ble_eq_true rfl)⟩) ⟨pb_blind, va_recv hK hPc (ci := 11) (q0 := 0) rfl rfl, pb_pre hK hPc hDc hZ hS hFc _⟩ rfl rfl hl.1 rfl (lv_room (Nat.le_of_ble_eq_true rfl)) dL_meanLength_4 ⟨(Nat.le_of_ble_eq_true rfl), (Nat.le_of_ble_eq_true rfl)⟩) hS (fun q _ h => hFc q h) hFc (fun q _ h => hFc q h) (fun E9 ce q9 k t H1 locs ht hvm hpx hBX hz1 hk1 hS hce hcv hcl => ?_) (fun r u t H1 locs ht hvm hw hB hz1 hk1 hS => ?_)
  · obtain ⟨k1, kx⟩ := k
    obtain ⟨hBE, hP1, hD1⟩ := hBX
    rw [ht] at hP1
    dsimp only at hpx hBE hP1 hD1
    obtain ⟨hP, hD⟩ := va_joinP (X := [(o, .inl (dA 4, 1, .inr (.inr (.inr (.inl g)))))]) (cx := []) (wr := [(o, .inl (dA 4, 1, .inr (.inr (.inr (.inl g)))))]) (rx := []) (pl := (CW dA c9)) (pl1 := (CW dA kx)) hP hD [] [0] rfl rfl (by decide) (by decide) hk1 hFc hP1 hD1
    generalize H1 = H at hP hS hce ⊢
    replace hP : va_P D vwCl (HAppend.hAppend (α := va_W) (β := va_W) (γ := va_W) [(o, .inl (dA 4, 1, .inr (.inr (.inr (.inl g)))))] (CW dA kx)) H := hP
    replace hD : va_D A (HAppend.hAppend (α := va_W) (β := va_W) (γ := va_W) [(o, .inl (dA 4, 1, .inr (.inr (.inr (.inl g)))))] (CW dA kx)) := hD
    obtain ⟨hcx, hxx, hkx, hrx⟩ := hpx
    refine vx_widen (k := 2) (n := 12) (Nat.le_of_ble_eq_true rfl) (Nat.le_of_ble_eq_true rfl) ?_
    rcases hkx with rfl | rfl
    · subst hBE
      refine vx_catch (own := RL) (name := "java/lang/IndexOutOfBoundsException") (E := "java/lang/IndexOutOfBoundsException") hown [] ⟨0, 8, 11, 21⟩ [⟨0, 8, 14, 117⟩] htb (fun _ h9 => absurd h9 List.not_mem_nil) rfl (by decide) (hts _ q702) (va_Nw.use rfl (znC_3 hZ.1)) hce hcv hcl ?_
      refine W.eq (g2 := F0 m 11 ls [.ref q9]) rfl ?_
      refine lv_astore_n (lv' := [(3, .ref q9), (0, .ref (c9.xa 0)), (1, .int p0), (2, .ref o)]) hx hb dL_meanLength_11 rfl hl (by decide) rfl (fun ls hl => ?_)
      refine lv_iconst (v := 1) hx hb dL_meanLength_12 (by decide) ?_
      refine W.widen (k := 2) (n := 12) (Nat.le_of_ble_eq_true rfl) (Nat.le_of_ble_eq_true rfl) ?_
      refine vx_ret ?_
      have hP9 := va_P.part (X := [(o, .inl (dA 4, 1, .inr (.inr (.inr (.inl g)))))]) (cx := [(o, .inl (dA 4, 1, .inr (.inr (.inr (.inl g)))))]) (pl := (CW dA kx)) hP [0] rfl
      have hD9 := va_D.part (X := [(o, .inl (dA 4, 1, .inr (.inr (.inr (.inl g)))))]) (cx := [(o, .inl (dA 4, 1, .inr (.inr (.inr (.inl g)))))]) (pl := (CW dA kx)) hD [0] (by decide) rfl
      exact W.iret (v := 1) hx hb hr (fun t ht hW => ⟨⟨1, (kx, g), rfl, ⟨hcx, hxx, (hrx.2)⟩, ⟨by rw [ht]; exact hP9, hD9⟩⟩, hS.F ht⟩) hS.2.2 dL_meanLength_13
    · subst hBE
      refine vx_catch (own := RL) (name := "java/lang/ArithmeticException") (E := "java/lang/ArithmeticException") hown [⟨0, 8, 11, 21⟩] ⟨0, 8, 14, 117⟩ [] htb (List.forall_mem_cons.mpr ⟨Or.inr ⟨by decide, "java/lang/IndexOutOfBoundsException", hts _ q702, (znN_11 hZ.1)⟩, (fun _ h9 => absurd h9 List.not_mem_nil)⟩) rfl (by decide) (hts _ q813) (va_Nw.use rfl (znC_5 hZ.1)) hce hcv hcl ?_
      refine W.eq (g2 := F0 m 14 ls [.ref q9]) rfl ?_
      refine lv_astore_n (lv' := [(3, .ref q9), (0, .ref (c9.xa 0)), (1, .int p0), (2, .ref o)]) hx hb dL_meanLength_14 rfl hl (by decide) rfl (fun ls hl => ?_)
      refine lv_iconst (v := 2) hx hb dL_meanLength_15 (by decide) ?_
      refine W.widen (k := 2) (n := 12) (Nat.le_of_ble_eq_true rfl) (Nat.le_of_ble_eq_true rfl) ?_
      refine vx_ret ?_
      have hP9 := va_P.part (X := [(o, .inl (dA 4, 1, .inr (.inr (.inr (.inl g)))))]) (cx := [(o, .inl (dA 4, 1, .inr (.inr (.inr (.inl g)))))]) (pl := (CW dA kx)) hP [0] rfl
      have hD9 := va_D.part (X := [(o, .inl (dA 4, 1, .inr (.inr (.inr (.inl g)))))]) (cx := [(o, .inl (dA 4, 1, .inr (.inr (.inr (.inl g)))))]) (pl := (CW dA kx)) hD [0] (by decide) rfl
      exact W.iret (v := 2) hx hb hr (fun t ht hW => ⟨⟨2, (kx, g), rfl, ⟨hcx, hxx, (hrx.2)⟩, ⟨by rw [ht]; exact hP9, hD9⟩⟩, hS.F ht⟩) hS.2.2 dL_meanLength_16
  · refine W.widen (k := 2) (n := 12) (Nat.le_of_ble_eq_true rfl) (Nat.le_of_ble_eq_true rfl) ?_
    obtain ⟨r1, rfl⟩ : ∃ z, z = r := ⟨_, rfl⟩
    obtain ⟨u2, rfl⟩ : ∃ z, z = u := ⟨_, rfl⟩
    have hw3 := hw
    clear hw
    obtain ⟨hP1, hD1⟩ := hB
    rw [ht] at hP1
    obtain ⟨hP, hD⟩ := va_joinP (X := [(o, .inl (dA 4, 1, .inr (.inr (.inr (.inl g)))))]) (cx := []) (wr := [(o, .inl (dA 4, 1, .inr (.inr (.inr (.inl g)))))]) (rx := []) (pl := (CW dA c9)) (pl1 := (CW dA u2)) hP hD [] [0] rfl rfl (by decide) (by decide) hk1 hFc hP1 hD1
    generalize H1 = H at hP hS ⊢
    replace hP : va_P D vwCl (HAppend.hAppend (α := va_W) (β := va_W) (γ := va_W) [(o, .inl (dA 4, 1, .inr (.inr (.inr (.inl g)))))] (CW dA u2)) H := hP
    replace hD : va_D A (HAppend.hAppend (α := va_W) (β := va_W) (γ := va_W) [(o, .inl (dA 4, 1, .inr (.inr (.inr (.inl g)))))] (CW dA u2)) := hD
    refine va_dast hx hb hK hP hD hS 0 4 rfl rfl (vi_c (by decide)) dL_meanLength_7 (fun H locs hP hD hS => ?_)
    replace hP : va_P D vwCl (HAppend.hAppend (α := va_W) (β := va_W) (γ := va_W) [(o, .inl (dA 4, 1, .inr (.inr (.inr (.inl (vf_upd g 0 r1))))))] (CW dA u2)) H := hP
    replace hD : va_D A (HAppend.hAppend (α := va_W) (β := va_W) (γ := va_W) [(o, .inl (dA 4, 1, .inr (.inr (.inr (.inl (vf_upd g 0 r1))))))] (CW dA u2)) := hD
    refine lv_goto (tgt := 17) hx hb dL_meanLength_8 (by decide) ?_
    refine lv_iconst (v := 0) hx hb dL_meanLength_17 (by decide) ?_
    refine W.widen (k := 2) (n := 12) (Nat.le_of_ble_eq_true rfl) (Nat.le_of_ble_eq_true rfl) ?_
    refine vx_ret ?_
    have hP9 := va_P.part (X := [(o, .inl (dA 4, 1, .inr (.inr (.inr (.inl (vf_upd g 0 r1))))))]) (cx := [(o, .inl (dA 4, 1, .inr (.inr (.inr (.inl (vf_upd g 0 r1))))))]) (pl := (CW dA u2)) hP [0] rfl
    have hD9 := va_D.part (X := [(o, .inl (dA 4, 1, .inr (.inr (.inr (.inl (vf_upd g 0 r1))))))]) (cx := [(o, .inl (dA 4, 1, .inr (.inr (.inr (.inl (vf_upd g 0 r1))))))]) (pl := (CW dA u2)) hD [0] (by decide) rfl
    exact W.iret (v := 0) hx hb hr (fun t ht hW => ⟨⟨0, (u2, vf_upd g 0 r1), rfl, ⟨hw3.1, hw3.2.1, (hw3.2.2.2.2)⟩, ⟨by rw [ht]; exact hP9, hD9⟩⟩, hS.F ht⟩) hS.2.2 dL_meanLength_18

set_option maxHeartbeats 4000000 in
set_option maxRecDepth 100000 in
theorem c_L_close (l : Launch) (hlt : l.stackTraces = false) (D : va_G) (dA : Nat → ClassId) (E : Nat) (c9 : CS) (tn o : Nat) (g : Nat → Int64) (sz : Nat) (hI : CI E tn c9) (htn : tn ≤ 600) : vx_Met l yL_close (wq (.codeWith yL_close cL_close 3 (some .int) [(0, 8, 11, 15)])) { frames := 8, cells := 1, slots := 33, locals := 183 } (va_Pc [.ref (c9.xa 0), .ref o] (PcB D dA E (HAppend.hAppend (α := va_W) (β := va_W) (γ := va_W) [(o, .inl (dA 3, 1, .inr (.inl g)))] (CW dA c9)) sz)) (va_Qi (fun (r : Int32) (u : CS × (Nat → Int64)) => CI E (tn + 1) u.1 ∧ u.1.xa = c9.xa ∧ ((u.1.vs = c9.vs) ∧ (u.1.nv = c9.nv) ∧ (u.1.VN = c9.VN))) (fun u t => va_P D vwCl ([(o, .inl (dA 3, 1, .inr (.inl u.2)))] ++ (CW dA u.1)) t.heap ∧ va_D (va_A (HAppend.hAppend (α := va_W) (β := va_W) (γ := va_W) [(o, .inl (dA 3, 1, .inr (.inl g)))] (CW dA c9)) sz) ([(o, .inl (dA 3, 1, .inr (.inl u.2)))] ++ (CW dA u.1))) (va_A (HAppend.hAppend (α := va_W) (β := va_W) (γ := va_W) [(o, .inl (dA 3, 1, .inr (.inl g)))] (CW dA c9)) sz)) (vx_X (fun (k : Nat) => False) (fun E9 k t => E9 = xN k) (va_A (HAppend.hAppend (α := va_W) (β := va_W) (γ := va_W) [(o, .inl (dA 3, 1, .inr (.inl g)))] (CW dA c9)) sz)) 1 33 (va_A (HAppend.hAppend (α := va_W) (β := va_W) (γ := va_W) [(o, .inl (dA 3, 1, .inr (.inl g)))] (CW dA c9)) sz) := by
  refine mh_of (y := yL_close) (av := [.ref (c9.xa 0), .ref o]) (maxL := 3) (Qc := fun A => va_Qi (fun (r : Int32) (u : CS × (Nat → Int64)) => CI E (tn + 1) u.1 ∧ u.1.xa = c9.xa ∧ ((u.1.vs = c9.vs) ∧ (u.1.nv = c9.nv) ∧ (u.1.VN = c9.VN))) (fun u t => va_P D vwCl ([(o, .inl (dA 3, 1, .inr (.inl u.2)))] ++ (CW dA u.1)) t.heap ∧ va_D A ([(o, .inl (dA 3, 1, .inr (.inl u.2)))] ++ (CW dA u.1))) A) (XC := fun A => vx_X (fun (k : Nat) => False) (fun E9 k t => E9 = xN k) A) RL rfl (by decide) (Nat.le_of_ble_eq_true rfl) ?_
  intro p e s m args below meth c hae hx hb hr hts hown hlocks hml hnm htb hP hK A hAe hD hZ hS hA ls hl
  replace hl : lv_has ls 3 [(0, .ref (c9.xa 0)), (1, .ref o)] := hl
  refine lv_aload_n hx hb dL_close_0 rfl (lv_at hl 1 rfl) ?_
  refine lv_iconst (v := 0) hx hb dL_close_1 (by decide) ?_
  refine lv_aload_n hx hb dL_close_2 rfl (lv_at hl 0 rfl) ?_
  replace hPc := va_P.part (X := [(o, .inl (dA 3, 1, .inr (.inl g)))]) (cx := []) (pl := (CW dA c9)) hP [] rfl
  replace hDc := va_D.part (X := [(o, .inl (dA 3, 1, .inr (.inl g)))]) (cx := []) (pl := (CW dA c9)) hD [] (by decide) rfl
  replace hFc := va_freeP (X := [(o, .inl (dA 3, 1, .inr (.inl g)))]) (cx := []) (pl := (CW dA c9)) hD hS hA [] rfl
  refine vx_calli (vx_runV (As := []) (rest := [.int 0, .ref o]) ⟨hx, hb, hml, hown, hts⟩ (y8_close l hlt D dA E c9 tn s.heap.size  hI htn) (cwV 0 hts (ga_V q820 q821 q818 q346 q819) rfl rfl rfl (by decide +kernel) ⟨(Nat.le_of_ble_eq_true rfl), (Nat.le_of_ble_eq_true rfl)⟩) ⟨pb_blind, va_recv hK hPc (ci := 11) (q0 := 0) rfl rfl, pb_pre hK hPc hDc hZ hS hFc _⟩ rfl rfl hl.1 rfl (lv_room (Nat.le_of_ble_eq_true rfl)) dL_close_3 ⟨(Nat.le_of_ble_eq_true rfl), (Nat.le_of_ble_eq_true rfl)⟩) hS (fun q _ h => hFc q h) hFc (fun q _ h => hFc q h) (fun E9 ce q9 k t H1 locs ht hvm hpx hBX hz1 hk1 hS hce hcv hcl => ?_) (fun r u t H1 locs ht hvm hw hB hz1 hk1 hS => ?_)
  · obtain ⟨k1, kx⟩ := k
    obtain ⟨hBE, hP1, hD1⟩ := hBX
    rw [ht] at hP1
    dsimp only at hpx hBE hP1 hD1
    obtain ⟨hP, hD⟩ := va_joinP (X := [(o, .inl (dA 3, 1, .inr (.inl g)))]) (cx := []) (wr := [(o, .inl (dA 3, 1, .inr (.inl g)))]) (rx := []) (pl := (CW dA c9)) (pl1 := (CW dA kx)) hP hD [] [0] rfl rfl (by decide) (by decide) hk1 hFc hP1 hD1
    generalize H1 = H at hP hS hce ⊢
    replace hP : va_P D vwCl (HAppend.hAppend (α := va_W) (β := va_W) (γ := va_W) [(o, .inl (dA 3, 1, .inr (.inl g)))] (CW dA kx)) H := hP
    replace hD : va_D A (HAppend.hAppend (α := va_W) (β := va_W) (γ := va_W) [(o, .inl (dA 3, 1, .inr (.inl g)))] (CW dA kx)) := hD
    obtain ⟨hcx, hxx, hkx, hrx⟩ := hpx
    refine vx_widen (k := 1) (n := 33) (Nat.le_of_ble_eq_true rfl) (Nat.le_of_ble_eq_true rfl) ?_
    subst hkx
    subst hBE
    refine vx_catch (own := RL) (name := "java/lang/IllegalStateException") (E := "java/lang/IllegalStateException") hown [] ⟨0, 8, 11, 15⟩ [] htb (fun _ h9 => absurd h9 List.not_mem_nil) rfl (by decide) (hts _ q719) (va_Nw.use rfl (znC_1 hZ.1)) hce hcv hcl ?_
    refine W.eq (g2 := F0 m 11 ls [.ref q9]) rfl ?_
    refine lv_astore_n (lv' := [(2, .ref q9), (0, .ref (c9.xa 0)), (1, .ref o)]) hx hb dL_close_11 rfl hl (by decide) rfl (fun ls hl => ?_)
    refine lv_iconst (v := 1) hx hb dL_close_12 (by decide) ?_
    refine W.widen (k := 1) (n := 33) (Nat.le_of_ble_eq_true rfl) (Nat.le_of_ble_eq_true rfl) ?_
    refine vx_ret ?_
    have hP9 := va_P.part (X := [(o, .inl (dA 3, 1, .inr (.inl g)))]) (cx := [(o, .inl (dA 3, 1, .inr (.inl g)))]) (pl := (CW dA kx)) hP [0] rfl
    have hD9 := va_D.part (X := [(o, .inl (dA 3, 1, .inr (.inl g)))]) (cx := [(o, .inl (dA 3, 1, .inr (.inl g)))]) (pl := (CW dA kx)) hD [0] (by decide) rfl
    exact W.iret (v := 1) hx hb hr (fun t ht hW => ⟨⟨1, (kx, g), rfl, ⟨hcx, hxx, (hrx.2)⟩, ⟨by rw [ht]; exact hP9, hD9⟩⟩, hS.F ht⟩) hS.2.2 dL_close_13
  · refine W.widen (k := 1) (n := 33) (Nat.le_of_ble_eq_true rfl) (Nat.le_of_ble_eq_true rfl) ?_
    obtain ⟨r1, rfl⟩ : ∃ z, z = r := ⟨_, rfl⟩
    obtain ⟨u2, rfl⟩ : ∃ z, z = u := ⟨_, rfl⟩
    have hw3 := hw
    clear hw
    obtain ⟨hP1, hD1⟩ := hB
    rw [ht] at hP1
    obtain ⟨hP, hD⟩ := va_joinP (X := [(o, .inl (dA 3, 1, .inr (.inl g)))]) (cx := []) (wr := [(o, .inl (dA 3, 1, .inr (.inl g)))]) (rx := []) (pl := (CW dA c9)) (pl1 := (CW dA u2)) hP hD [] [0] rfl rfl (by decide) (by decide) hk1 hFc hP1 hD1
    generalize H1 = H at hP hS ⊢
    replace hP : va_P D vwCl (HAppend.hAppend (α := va_W) (β := va_W) (γ := va_W) [(o, .inl (dA 3, 1, .inr (.inl g)))] (CW dA u2)) H := hP
    replace hD : va_D A (HAppend.hAppend (α := va_W) (β := va_W) (γ := va_W) [(o, .inl (dA 3, 1, .inr (.inl g)))] (CW dA u2)) := hD
    refine lv_i2l (v := r1.toInt64) hx hb dL_close_6 rfl ?_
    refine va_last hx hb hK hP hD hS 0 3 rfl rfl (vi_c (by decide)) dL_close_7 (fun H locs hP hD hS => ?_)
    replace hP : va_P D vwCl (HAppend.hAppend (α := va_W) (β := va_W) (γ := va_W) [(o, .inl (dA 3, 1, .inr (.inl (vp_updL g 0 r1.toInt64))))] (CW dA u2)) H := hP
    replace hD : va_D A (HAppend.hAppend (α := va_W) (β := va_W) (γ := va_W) [(o, .inl (dA 3, 1, .inr (.inl (vp_updL g 0 r1.toInt64))))] (CW dA u2)) := hD
    refine lv_goto (tgt := 14) hx hb dL_close_8 (by decide) ?_
    refine lv_iconst (v := 0) hx hb dL_close_14 (by decide) ?_
    refine W.widen (k := 1) (n := 33) (Nat.le_of_ble_eq_true rfl) (Nat.le_of_ble_eq_true rfl) ?_
    refine vx_ret ?_
    have hP9 := va_P.part (X := [(o, .inl (dA 3, 1, .inr (.inl (vp_updL g 0 r1.toInt64))))]) (cx := [(o, .inl (dA 3, 1, .inr (.inl (vp_updL g 0 r1.toInt64))))]) (pl := (CW dA u2)) hP [0] rfl
    have hD9 := va_D.part (X := [(o, .inl (dA 3, 1, .inr (.inl (vp_updL g 0 r1.toInt64))))]) (cx := [(o, .inl (dA 3, 1, .inr (.inl (vp_updL g 0 r1.toInt64))))]) (pl := (CW dA u2)) hD [0] (by decide) rfl
    exact W.iret (v := 0) hx hb hr (fun t ht hW => ⟨⟨0, (u2, vp_updL g 0 r1.toInt64), rfl, ⟨hw3.1, hw3.2.1, (hw3.2.2.2.2)⟩, ⟨by rw [ht]; exact hP9, hD9⟩⟩, hS.F ht⟩) hS.2.2 dL_close_15
