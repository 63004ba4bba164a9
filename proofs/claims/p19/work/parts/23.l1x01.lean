/-! CONTRACTS, general -/
set_option maxHeartbeats 4000000 in
set_option maxRecDepth 100000 in
theorem c_L_state (l : Launch) (hlt : l.stackTraces = false) (D : va_G) (dA : Nat → ClassId) (E : Nat) (c9 : CS) (tn o : Nat) (g : Nat → Int64) (p0 : Int32) (sz : Nat) (hI : CI E tn c9) (htn : tn ≤ 600) : vx_Met l yL_state (wq (.codeWith yL_state cL_state 4 (some .int) [(0, 9, 12, 21)])) { frames := 8, cells := 1, slots := 6, locals := 124 } (va_Pc [.ref (c9.xa 0), .int p0, .ref o] (PcB D dA E (HAppend.hAppend (α := va_W) (β := va_W) (γ := va_W) [(o, .inl (dA 3, 1, .inr (.inl g)))] (CW dA c9)) sz)) (va_Qi (fun (r : Int32) (u : CS × (Nat → Int64)) => CI E (tn + 1) u.1 ∧ u.1.xa = c9.xa ∧ ((u.1.vs = c9.vs) ∧ (u.1.nv = c9.nv) ∧ (u.1.VN = c9.VN))) (fun u t => va_P D vwCl ([(o, .inl (dA 3, 1, .inr (.inl u.2)))] ++ (CW dA u.1)) t.heap ∧ va_D (va_A (HAppend.hAppend (α := va_W) (β := va_W) (γ := va_W) [(o, .inl (dA 3, 1, .inr (.inl g)))] (CW dA c9)) sz) ([(o, .inl (dA 3, 1, .inr (.inl u.2)))] ++ (CW dA u.1))) (va_A (HAppend.hAppend (α := va_W) (β := va_W) (γ := va_W) [(o, .inl (dA 3, 1, .inr (.inl g)))] (CW dA c9)) sz)) (vx_X (fun (k : Nat) => False) (fun E9 k t => E9 = xN k) (va_A (HAppend.hAppend (α := va_W) (β := va_W) (γ := va_W) [(o, .inl (dA 3, 1, .inr (.inl g)))] (CW dA c9)) sz)) 1 6 (va_A (HAppend.hAppend (α := va_W) (β := va_W) (γ := va_W) [(o, .inl (dA 3, 1, .inr (.inl g)))] (CW dA c9)) sz) := by
  refine mh_of (y := yL_state) (av := [.ref (c9.xa 0), .int p0, .ref o]) (maxL := 4) (Qc := fun A => va_Qi (fun (r : Int32) (u : CS × (Nat → Int64)) => CI E (tn + 1) u.1 ∧ u.1.xa = c9.xa ∧ ((u.1.vs = c9.vs) ∧ (u.1.nv = c9.nv) ∧ (u.1.VN = c9.VN))) (fun u t => va_P D vwCl ([(o, .inl (dA 3, 1, .inr (.inl u.2)))] ++ (CW dA u.1)) t.heap ∧ va_D A ([(o, .inl (dA 3, 1, .inr (.inl u.2)))] ++ (CW dA u.1))) A) (XC := fun A => vx_X (fun (k : Nat) => False) (fun E9 k t => E9 = xN k) A) RL rfl (by decide) (Nat.le_of_ble_eq_true rfl) ?_
  intro p e s m args below meth c hae hx hb hr hts hown hlocks hml hnm htb hP hK A hAe hD hZ hS hA ls hl
  replace hl : lv_has ls 4 [(0, .ref (c9.xa 0)), (1, .int p0), (2, .ref o)] := hl
  refine lv_aload_n hx hb dL_state_0 rfl (lv_at hl 2 rfl) ?_
  refine lv_iconst (v := 0) hx hb dL_state_1 (by decide) ?_
  refine lv_aload_n hx hb dL_state_2 rfl (lv_at hl 0 rfl) ?_
  refine lv_iload_n hx hb dL_state_3 rfl (lv_at hl 1 rfl) ?_
  replace hPc := va_P.part (X := [(o, .inl (dA 3, 1, .inr (.inl g)))]) (cx := []) (pl := (CW dA c9)) hP [] rfl
  replace hDc := va_D.part (X := [(o, .inl (dA 3, 1, .inr (.inl g)))]) (cx := []) (pl := (CW dA c9)) hD [] (by decide) rfl
  replace hFc := va_freeP (X := [(o, .inl (dA 3, 1, .inr (.inl g)))]) (cx := []) (pl := (CW dA c9)) hD hS hA [] rfl
  refine vx_calli (vx_runV (As := [.int p0]) (rest := [.int 0, .ref o]) ⟨hx, hb, hml, hown, hts⟩ (y8_state l hlt D dA E c9 tn p0 s.heap.size  hI htn) (cwV 1 hts (ga_V q713 q714 q711 q346 q712) rfl rfl rfl (by decide +kernel) ⟨(Nat.le_of_ble_eq_true rfl), (Nat.le_of_ble_eq_true rfl)⟩) ⟨pb_blind, va_recv hK hPc (ci := 11) (q0 := 0) rfl rfl, pb_pre hK hPc hDc hZ hS hFc _⟩ rfl rfl hl.1 rfl (lv_room (Nat.le_of_ble_eq_true rfl)) dL_state_4 ⟨(Nat.le_of_ble_eq_true rfl), (Nat.le_of_ble_eq_true rfl)⟩) hS (fun q _ h => hFc q h) hFc (fun q _ h => hFc q h) (fun E9 ce q9 k t H1 locs ht hvm hpx hBX hz1 hk1 hS hce hcv hcl => ?_) (fun r u t H1 locs ht hvm hw hB hz1 hk1 hS => ?_)
  · obtain ⟨k1, kx⟩ := k
    obtain ⟨hBE, hP1, hD1⟩ := hBX
    rw [ht] at hP1
    dsimp only at hpx hBE hP1 hD1
    obtain ⟨hP, hD⟩ := va_joinP (X := [(o, .inl (dA 3, 1, .inr (.inl g)))]) (cx := []) (wr := [(o, .inl (dA 3, 1, .inr (.inl g)))]) (rx := []) (pl := (CW dA c9)) (pl1 := (CW dA kx)) hP hD [] [0] rfl rfl (by decide) (by decide) hk1 hFc hP1 hD1
    generalize H1 = H at hP hS hce ⊢
    replace hP : va_P D vwCl (HAppend.hAppend (α := va_W) (β := va_W) (γ := va_W) [(o, .inl (dA 3, 1, .inr (.inl g)))] (CW dA kx)) H := hP
    replace hD : va_D A (HAppend.hAppend (α := va_W) (β := va_W) (γ := va_W) [(o, .inl (dA 3, 1, .inr (.inl g)))] (CW dA kx)) := hD
    obtain ⟨hcx, hxx, hkx, hrx⟩ := hpx
    refine vx_widen (k := 1) (n := 6) (Nat.le_of_ble_eq_true rfl) (Nat.le_of_ble_eq_true rfl) ?_
    subst hkx
    subst hBE
    refine vx_catch (own := RL) (name := "java/lang/IndexOutOfBoundsException") (E := "java/lang/IndexOutOfBoundsException") hown [] ⟨0, 9, 12, 21⟩ [] htb (fun _ h9 => absurd h9 List.not_mem_nil) rfl (by decide) (hts _ q702) (va_Nw.use rfl (znC_3 hZ.1)) hce hcv hcl ?_
    refine W.eq (g2 := F0 m 12 ls [.ref q9]) rfl ?_
    refine lv_astore_n (lv' := [(3, .ref q9), (0, .ref (c9.xa 0)), (1, .int p0), (2, .ref o)]) hx hb dL_state_12 rfl hl (by decide) rfl (fun ls hl => ?_)
    refine lv_iconst (v := 1) hx hb dL_state_13 (by decide) ?_
    refine W.widen (k := 1) (n := 6) (Nat.le_of_ble_eq_true rfl) (Nat.le_of_ble_eq_true rfl) ?_
    refine vx_ret ?_
    have hP9 := va_P.part (X := [(o, .inl (dA 3, 1, .inr (.inl g)))]) (cx := [(o, .inl (dA 3, 1, .inr (.inl g)))]) (pl := (CW dA kx)) hP [0] rfl
    have hD9 := va_D.part (X := [(o, .inl (dA 3, 1, .inr (.inl g)))]) (cx := [(o, .inl (dA 3, 1, .inr (.inl g)))]) (pl := (CW dA kx)) hD [0] (by decide) rfl
    exact W.iret (v := 1) hx hb hr (fun t ht hW => ⟨⟨1, (kx, g), rfl, ⟨hcx, hxx, (hrx.2)⟩, ⟨by rw [ht]; exact hP9, hD9⟩⟩, hS.F ht⟩) hS.2.2 dL_state_14
  · refine W.widen (k := 1) (n := 6) (Nat.le_of_ble_eq_true rfl) (Nat.le_of_ble_eq_true rfl) ?_
    obtain ⟨r1, rfl⟩ : ∃ z, z = r := ⟨_, rfl⟩
    obtain ⟨u2, rfl⟩ : ∃ z, z = u := ⟨_, rfl⟩
    have hw3 := hw
    clear hw
    obtain ⟨hP1, hD1⟩ := hB
    rw [ht] at hP1
    obtain ⟨hP, hD⟩ := va_joinP (X := [(o, .inl (dA 3, 1, .inr (.inl g)))]) (cx := []) (wr := [(o, .inl (dA 3, 1, .inr (.inl g)))]) (rx := []) (pl := (CW dA c9)) (pl1 := (CW dA u2)) hP hD [] [0] rfl rfl (by decide) (by decide) hk1 hFc hP1 hD1
    generalize H1 = H at hP hS ⊢
    replace hP : va_P D vwCl (HAppend.hAppend (α := va_W) (β := va_W) (γ := va_W) [(o, .inl (dA 3, 1, .inr (.inl g)))] (CW dA u2)) H := hP
    replace hD : va_D A (HAppend.hAppend (α := va_W) (β := va_W) (γ := va_W) [(o, .inl (dA 3, 1, .inr (.inl g)))] (CW dA u2)) := hD
    refine lv_i2l (v := r1.toInt64) hx hb dL_state_7 rfl ?_
    refine va_last hx hb hK hP hD hS 0 3 rfl rfl (vi_c (by decide)) dL_state_8 (fun H locs hP hD hS => ?_)
    replace hP : va_P D vwCl (HAppend.hAppend (α := va_W) (β := va_W) (γ := va_W) [(o, .inl (dA 3, 1, .inr (.inl (vp_updL g 0 r1.toInt64))))] (CW dA u2)) H := hP
    replace hD : va_D A (HAppend.hAppend (α := va_W) (β := va_W) (γ := va_W) [(o, .inl (dA 3, 1, .inr (.inl (vp_updL g 0 r1.toInt64))))] (CW dA u2)) := hD
    refine lv_goto (tgt := 15) hx hb dL_state_9 (by decide) ?_
    refine lv_iconst (v := 0) hx hb dL_state_15 (by decide) ?_
    refine W.widen (k := 1) (n := 6) (Nat.le_of_ble_eq_true rfl) (Nat.le_of_ble_eq_true rfl) ?_
    refine vx_ret ?_
    have hP9 := va_P.part (X := [(o, .inl (dA 3, 1, .inr (.inl (vp_updL g 0 r1.toInt64))))]) (cx := [(o, .inl (dA 3, 1, .inr (.inl (vp_updL g 0 r1.toInt64))))]) (pl := (CW dA u2)) hP [0] rfl
    have hD9 := va_D.part (X := [(o, .inl (dA 3, 1, .inr (.inl (vp_updL g 0 r1.toInt64))))]) (cx := [(o, .inl (dA 3, 1, .inr (.inl (vp_updL g 0 r1.toInt64))))]) (pl := (CW dA u2)) hD [0] (by decide) rfl
    exact W.iret (v := 0) hx hb hr (fun t ht hW => ⟨⟨0, (u2, vp_updL g 0 r1.toInt64), rfl, ⟨hw3.1, hw3.2.1, (hw3.2.2.2.2)⟩, ⟨by rw [ht]; exact hP9, hD9⟩⟩, hS.F ht⟩) hS.2.2 dL_state_16

set_option maxHeartbeats 4000000 in
set_option maxRecDepth 100000 in
theorem c_L_remove (l : Launch) (hlt : l.stackTraces = false) (D : va_G) (dA : Nat → ClassId) (E : Nat) (c9 : CS) (tn o : Nat) (g : Nat → Int64) (p0 : Int32) (sz : Nat) (hI : CI E tn c9) (htn : tn ≤ 600) : vx_Met l yL_remove (wq (.codeWith yL_remove cL_remove 4 (some .int) [(0, 9, 12, 21), (0, 9, 15, 15)])) { frames := 8, cells := 2, slots := 12, locals := 125 } (va_Pc [.ref (c9.xa 0), .int p0, .ref o] (PcB D dA E (HAppend.hAppend (α := va_W) (β := va_W) (γ := va_W) [(o, .inl (dA 3, 1, .inr (.inl g)))] (CW dA c9)) sz)) (va_Qi (fun (r : Int32) (u : CS × (Nat → Int64)) => CI E (tn + 1) u.1 ∧ u.1.xa = c9.xa ∧ ((u.1.vs = c9.vs) ∧ (u.1.nv = c9.nv) ∧ (u.1.VN = c9.VN))) (fun u t => va_P D vwCl ([(o, .inl (dA 3, 1, .inr (.inl u.2)))] ++ (CW dA u.1)) t.heap ∧ va_D (va_A (HAppend.hAppend (α := va_W) (β := va_W) (γ := va_W) [(o, .inl (dA 3, 1, .inr (.inl g)))] (CW dA c9)) sz) ([(o, .inl (dA 3, 1, .inr (.inl u.2)))] ++ (CW dA u.1))) (va_A (HAppend.hAppend (α := va_W) (β := va_W) (γ := va_W) [(o, .inl (dA 3, 1, .inr (.inl g)))] (CW dA c9)) sz)) (vx_X (fun (k : Nat) => False) (fun E9 k t => E9 = xN k) (va_A (HAppend.hAppend (α := va_W) (β := va_W) (γ := va_W) [(o, .inl (dA 3, 1, .inr (.inl g)))] (CW dA c9)) sz)) 2 12 (va_A (HAppend.hAppend (α := va_W) (β := va_W) (γ := va_W) [(o, .inl (dA 3, 1, .inr (.inl g)))] (CW dA c9)) sz) := by
  refine mh_of (y := yL_remove) (av := [.ref (c9.xa 0), .int p0, .ref o]) (maxL := 4) (Qc := fun A => va_Qi (fun (r : Int32) (u : CS × (Nat → Int64)) => CI E (tn + 1) u.1 ∧ u.1.xa = c9.xa ∧ ((u.1.vs = c9.vs) ∧ (u.1.nv = c9.nv) ∧ (u.1.VN = c9.VN))) (fun u t => va_P D vwCl ([(o, .inl (dA 3, 1, .inr (.inl u.2)))] ++ (CW dA u.1)) t.heap ∧ va_D A ([(o, .inl (dA 3, 1, .inr (.inl u.2)))] ++ (CW dA u.1))) A) (XC := fun A => vx_X (fun (k : Nat) => False) (fun E9 k t => E9 = xN k) A) RL rfl (by decide) (Nat.le_of_ble_eq_true rfl) ?_
  intro p e s m args below meth c hae hx hb hr hts hown hlocks hml hnm htb hP hK A hAe hD hZ hS hA ls hl
  replace hl : lv_has ls 4 [(0, .ref (c9.xa 0)), (1, .int p0), (2, .ref o)] := hl
  refine lv_aload_n hx hb dL_remove_0 rfl (lv_at hl 2 rfl) ?_
  refine lv_iconst (v := 0) hx hb dL_remove_1 (by decide) ?_
  refine lv_aload_n hx hb dL_remove_2 rfl (lv_at hl 0 rfl) ?_
  refine lv_iload_n hx hb dL_remove_3 rfl (lv_at hl 1 rfl) ?_
  replace hPc := va_P.part (X := [(o, .inl (dA 3, 1, .inr (.inl g)))]) (cx := []) (pl := (CW dA c9)) hP [] rfl
  replace hDc := va_D.part (X := [(o, .inl (dA 3, 1, .inr (.inl g)))]) (cx := []) (pl := (CW dA c9)) hD [] (by decide) rfl
  replace hFc := va_freeP (X := [(o, .inl (dA 3, 1, .inr (.inl g)))]) (cx := []) (pl := (CW dA c9)) hD hS hA [] rfl
  refine vx_calli (vx_runV (As := [.int p0]) (rest := [.int 0, .ref o]) ⟨hx, hb, hml, hown, hts⟩ (y8_remove l hlt D dA E c9 tn p0 s.heap.size  hI htn) (cwV 1 hts (ga_V q717 q718 q715 q346 q716) rfl rfl rfl (by decide +kernel) ⟨(Nat.le_of_ble_eq_true rfl), (Nat.le_of_ble_eq_true rfl)⟩) ⟨pb_blind, va_recv hK hPc (ci := 11) (q0 := 0) rfl rfl, pb_pre hK hPc hDc hZ hS hFc _⟩ rfl rfl hl.1 rfl (lv_room (Nat.le_of_ble_eq_true rfl)) dL_remove_4 ⟨(Nat.le_of_ble_eq_true rfl), (Nat.le_of_ble_eq_true rfl)⟩) hS (fun q _ h => hFc q h) hFc (fun q _ h => hFc q h) (fun E9 ce q9 k t H1 locs ht hvm hpx hBX hz1 hk1 hS hce hcv hcl => ?_) (fun r u t H1 locs ht hvm hw hB hz1 hk1 hS => ?_)
  · obtain ⟨k1, kx⟩ := k
    obtain ⟨hBE, hP1, hD1⟩ := hBX
    rw [ht] at hP1
    dsimp only at hpx hBE hP1 hD1
    obtain ⟨hP, hD⟩ := va_joinP (X := [(o, .inl (dA 3, 1, .inr (.inl g)))]) (cx := []) (wr := [(o, .inl (dA 3, 1, .inr (.inl g)))]) (rx := []) (pl := (CW dA c9)) (pl1 := (CW dA kx)) hP hD [] [0] rfl rfl (by decide) (by decide) hk1 hFc hP1 hD1
    generalize H1 = H at hP hS hce ⊢
    replace hP : va_P D vwCl (HAppend.hAppend (α := va_W) (β := va_W) (γ := va_W) [(o, .inl (dA 3, 1, .inr (.inl g)))] (CW dA kx)) H := hP
    replace hD : va_D A (HAppend.hAppend (α := va_W) (β := va_W) (γ := va_W) [(o, .inl (dA 3, 1, .inr (.inl g)))] (CW dA kx)) := hD
    obtain ⟨hcx, hxx, hkx, hrx⟩ := hpx
    refine vx_widen (k := 2) (n := 12) (Nat.le_of_ble_eq_true rfl) (Nat.le_of_ble_eq_true rfl) ?_
    rcases hkx with rfl | rfl
    · subst hBE
      refine vx_catch (own := RL) (name := "java/lang/IndexOutOfBoundsException") (E := "java/lang/IndexOutOfBoundsException") hown [] ⟨0, 9, 12, 21⟩ [⟨0, 9, 15, 15⟩] htb (fun _ h9 => absurd h9 List.not_mem_nil) rfl (by decide) (hts _ q702) (va_Nw.use rfl (znC_3 hZ.1)) hce hcv hcl ?_
      refine W.eq (g2 := F0 m 12 ls [.ref q9]) rfl ?_
      refine lv_astore_n (lv' := [(3, .ref q9), (0, .ref (c9.xa 0)), (1, .int p0), (2, .ref o)]) hx hb dL_remove_12 rfl hl (by decide) rfl (fun ls hl => ?_)
      refine lv_iconst (v := 1) hx hb dL_remove_13 (by decide) ?_
      refine W.widen (k := 2) (n := 12) (Nat.le_of_ble_eq_true rfl) (Nat.le_of_ble_eq_true rfl) ?_
      refine vx_ret ?_
      have hP9 := va_P.part (X := [(o, .inl (dA 3, 1, .inr (.inl g)))]) (cx := [(o, .inl (dA 3, 1, .inr (.inl g)))]) (pl := (CW dA kx)) hP [0] rfl
      have hD9 := va_D.part (X := [(o, .inl (dA 3, 1, .inr (.inl g)))]) (cx := [(o, .inl (dA 3, 1, .inr (.inl g)))]) (pl := (CW dA kx)) hD [0] (by decide) rfl
      exact W.iret (v := 1) hx hb hr (fun t ht hW => ⟨⟨1, (kx, g), rfl, ⟨hcx, hxx, (hrx.2)⟩, ⟨by rw [ht]; exact hP9, hD9⟩⟩, hS.F ht⟩) hS.2.2 dL_remove_14
    · subst hBE
      refine vx_catch (own := RL) (name := "java/lang/IllegalStateException") (E := "java/lang/IllegalStateException") hown [⟨0, 9, 12, 21⟩] ⟨0, 9, 15, 15⟩ [] htb (List.forall_mem_cons.mpr ⟨Or.inr ⟨by decide, "java/lang/IndexOutOfBoundsException", hts _ q702, (znN_9 hZ.1)⟩, (fun _ h9 => absurd h9 List.not_mem_nil)⟩) rfl (by decide) (hts _ q719) (va_Nw.use rfl (znC_1 hZ.1)) hce hcv hcl ?_
      refine W.eq (g2 := F0 m 15 ls [.ref q9]) rfl ?_
      refine lv_astore_n (lv' := [(3, .ref q9), (0, .ref (c9.xa 0)), (1, .int p0), (2, .ref o)]) hx hb dL_remove_15 rfl hl (by decide) rfl (fun ls hl => ?_)
      refine lv_iconst (v := 2) hx hb dL_remove_16 (by decide) ?_
      refine W.widen (k := 2) (n := 12) (Nat.le_of_ble_eq_true rfl) (Nat.le_of_ble_eq_true rfl) ?_
      refine vx_ret ?_
      have hP9 := va_P.part (X := [(o, .inl (dA 3, 1, .inr (.inl g)))]) (cx := [(o, .inl (dA 3, 1, .inr (.inl g)))]) (pl := (CW dA kx)) hP [0] rfl
      have hD9 := va_D.part (X := [(o, .inl (dA 3, 1, .inr (.inl g)))]) (cx := [(o, .inl (dA 3, 1, .inr (.inl g)))]) (pl := (CW dA kx)) hD [0] (by decide) rfl
      exact W.iret (v := 2) hx hb hr (fun t ht hW => ⟨⟨2, (kx, g), rfl, ⟨hcx, hxx, (hrx.2)⟩, ⟨by rw [ht]; exact hP9, hD9⟩⟩, hS.F ht⟩) hS.2.2 dL_remove_17
  · refine W.widen (k := 2) (n := 12) (Nat.le_of_ble_eq_true rfl) (Nat.le_of_ble_eq_true rfl) ?_
    obtain ⟨r1, rfl⟩ : ∃ z, z = r := ⟨_, rfl⟩
    obtain ⟨u2, rfl⟩ : ∃ z, z = u := ⟨_, rfl⟩
    have hw3 := hw
    clear hw
    obtain ⟨hP1, hD1⟩ := hB
    rw [ht] at hP1
    obtain ⟨hP, hD⟩ := va_joinP (X := [(o, .inl (dA 3, 1, .inr (.inl g)))]) (cx := []) (wr := [(o, .inl (dA 3, 1, .inr (.inl g)))]) (rx := []) (pl := (CW dA c9)) (pl1 := (CW dA u2)) hP hD [] [0] rfl rfl (by decide) (by decide) hk1 hFc hP1 hD1
    generalize H1 = H at hP hS ⊢
    replace hP : va_P D vwCl (HAppend.hAppend (α := va_W) (β := va_W) (γ := va_W) [(o, .inl (dA 3, 1, .inr (.inl g)))] (CW dA u2)) H := hP
    replace hD : va_D A (HAppend.hAppend (α := va_W) (β := va_W) (γ := va_W) [(o, .inl (dA 3, 1, .inr (.inl g)))] (CW dA u2)) := hD
    refine lv_i2l (v := r1.toInt64) hx hb dL_remove_7 rfl ?_
    refine va_last hx hb hK hP hD hS 0 3 rfl rfl (vi_c (by decide)) dL_remove_8 (fun H locs hP hD hS => ?_)
    replace hP : va_P D vwCl (HAppend.hAppend (α := va_W) (β := va_W) (γ := va_W) [(o, .inl (dA 3, 1, .inr (.inl (vp_updL g 0 r1.toInt64))))] (CW dA u2)) H := hP
    replace hD : va_D A (HAppend.hAppend (α := va_W) (β := va_W) (γ := va_W) [(o, .inl (dA 3, 1, .inr (.inl (vp_updL g 0 r1.toInt64))))] (CW dA u2)) := hD
    refine lv_goto (tgt := 18) hx hb dL_remove_9 (by decide) ?_
    refine lv_iconst (v := 0) hx hb dL_remove_18 (by decide) ?_
    refine W.widen (k := 2) (n := 12) (Nat.le_of_ble_eq_true rfl) (Nat.le_of_ble_eq_true rfl) ?_
    refine vx_ret ?_
    have hP9 := va_P.part (X := [(o, .inl (dA 3, 1, .inr (.inl (vp_updL g 0 r1.toInt64))))]) (cx := [(o, .inl (dA 3, 1, .inr (.inl (vp_updL g 0 r1.toInt64))))]) (pl := (CW dA u2)) hP [0] rfl
    have hD9 := va_D.part (X := [(o, .inl (dA 3, 1, .inr (.inl (vp_updL g 0 r1.toInt64))))]) (cx := [(o, .inl (dA 3, 1, .inr (.inl (vp_updL g 0 r1.toInt64))))]) (pl := (CW dA u2)) hD [0] (by decide) rfl
    exact W.iret (v := 0) hx hb hr (fun t ht hW => ⟨⟨0, (u2, vp_updL g 0 r1.toInt64), rfl, ⟨hw3.1, hw3.2.1, (hw3.2.2.2.2)⟩, ⟨by rw [ht]; exact hP9, hD9⟩⟩, hS.F ht⟩) hS.2.2 dL_remove_19

set_option maxHeartbeats 4000000 in
set_option maxRecDepth 100000 in
theorem c_L_isOnReplica (l : Launch) (hlt : l.stackTraces = false) (D : va_G) (dA : Nat → ClassId) (E : Nat) (c9 : CS) (tn o : Nat) (g : Nat → Int64) (p0 : Int32) (sz : Nat) (hI : CI E tn c9) (htn : tn ≤ 600) : vx_Met l yL_isOnReplica (wq (.codeWith yL_isOnReplica cL_isOnReplica 4 (some .int) [(0, 16, 19, 21)])) { frames := 8, cells := 1, slots := 6, locals := 124 } (va_Pc [.ref (c9.xa 0), .int p0, .ref o] (PcB D dA E (HAppend.hAppend (α := va_W) (β := va_W) (γ := va_W) [(o, .inl (dA 3, 1, .inr (.inl g)))] (CW dA c9)) sz)) (va_Qi (fun (r : Int32) (u : CS × (Nat → Int64)) => CI E (tn + 1) u.1 ∧ u.1.xa = c9.xa ∧ ((u.1.vs = c9.vs) ∧ (u.1.nv = c9.nv) ∧ (u.1.VN = c9.VN))) (fun u t => va_P D vwCl ([(o, .inl (dA 3, 1, .inr (.inl u.2)))] ++ (CW dA u.1)) t.heap ∧ va_D (va_A (HAppend.hAppend (α := va_W) (β := va_W) (γ := va_W) [(o, .inl (dA 3, 1, .inr (.inl g)))] (CW dA c9)) sz) ([(o, .inl (dA 3, 1, .inr (.inl u.2)))] ++ (CW dA u.1))) (va_A (HAppend.hAppend (α := va_W) (β := va_W) (γ := va_W) [(o, .inl (dA 3, 1, .inr (.inl g)))] (CW dA c9)) sz)) (vx_X (fun (k : Nat) => False) (fun E9 k t => E9 = xN k) (va_A (HAppend.hAppend (α := va_W) (β := va_W) (γ := va_W) [(o, .inl (dA 3, 1, .inr (.inl g)))] (CW dA c9)) sz)) 1 6 (va_A (HAppend.hAppend (α := va_W) (β := va_W) (γ := va_W) [(o, .inl (dA 3, 1, .inr (.inl g)))] (CW dA c9)) sz) := by
  refine mh_of (y := yL_isOnReplica) (av := [.ref (c9.xa 0), .int p0, .ref o]) (maxL := 4) (Qc := fun A => va_Qi (fun (r : Int32) (u : CS × (Nat → Int64)) => CI E (tn + 1) u.1 ∧ u.1.xa = c9.xa ∧ ((u.1.vs = c9.vs) ∧ (u.1.nv = c9.nv) ∧ (u.1.VN = c9.VN))) (fun u t => va_P D vwCl ([(o, .inl (dA 3, 1, .inr (.inl u.2)))] ++ (CW dA u.1)) t.heap ∧ va_D A ([(o, .inl (dA 3, 1, .inr (.inl u.2)))] ++ (CW dA u.1))) A) (XC := fun A => vx_X (fun (k : Nat) => False) (fun E9 k t => E9 = xN k) A) RL rfl (by decide) (Nat.le_of_ble_eq_true rfl) ?_
  intro p e s m args below meth c hae hx hb hr hts hown hlocks hml hnm htb hP hK A hAe hD hZ hS hA ls hl
  replace hl : lv_has ls 4 [(0, .ref (c9.xa 0)), (1, .int p0), (2, .ref o)] := hl
  refine lv_aload_n hx hb dL_isOnReplica_0 rfl (lv_at hl 2 rfl) ?_
  refine lv_iconst (v := 0) hx hb dL_isOnReplica_1 (by decide) ?_
  refine lv_aload_n hx hb dL_isOnReplica_2 rfl (lv_at hl 0 rfl) ?_
  refine lv_iload_n hx hb dL_isOnReplica_3 rfl (lv_at hl 1 rfl) ?_
  replace hPc := va_P.part (X := [(o, .inl (dA 3, 1, .inr (.inl g)))]) (cx := []) (pl := (CW dA c9)) hP [] rfl
  replace hDc := va_D.part (X := [(o, .inl (dA 3, 1, .inr (.inl g)))]) (cx := []) (pl := (CW dA c9)) hD [] (by decide) rfl
  replace hFc := va_freeP (X := [(o, .inl (dA 3, 1, .inr (.inl g)))]) (cx := []) (pl := (CW dA c9)) hD hS hA [] rfl
  refine vx_calli (vx_runV (As := [.int p0]) (rest := [.int 0, .ref o]) ⟨hx, hb, hml, hown, hts⟩ (y8_isOnReplica l hlt D dA E c9 tn p0 s.heap.size  hI htn) (cwV 1 hts (ga_V q722 q723 q720 q346 q721) rfl rfl rfl (by decide +kernel) ⟨(Nat.le_of_ble_eq_true rfl), (Nat.le_of_ble_eq_true rfl)⟩) ⟨pb_blind, va_recv hK hPc (ci := 11) (q0 := 0) rfl rfl, pb_pre hK hPc hDc hZ hS hFc _⟩ rfl rfl hl.1 rfl (lv_room (Nat.le_of_ble_eq_true rfl)) dL_isOnReplica_4 ⟨(Nat.le_of_ble_eq_true rfl), (Nat.le_of_ble_eq_true rfl)⟩) hS (fun q _ h => hFc q h) hFc (fun q _ h => hFc q h) (fun E9 ce q9 k t H1 locs ht hvm hpx hBX hz1 hk1 hS hce hcv hcl => ?_) (fun r u t H1 locs ht hvm hw hB hz1 hk1 hS => ?_)
  · obtain ⟨k1, kx⟩ := k
    obtain ⟨hBE, hP1, hD1⟩ := hBX
    rw [ht] at hP1
    dsimp only at hpx hBE hP1 hD1
    obtain ⟨hP, hD⟩ := va_joinP (X := [(o, .inl (dA 3, 1, .inr (.inl g)))]) (cx := []) (wr := [(o, .inl (dA 3, 1, .inr (.inl g)))]) (rx := []) (pl := (CW dA c9)) (pl1 := (CW dA kx)) hP hD [] [0] rfl rfl (by decide) (by decide) hk1 hFc hP1 hD1
    generalize H1 = H at hP hS hce ⊢
    replace hP : va_P D vwCl (HAppend.hAppend (α := va_W) (β := va_W) (γ := va_W) [(o, .inl (dA 3, 1, .inr (.inl g)))] (CW dA kx)) H := hP
    replace hD : va_D A (HAppend.hAppend (α := va_W) (β := va_W) (γ := va_W) [(o, .inl (dA 3, 1, .inr (.inl g)))] (CW dA kx)) := hD
    obtain ⟨hcx, hxx, hkx, hrx⟩ := hpx
    refine vx_widen (k := 1) (n := 6) (Nat.le_of_ble_eq_true rfl) (Nat.le_of_ble_eq_true rfl) ?_
    subst hkx
    subst hBE
    refine vx_catch (own := RL) (name := "java/lang/IndexOutOfBoundsException") (E := "java/lang/IndexOutOfBoundsException") hown [] ⟨0, 16, 19, 21⟩ [] htb (fun _ h9 => absurd h9 List.not_mem_nil) rfl (by decide) (hts _ q702) (va_Nw.use rfl (znC_3 hZ.1)) hce hcv hcl ?_
    refine W.eq (g2 := F0 m 19 ls [.ref q9]) rfl ?_
    refine lv_astore_n (lv' := [(3, .ref q9), (0, .ref (c9.xa 0)), (1, .int p0), (2, .ref o)]) hx hb dL_isOnReplica_19 rfl hl (by decide) rfl (fun ls hl => ?_)
    refine lv_iconst (v := 1) hx hb dL_isOnReplica_20 (by decide) ?_
    refine W.widen (k := 1) (n := 6) (Nat.le_of_ble_eq_true rfl) (Nat.le_of_ble_eq_true rfl) ?_
    refine vx_ret ?_
    have hP9 := va_P.part (X := [(o, .inl (dA 3, 1, .inr (.inl g)))]) (cx := [(o, .inl (dA 3, 1, .inr (.inl g)))]) (pl := (CW dA kx)) hP [0] rfl
    have hD9 := va_D.part (X := [(o, .inl (dA 3, 1, .inr (.inl g)))]) (cx := [(o, .inl (dA 3, 1, .inr (.inl g)))]) (pl := (CW dA kx)) hD [0] (by decide) rfl
    exact W.iret (v := 1) hx hb hr (fun t ht hW => ⟨⟨1, (kx, g), rfl, ⟨hcx, hxx, (hrx.2)⟩, ⟨by rw [ht]; exact hP9, hD9⟩⟩, hS.F ht⟩) hS.2.2 dL_isOnReplica_21
  · refine W.widen (k := 1) (n := 6) (Nat.le_of_ble_eq_true rfl) (Nat.le_of_ble_eq_true rfl) ?_
    obtain ⟨r1, rfl⟩ : ∃ z, z = r := ⟨_, rfl⟩
    obtain ⟨u2, rfl⟩ : ∃ z, z = u := ⟨_, rfl⟩
    have hw3 := hw
    clear hw
    obtain ⟨hP1, hD1⟩ := hB
    rw [ht] at hP1
    obtain ⟨hP, hD⟩ := va_joinP (X := [(o, .inl (dA 3, 1, .inr (.inl g)))]) (cx := []) (wr := [(o, .inl (dA 3, 1, .inr (.inl g)))]) (rx := []) (pl := (CW dA c9)) (pl1 := (CW dA u2)) hP hD [] [0] rfl rfl (by decide) (by decide) hk1 hFc hP1 hD1
    generalize H1 = H at hP hS ⊢
    replace hP : va_P D vwCl (HAppend.hAppend (α := va_W) (β := va_W) (γ := va_W) [(o, .inl (dA 3, 1, .inr (.inl g)))] (CW dA u2)) H := hP
    replace hD : va_D A (HAppend.hAppend (α := va_W) (β := va_W) (γ := va_W) [(o, .inl (dA 3, 1, .inr (.inl g)))] (CW dA u2)) := hD
    refine lv_if_eq (tgt := 14) hx hb dL_isOnReplica_7 (by decide) (fun c4 => ?_) (fun c4 => ?_)
    · refine lv_lconst (v := 0) hx hb dL_isOnReplica_14 (by decide) ?_
      refine va_last hx hb hK hP hD hS 0 3 rfl rfl (vi_c (by decide)) dL_isOnReplica_15 (fun H locs hP hD hS => ?_)
      replace hP : va_P D vwCl (HAppend.hAppend (α := va_W) (β := va_W) (γ := va_W) [(o, .inl (dA 3, 1, .inr (.inl (vp_updL g 0 0))))] (CW dA u2)) H := hP
      replace hD : va_D A (HAppend.hAppend (α := va_W) (β := va_W) (γ := va_W) [(o, .inl (dA 3, 1, .inr (.inl (vp_updL g 0 0))))] (CW dA u2)) := hD
      refine lv_goto (tgt := 22) hx hb dL_isOnReplica_16 (by decide) ?_
      refine lv_iconst (v := 0) hx hb dL_isOnReplica_22 (by decide) ?_
      refine W.widen (k := 1) (n := 6) (Nat.le_of_ble_eq_true rfl) (Nat.le_of_ble_eq_true rfl) ?_
      refine vx_ret ?_
      have hP9 := va_P.part (X := [(o, .inl (dA 3, 1, .inr (.inl (vp_updL g 0 0))))]) (cx := [(o, .inl (dA 3, 1, .inr (.inl (vp_updL g 0 0))))]) (pl := (CW dA u2)) hP [0] rfl
      have hD9 := va_D.part (X := [(o, .inl (dA 3, 1, .inr (.inl (vp_updL g 0 0))))]) (cx := [(o, .inl (dA 3, 1, .inr (.inl (vp_updL g 0 0))))]) (pl := (CW dA u2)) hD [0] (by decide) rfl
      exact W.iret (v := 0) hx hb hr (fun t ht hW => ⟨⟨0, (u2, vp_updL g 0 0), rfl, ⟨hw3.1, hw3.2.1, (hw3.2.2.2.2)⟩, ⟨by rw [ht]; exact hP9, hD9⟩⟩, hS.F ht⟩) hS.2.2 dL_isOnReplica_23
    · refine lv_lconst (v := 1) hx hb dL_isOnReplica_10 (by decide) ?_
      refine lv_goto (tgt := 15) hx hb dL_isOnReplica_11 (by decide) ?_
      refine va_last hx hb hK hP hD hS 0 3 rfl rfl (vi_c (by decide)) dL_isOnReplica_15 (fun H locs hP hD hS => ?_)
      replace hP : va_P D vwCl (HAppend.hAppend (α := va_W) (β := va_W) (γ := va_W) [(o, .inl (dA 3, 1, .inr (.inl (vp_updL g 0 1))))] (CW dA u2)) H := hP
      replace hD : va_D A (HAppend.hAppend (α := va_W) (β := va_W) (γ := va_W) [(o, .inl (dA 3, 1, .inr (.inl (vp_updL g 0 1))))] (CW dA u2)) := hD
      refine lv_goto (tgt := 22) hx hb dL_isOnReplica_16 (by decide) ?_
      refine lv_iconst (v := 0) hx hb dL_isOnReplica_22 (by decide) ?_
      refine W.widen (k := 1) (n := 6) (Nat.le_of_ble_eq_true rfl) (Nat.le_of_ble_eq_true rfl) ?_
      refine vx_ret ?_
      have hP9 := va_P.part (X := [(o, .inl (dA 3, 1, .inr (.inl (vp_updL g 0 1))))]) (cx := [(o, .inl (dA 3, 1, .inr (.inl (vp_updL g 0 1))))]) (pl := (CW dA u2)) hP [0] rfl
      have hD9 := va_D.part (X := [(o, .inl (dA 3, 1, .inr (.inl (vp_updL g 0 1))))]) (cx := [(o, .inl (dA 3, 1, .inr (.inl (vp_updL g 0 1))))]) (pl := (CW dA u2)) hD [0] (by decide) rfl
      exact W.iret (v := 0) hx hb hr (fun t ht hW => ⟨⟨0, (u2, vp_updL g 0 1), rfl, ⟨hw3.1, hw3.2.1, (hw3.2.2.2.2)⟩, ⟨by rw [ht]; exact hP9, hD9⟩⟩, hS.F ht⟩) hS.2.2 dL_isOnReplica_23

set_option maxHeartbeats 4000000 in
set_option maxRecDepth 100000 in
theorem c_L_size (l : Launch) (hlt : l.stackTraces = false) (D : va_G) (dA : Nat → ClassId) (E : Nat) (c9 : CS) (tn o : Nat) (g : Nat → Int64) (p0 : Int32) (sz : Nat) (hI : CI E tn c9) (htn : tn ≤ 600) : vx_Met l yL_size (wq (.codeWith yL_size cL_size 4 (some .int) [(0, 9, 12, 21)])) { frames := 7, cells := 1, slots := 6, locals := 103 } (va_Pc [.ref (c9.xa 0), .int p0, .ref o] (PcB D dA E (HAppend.hAppend (α := va_W) (β := va_W) (γ := va_W) [(o, .inl (dA 3, 1, .inr (.inl g)))] (CW dA c9)) sz)) (va_Qi (fun (r : Int32) (u : CS × (Nat → Int64)) => CI E (tn + 1) u.1 ∧ u.1.xa = c9.xa ∧ ((u.1.vs = c9.vs) ∧ (u.1.nv = c9.nv) ∧ (u.1.VN = c9.VN))) (fun u t => va_P D vwCl ([(o, .inl (dA 3, 1, .inr (.inl u.2)))] ++ (CW dA u.1)) t.heap ∧ va_D (va_A (HAppend.hAppend (α := va_W) (β := va_W) (γ := va_W) [(o, .inl (dA 3, 1, .inr (.inl g)))] (CW dA c9)) sz) ([(o, .inl (dA 3, 1, .inr (.inl u.2)))] ++ (CW dA u.1))) (va_A (HAppend.hAppend (α := va_W) (β := va_W) (γ := va_W) [(o, .inl (dA 3, 1, .inr (.inl g)))] (CW dA c9)) sz)) (vx_X (fun (k : Nat) => False) (fun E9 k t => E9 = xN k) (va_A (HAppend.hAppend (α := va_W) (β := va_W) (γ := va_W) [(o, .inl (dA 3, 1, .inr (.inl g)))] (CW dA c9)) sz)) 1 6 (va_A (HAppend.hAppend (α := va_W) (β := va_W) (γ := va_W) [(o, .inl (dA 3, 1, .inr (.inl g)))] (CW dA c9)) sz) := by
  refine mh_of (y := yL_size) (av := [.ref (c9.xa 0), .int p0, .ref o]) (maxL := 4) (Qc := fun A => va_Qi (fun (r : Int32) (u : CS × (Nat → Int64)) => CI E (tn + 1) u.1 ∧ u.1.xa = c9.xa ∧ ((u.1.vs = c9.vs) ∧ (u.1.nv = c9.nv) ∧ (u.1.VN = c9.VN))) (fun u t => va_P D vwCl ([(o, .inl (dA 3, 1, .inr (.inl u.2)))] ++ (CW dA u.1)) t.heap ∧ va_D A ([(o, .inl (dA 3, 1, .inr (.inl u.2)))] ++ (CW dA u.1))) A) (XC := fun A => vx_X (fun (k : Nat) => False) (fun E9 k t => E9 = xN k) A) RL rfl (by decide) (Nat.le_of_ble_eq_true rfl) ?_
  intro p e s m args below meth c hae hx hb hr hts hown hlocks hml hnm htb hP hK A hAe hD hZ hS hA ls hl
  replace hl : lv_has ls 4 [(0, .ref (c9.xa 0)), (1, .int p0), (2, .ref o)] := hl
  refine lv_aload_n hx hb dL_size_0 rfl (lv_at hl 2 rfl) ?_
  refine lv_iconst (v := 0) hx hb dL_size_1 (by decide) ?_
  refine lv_aload_n hx hb dL_size_2 rfl (lv_at hl 0 rfl) ?_
  refine lv_iload_n hx hb dL_size_3 rfl (lv_at hl 1 rfl) ?_
  replace hPc := va_P.part (X := [(o, .inl (dA 3, 1, .inr (.inl g)))]) (cx := []) (pl := (CW dA c9)) hP [] rfl
  replace hDc := va_D.part (X := [(o, .inl (dA 3, 1, .inr (.inl g)))]) (cx := []) (pl := (CW dA c9)) hD [] (by decide) rfl
  replace hFc := va_freeP (X := [(o, .inl (dA 3, 1, .inr (.inl g)))]) (cx := []) (pl := (CW dA c9)) hD hS hA [] rfl
  refine vx_calli (vx_runV (As := [.int p0]) (rest := [.int 0, .ref o]) ⟨hx, hb, hml, hown, hts⟩ (y8_size l hlt D dA E c9 tn p0 s.heap.size  hI htn) (cwV 1 hts (ga_V q726 q727 q724 q346 q725) rfl rfl rfl (by decide +kernel) ⟨(Nat.le_of_ble_eq_true rfl), (Nat.le_of_ble_eq_true rfl)⟩) ⟨pb_blind, va_recv hK hPc (ci := 11) (q0 := 0) rfl rfl, pb_pre hK hPc hDc hZ hS hFc _⟩ rfl rfl hl.1 rfl (lv_room (Nat.le_of_ble_eq_true rfl)) dL_size_4 ⟨(Nat.le_of_ble_eq_true rfl), (Nat.le_of_ble_eq_true rfl)⟩) hS (fun q _ h => hFc q h) hFc (fun q _ h => hFc q h) (fun E9 ce q9 k t H1 locs ht hvm hpx hBX hz1 hk1 hS hce hcv hcl => ?_) (fun r u t H1 locs ht hvm hw hB hz1 hk1 hS => ?_)
  · obtain ⟨k1, kx⟩ := k
    obtain ⟨hBE, hP1, hD1⟩ := hBX
    rw [ht] at hP1
    dsimp only at hpx hBE hP1 hD1
    obtain ⟨hP, hD⟩ := va_joinP (X := [(o, .inl (dA 3, 1, .inr (.inl g)))]) (cx := []) (wr := [(o, .inl (dA 3, 1, .inr (.inl g)))]) (rx := []) (pl := (CW dA c9)) (pl1 := (CW dA kx)) hP hD [] [0] rfl rfl (by decide) (by decide) hk1 hFc hP1 hD1
    generalize H1 = H at hP hS hce ⊢
    replace hP : va_P D vwCl (HAppend.hAppend (α := va_W) (β := va_W) (γ := va_W) [(o, .inl (dA 3, 1, .inr (.inl g)))] (CW dA kx)) H := hP
    replace hD : va_D A (HAppend.hAppend (α := va_W) (β := va_W) (γ := va_W) [(o, .inl (dA 3, 1, .inr (.inl g)))] (CW dA kx)) := hD
    obtain ⟨hcx, hxx, hkx, hrx⟩ := hpx
    refine vx_widen (k := 1) (n := 6) (Nat.le_of_ble_eq_true rfl) (Nat.le_of_ble_eq_true rfl) ?_
    subst hkx
    subst hBE
    refine vx_catch (own := RL) (name := "java/lang/IndexOutOfBoundsException") (E := "java/lang/IndexOutOfBoundsException") hown [] ⟨0, 9, 12, 21⟩ [] htb (fun _ h9 => absurd h9 List.not_mem_nil) rfl (by decide) (hts _ q702) (va_Nw.use rfl (znC_3 hZ.1)) hce hcv hcl ?_
    refine W.eq (g2 := F0 m 12 ls [.ref q9]) rfl ?_
    refine lv_astore_n (lv' := [(3, .ref q9), (0, .ref (c9.xa 0)), (1, .int p0), (2, .ref o)]) hx hb dL_size_12 rfl hl (by decide) rfl (fun ls hl => ?_)
    refine lv_iconst (v := 1) hx hb dL_size_13 (by decide) ?_
    refine W.widen (k := 1) (n := 6) (Nat.le_of_ble_eq_true rfl) (Nat.le_of_ble_eq_true rfl) ?_
    refine vx_ret ?_
    have hP9 := va_P.part (X := [(o, .inl (dA 3, 1, .inr (.inl g)))]) (cx := [(o, .inl (dA 3, 1, .inr (.inl g)))]) (pl := (CW dA kx)) hP [0] rfl
    have hD9 := va_D.part (X := [(o, .inl (dA 3, 1, .inr (.inl g)))]) (cx := [(o, .inl (dA 3, 1, .inr (.inl g)))]) (pl := (CW dA kx)) hD [0] (by decide) rfl
    exact W.iret (v := 1) hx hb hr (fun t ht hW => ⟨⟨1, (kx, g), rfl, ⟨hcx, hxx, (hrx.2)⟩, ⟨by rw [ht]; exact hP9, hD9⟩⟩, hS.F ht⟩) hS.2.2 dL_size_14
  · refine W.widen (k := 1) (n := 6) (Nat.le_of_ble_eq_true rfl) (Nat.le_of_ble_eq_true rfl) ?_
    obtain ⟨r1, rfl⟩ : ∃ z, z = r := ⟨_, rfl⟩
    obtain ⟨u2, rfl⟩ : ∃ z, z = u := ⟨_, rfl⟩
    have hw3 := hw
    clear hw
    obtain ⟨hP1, hD1⟩ := hB
    rw [ht] at hP1
    obtain ⟨hP, hD⟩ := va_joinP (X := [(o, .inl (dA 3, 1, .inr (.inl g)))]) (cx := []) (wr := [(o, .inl (dA 3, 1, .inr (.inl g)))]) (rx := []) (pl := (CW dA c9)) (pl1 := (CW dA u2)) hP hD [] [0] rfl rfl (by decide) (by decide) hk1 hFc hP1 hD1
    generalize H1 = H at hP hS ⊢
    replace hP : va_P D vwCl (HAppend.hAppend (α := va_W) (β := va_W) (γ := va_W) [(o, .inl (dA 3, 1, .inr (.inl g)))] (CW dA u2)) H := hP
    replace hD : va_D A (HAppend.hAppend (α := va_W) (β := va_W) (γ := va_W) [(o, .inl (dA 3, 1, .inr (.inl g)))] (CW dA u2)) := hD
    refine lv_i2l (v := r1.toInt64) hx hb dL_size_7 rfl ?_
    refine va_last hx hb hK hP hD hS 0 3 rfl rfl (vi_c (by decide)) dL_size_8 (fun H locs hP hD hS => ?_)
    replace hP : va_P D vwCl (HAppend.hAppend (α := va_W) (β := va_W) (γ := va_W) [(o, .inl (dA 3, 1, .inr (.inl (vp_updL g 0 r1.toInt64))))] (CW dA u2)) H := hP
    replace hD : va_D A (HAppend.hAppend (α := va_W) (β := va_W) (γ := va_W) [(o, .inl (dA 3, 1, .inr (.inl (vp_updL g 0 r1.toInt64))))] (CW dA u2)) := hD
    refine lv_goto (tgt := 15) hx hb dL_size_9 (by decide) ?_
    refine lv_iconst (v := 0) hx hb dL_size_15 (by decide) ?_
    refine W.widen (k := 1) (n := 6) (Nat.le_of_ble_eq_true rfl) (Nat.le_of_ble_eq_true rfl) ?_
    refine vx_ret ?_
    have hP9 := va_P.part (X := [(o, .inl (dA 3, 1, .inr (.inl (vp_updL g 0 r1.toInt64))))]) (cx := [(o, .inl (dA 3, 1, .inr (.inl (vp_updL g 0 r1.toInt64))))]) (pl := (CW dA u2)) hP [0] rfl
    have hD9 := va_D.part (X := [(o, .inl (dA 3, 1, .inr (.inl (vp_updL g 0 r1.toInt64))))]) (cx := [(o, .inl (dA 3, 1, .inr (.inl (vp_updL g 0 r1.toInt64))))]) (pl := (CW dA u2)) hD [0] (by decide) rfl
    exact W.iret (v := 0) hx hb hr (fun t ht hW => ⟨⟨0, (u2, vp_updL g 0 r1.toInt64), rfl, ⟨hw3.1, hw3.2.1, (hw3.2.2.2.2)⟩, ⟨by rw [ht]; exact hP9, hD9⟩⟩, hS.F ht⟩) hS.2.2 dL_size_16

set_option maxHeartbeats 4000000 in
set_option maxRecDepth 100000 in
theorem c_L_merge (l : Launch) (hlt : l.stackTraces = false) (D : va_G) (dA : Nat → ClassId) (E : Nat) (c9 : CS) (tn o : Nat) (g : Nat → Int64) (p0 : Int32) (sz : Nat) (hI : CI E tn c9) (htn : tn ≤ 600) : vx_Met l yL_merge (wq (.codeWith yL_merge cL_merge 4 (some .int) [(0, 9, 12, 21)])) { frames := 7, cells := 1, slots := 6, locals := 103 } (va_Pc [.ref (c9.xa 0), .int p0, .ref o] (PcB D dA E (HAppend.hAppend (α := va_W) (β := va_W) (γ := va_W) [(o, .inl (dA 3, 1, .inr (.inl g)))] (CW dA c9)) sz)) (va_Qi (fun (r : Int32) (u : CS × (Nat → Int64)) => CI E (tn + 1) u.1 ∧ u.1.xa = c9.xa ∧ ((u.1.vs = c9.vs) ∧ (u.1.nv = c9.nv) ∧ (u.1.VN = c9.VN))) (fun u t => va_P D vwCl ([(o, .inl (dA 3, 1, .inr (.inl u.2)))] ++ (CW dA u.1)) t.heap ∧ va_D (va_A (HAppend.hAppend (α := va_W) (β := va_W) (γ := va_W) [(o, .inl (dA 3, 1, .inr (.inl g)))] (CW dA c9)) sz) ([(o, .inl (dA 3, 1, .inr (.inl u.2)))] ++ (CW dA u.1))) (va_A (HAppend.hAppend (α := va_W) (β := va_W) (γ := va_W) [(o, .inl (dA 3, 1, .inr (.inl g)))] (CW dA c9)) sz)) (vx_X (fun (k : Nat) => False) (fun E9 k t => E9 = xN k) (va_A (HAppend.hAppend (α := va_W) (β := va_W) (γ := va_W) [(o, .inl (dA 3, 1, .inr (.inl g)))] (CW dA c9)) sz)) 1 6 (va_A (HAppend.hAppend (α := va_W) (β := va_W) (γ := va_W) [(o, .inl (dA 3, 1, .inr (.inl g)))] (CW dA c9)) sz) := by
  refine mh_of (y := yL_merge) (av := [.ref (c9.xa 0), .int p0, .ref o]) (maxL := 4) (Qc := fun A => va_Qi (fun (r : Int32) (u : CS × (Nat → Int64)) => CI E (tn + 1) u.1 ∧ u.1.xa = c9.xa ∧ ((u.1.vs = c9.vs) ∧ (u.1.nv = c9.nv) ∧ (u.1.VN = c9.VN))) (fun u t => va_P D vwCl ([(o, .inl (dA 3, 1, .inr (.inl u.2)))] ++ (CW dA u.1)) t.heap ∧ va_D A ([(o, .inl (dA 3, 1, .inr (.inl u.2)))] ++ (CW dA u.1))) A) (XC := fun A => vx_X (fun (k : Nat) => False) (fun E9 k t => E9 = xN k) A) RL rfl (by decide) (Nat.le_of_ble_eq_true rfl) ?_
  intro p e s m args below meth c hae hx hb hr hts hown hlocks hml hnm htb hP hK A hAe hD hZ hS hA ls hl
  replace hl : lv_has ls 4 [(0, .ref (c9.xa 0)), (1, .int p0), (2, .ref o)] := hl
  refine lv_aload_n hx hb dL_merge_0 rfl (lv_at hl 2 rfl) ?_
  refine lv_iconst (v := 0) hx hb dL_merge_1 (by decide) ?_
  refine lv_aload_n hx hb dL_merge_2 rfl (lv_at hl 0 rfl) ?_
  refine lv_iload_n hx hb dL_merge_3 rfl (lv_at hl 1 rfl) ?_
  replace hPc := va_P.part (X := [(o, .inl (dA 3, 1, .inr (.inl g)))]) (cx := []) (pl := (CW dA c9)) hP [] rfl
  replace hDc := va_D.part (X := [(o, .inl (dA 3, 1, .inr (.inl g)))]) (cx := []) (pl := (CW dA c9)) hD [] (by decide) rfl
  replace hFc := va_freeP (X := [(o, .inl (dA 3, 1, .inr (.inl g)))]) (cx := []) (pl := (CW dA c9)) hD hS hA [] rfl
  refine vx_calli (vx_runV (As := [.int p0]) (rest := [.int 0, .ref o]) ⟨hx, hb, hml, hown, hts⟩ (y8_merge l hlt D dA E c9 tn p0 s.heap.size  hI htn) (cwV 1 hts (ga_V q730 q731 q728 q346 q729) rfl rfl rfl (by decide +kernel) ⟨(Nat.le_of_ble_eq_true rfl), (Nat.le_of_ble_eq_true rfl)⟩) ⟨pb_blind, va_recv hK hPc (ci := 11) (q0 := 0) rfl rfl, pb_pre hK hPc hDc hZ hS hFc _⟩ rfl rfl hl.1 rfl (lv_room (Nat.le_of_ble_eq_true rfl)) dL_merge_4 ⟨(Nat.le_of_ble_eq_true rfl), (Nat.le_of_ble_eq_true rfl)⟩) hS (fun q _ h => hFc q h) hFc (fun q _ h => hFc q h) (fun E9 ce q9 k t H1 locs ht hvm hpx hBX hz1 hk1 hS hce hcv hcl => ?_) (fun r u t H1 locs ht hvm hw hB hz1 hk1 hS => ?_)
  · obtain ⟨k1, kx⟩ := k
    obtain ⟨hBE, hP1, hD1⟩ := hBX
    rw [ht] at hP1
    dsimp only at hpx hBE hP1 hD1
    obtain ⟨hP, hD⟩ := va_joinP (X := [(o, .inl (dA 3, 1, .inr (.inl g)))]) (cx := []) (wr := [(o, .inl (dA 3, 1, .inr (.inl g)))]) (rx := []) (pl := (CW dA c9)) (pl1 := (CW dA kx)) hP hD [] [0] rfl rfl (by decide) (by decide) hk1 hFc hP1 hD1
    generalize H1 = H at hP hS hce ⊢
    replace hP : va_P D vwCl (HAppend.hAppend (α := va_W) (β := va_W) (γ := va_W) [(o, .inl (dA 3, 1, .inr (.inl g)))] (CW dA kx)) H := hP
    replace hD : va_D A (HAppend.hAppend (α := va_W) (β := va_W) (γ := va_W) [(o, .inl (dA 3, 1, .inr (.inl g)))] (CW dA kx)) := hD
    obtain ⟨hcx, hxx, hkx, hrx⟩ := hpx
    refine vx_widen (k := 1) (n := 6) (Nat.le_of_ble_eq_true rfl) (Nat.le_of_ble_eq_true rfl) ?_
    subst hkx
    subst hBE
    refine vx_catch (own := RL) (name := "java/lang/IndexOutOfBoundsException") (E := "java/lang/IndexOutOfBoundsException") hown [] ⟨0, 9, 12, 21⟩ [] htb (fun _ h9 => absurd h9 List.not_mem_nil) rfl (by decide) (hts _ q702) (va_Nw.use rfl (znC_3 hZ.1)) hce hcv hcl ?_
    refine W.eq (g2 := F0 m 12 ls [.ref q9]) rfl ?_
    refine lv_astore_n (lv' := [(3, .ref q9), (0, .ref (c9.xa 0)), (1, .int p0), (2, .ref o)]) hx hb dL_merge_12 rfl hl (by decide) rfl (fun ls hl => ?_)
    refine lv_iconst (v := 1) hx hb dL_merge_13 (by decide) ?_
    refine W.widen (k := 1) (n := 6) (Nat.le_of_ble_eq_true rfl) (Nat.le_of_ble_eq_true rfl) ?_
    refine vx_ret ?_
    have hP9 := va_P.part (X := [(o, .inl (dA 3, 1, .inr (.inl g)))]) (cx := [(o, .inl (dA 3, 1, .inr (.inl g)))]) (pl := (CW dA kx)) hP [0] rfl
    have hD9 := va_D.part (X := [(o, .inl (dA 3, 1, .inr (.inl g)))]) (cx := [(o, .inl (dA 3, 1, .inr (.inl g)))]) (pl := (CW dA kx)) hD [0] (by decide) rfl
    exact W.iret (v := 1) hx hb hr (fun t ht hW => ⟨⟨1, (kx, g), rfl, ⟨hcx, hxx, (hrx.2)⟩, ⟨by rw [ht]; exact hP9, hD9⟩⟩, hS.F ht⟩) hS.2.2 dL_merge_14
  · refine W.widen (k := 1) (n := 6) (Nat.le_of_ble_eq_true rfl) (Nat.le_of_ble_eq_true rfl) ?_
    obtain ⟨r1, rfl⟩ : ∃ z, z = r := ⟨_, rfl⟩
    obtain ⟨u2, rfl⟩ : ∃ z, z = u := ⟨_, rfl⟩
    have hw3 := hw
    clear hw
    obtain ⟨hP1, hD1⟩ := hB
    rw [ht] at hP1
    obtain ⟨hP, hD⟩ := va_joinP (X := [(o, .inl (dA 3, 1, .inr (.inl g)))]) (cx := []) (wr := [(o, .inl (dA 3, 1, .inr (.inl g)))]) (rx := []) (pl := (CW dA c9)) (pl1 := (CW dA u2)) hP hD [] [0] rfl rfl (by decide) (by decide) hk1 hFc hP1 hD1
    generalize H1 = H at hP hS ⊢
    replace hP : va_P D vwCl (HAppend.hAppend (α := va_W) (β := va_W) (γ := va_W) [(o, .inl (dA 3, 1, .inr (.inl g)))] (CW dA u2)) H := hP
    replace hD : va_D A (HAppend.hAppend (α := va_W) (β := va_W) (γ := va_W) [(o, .inl (dA 3, 1, .inr (.inl g)))] (CW dA u2)) := hD
    refine lv_i2l (v := r1.toInt64) hx hb dL_merge_7 rfl ?_
    refine va_last hx hb hK hP hD hS 0 3 rfl rfl (vi_c (by decide)) dL_merge_8 (fun H locs hP hD hS => ?_)
    replace hP : va_P D vwCl (HAppend.hAppend (α := va_W) (β := va_W) (γ := va_W) [(o, .inl (dA 3, 1, .inr (.inl (vp_updL g 0 r1.toInt64))))] (CW dA u2)) H := hP
    replace hD : va_D A (HAppend.hAppend (α := va_W) (β := va_W) (γ := va_W) [(o, .inl (dA 3, 1, .inr (.inl (vp_updL g 0 r1.toInt64))))] (CW dA u2)) := hD
    refine lv_goto (tgt := 15) hx hb dL_merge_9 (by decide) ?_
    refine lv_iconst (v := 0) hx hb dL_merge_15 (by decide) ?_
    refine W.widen (k := 1) (n := 6) (Nat.le_of_ble_eq_true rfl) (Nat.le_of_ble_eq_true rfl) ?_
    refine vx_ret ?_
    have hP9 := va_P.part (X := [(o, .inl (dA 3, 1, .inr (.inl (vp_updL g 0 r1.toInt64))))]) (cx := [(o, .inl (dA 3, 1, .inr (.inl (vp_updL g 0 r1.toInt64))))]) (pl := (CW dA u2)) hP [0] rfl
    have hD9 := va_D.part (X := [(o, .inl (dA 3, 1, .inr (.inl (vp_updL g 0 r1.toInt64))))]) (cx := [(o, .inl (dA 3, 1, .inr (.inl (vp_updL g 0 r1.toInt64))))]) (pl := (CW dA u2)) hD [0] (by decide) rfl
    exact W.iret (v := 0) hx hb hr (fun t ht hW => ⟨⟨0, (u2, vp_updL g 0 r1.toInt64), rfl, ⟨hw3.1, hw3.2.1, (hw3.2.2.2.2)⟩, ⟨by rw [ht]; exact hP9, hD9⟩⟩, hS.F ht⟩) hS.2.2 dL_merge_16

set_option maxHeartbeats 4000000 in
set_option maxRecDepth 100000 in
theorem c_L_follow (l : Launch) (hlt : l.stackTraces = false) (D : va_G) (dA : Nat → ClassId) (E : Nat) (c9 : CS) (tn o : Nat) (g : Nat → Int64) (sz : Nat) (hI : CI E tn c9) (htn : tn ≤ 600) : vx_Met l yL_follow (wq (.codeWith yL_follow cL_follow 3 (some .int) [(0, 8, 11, 15)])) { frames := 7, cells := 1, slots := 6, locals := 102 } (va_Pc [.ref (c9.xa 0), .ref o] (PcB D dA E (HAppend.hAppend (α := va_W) (β := va_W) (γ := va_W) [(o, .inl (dA 3, 1, .inr (.inl g)))] (CW dA c9)) sz)) (va_Qi (fun (r : Int32) (u : CS × (Nat → Int64)) => CI E (tn + 1) u.1 ∧ u.1.xa = c9.xa ∧ ((u.1.vs = c9.vs) ∧ (u.1.nv = c9.nv) ∧ (u.1.VN = c9.VN))) (fun u t => va_P D vwCl ([(o, .inl (dA 3, 1, .inr (.inl u.2)))] ++ (CW dA u.1)) t.heap ∧ va_D (va_A (HAppend.hAppend (α := va_W) (β := va_W) (γ := va_W) [(o, .inl (dA 3, 1, .inr (.inl g)))] (CW dA c9)) sz) ([(o, .inl (dA 3, 1, .inr (.inl u.2)))] ++ (CW dA u.1))) (va_A (HAppend.hAppend (α := va_W) (β := va_W) (γ := va_W) [(o, .inl (dA 3, 1, .inr (.inl g)))] (CW dA c9)) sz)) (vx_X (fun (k : Nat) => False) (fun E9 k t => E9 = xN k) (va_A (HAppend.hAppend (α := va_W) (β := va_W) (γ := va_W) [(o, .inl (dA 3, 1, .inr (.inl g)))] (CW dA c9)) sz)) 1 6 (va_A (HAppend.hAppend (α := va_W) (β := va_W) (γ := va_W) [(o, .inl (dA 3, 1, .inr (.inl g)))] (CW dA c9)) sz) := by
  refine mh_of (y := yL_follow) (av := [.ref (c9.xa 0), .ref o]) (maxL := 3) (Qc := fun A => va_Qi (fun (r : Int32) (u : CS × (Nat → Int64)) => CI E (tn + 1) u.1 ∧ u.1.xa = c9.xa ∧ ((u.1.vs = c9.vs) ∧ (u.1.nv = c9.nv) ∧ (u.1.VN = c9.VN))) (fun u t => va_P D vwCl ([(o, .inl (dA 3, 1, .inr (.inl u.2)))] ++ (CW dA u.1)) t.heap ∧ va_D A ([(o, .inl (dA 3, 1, .inr (.inl u.2)))] ++ (CW dA u.1))) A) (XC := fun A => vx_X (fun (k : Nat) => False) (fun E9 k t => E9 = xN k) A) RL rfl (by decide) (Nat.le_of_ble_eq_true rfl) ?_
  intro p e s m args below meth c hae hx hb hr hts hown hlocks hml hnm htb hP hK A hAe hD hZ hS hA ls hl
  replace hl : lv_has ls 3 [(0, .ref (c9.xa 0)), (1, .ref o)] := hl
  refine lv_aload_n hx hb dL_follow_0 rfl (lv_at hl 1 rfl) ?_
  refine lv_iconst (v := 0) hx hb dL_follow_1 (by decide) ?_
  refine lv_aload_n hx hb dL_follow_2 rfl (lv_at hl 0 rfl) ?_
  replace hPc := va_P.part (X := [(o, .inl (dA 3, 1, .inr (.inl g)))]) (cx := []) (pl := (CW dA c9)) hP [] rfl
  replace hDc := va_D.part (X := [(o, .inl (dA 3, 1, .inr (.inl g)))]) (cx := []) (pl := (CW dA c9)) hD [] (by decide) rfl
  replace hFc := va_freeP (X := [(o, .inl (dA 3, 1, .inr (.inl g)))]) (cx := []) (pl := (CW dA c9)) hD hS hA [] rfl
  refine vx_calli (vx_runV (As := []) (rest := [.int 0, .ref o]) ⟨hx, hb, hml, hown, hts⟩ (y8_follow l hlt D dA E c9 tn s.heap.size  hI htn) (cwV 0 hts (ga_V q734 q735 q732 q346 q733) rfl rfl rfl (by decide +kernel) ⟨(Nat.le_of_ble_eq_true rfl), (Nat.le_of_ble_eq_true rfl)⟩) ⟨pb_blind, va_recv hK hPc (ci := 11) (q0 := 0) rfl rfl, pb_pre hK hPc hDc hZ hS hFc _⟩ rfl rfl hl.1 rfl (lv_room (Nat.le_of_ble_eq_true rfl)) dL_follow_3 ⟨(Nat.le_of_ble_eq_true rfl), (Nat.le_of_ble_eq_true rfl)⟩) hS (fun q _ h => hFc q h) hFc (fun q _ h => hFc q h) (fun E9 ce q9 k t H1 locs ht hvm hpx hBX hz1 hk1 hS hce hcv hcl => ?_) (fun r u t H1 locs ht hvm hw hB hz1 hk1 hS => ?_)
  · obtain ⟨k1, kx⟩ := k
    obtain ⟨hBE, hP1, hD1⟩ := hBX
    rw [ht] at hP1
    dsimp only at hpx hBE hP1 hD1
    obtain ⟨hP, hD⟩ := va_joinP (X := [(o, .inl (dA 3, 1, .inr (.inl g)))]) (cx := []) (wr := [(o, .inl (dA 3, 1, .inr (.inl g)))]) (rx := []) (pl := (CW dA c9)) (pl1 := (CW dA kx)) hP hD [] [0] rfl rfl (by decide) (by decide) hk1 hFc hP1 hD1
    generalize H1 = H at hP hS hce ⊢
    replace hP : va_P D vwCl (HAppend.hAppend (α := va_W) (β := va_W) (γ := va_W) [(o, .inl (dA 3, 1, .inr (.inl g)))] (CW dA kx)) H := hP
    replace hD : va_D A (HAppend.hAppend (α := va_W) (β := va_W) (γ := va_W) [(o, .inl (dA 3, 1, .inr (.inl g)))] (CW dA kx)) := hD
    obtain ⟨hcx, hxx, hkx, hrx⟩ := hpx
    refine vx_widen (k := 1) (n := 6) (Nat.le_of_ble_eq_true rfl) (Nat.le_of_ble_eq_true rfl) ?_
    subst hkx
    subst hBE
    refine vx_catch (own := RL) (name := "java/lang/IllegalStateException") (E := "java/lang/IllegalStateException") hown [] ⟨0, 8, 11, 15⟩ [] htb (fun _ h9 => absurd h9 List.not_mem_nil) rfl (by decide) (hts _ q719) (va_Nw.use rfl (znC_1 hZ.1)) hce hcv hcl ?_
    refine W.eq (g2 := F0 m 11 ls [.ref q9]) rfl ?_
    refine lv_astore_n (lv' := [(2, .ref q9), (0, .ref (c9.xa 0)), (1, .ref o)]) hx hb dL_follow_11 rfl hl (by decide) rfl (fun ls hl => ?_)
    refine lv_iconst (v := 1) hx hb dL_follow_12 (by decide) ?_
    refine W.widen (k := 1) (n := 6) (Nat.le_of_ble_eq_true rfl) (Nat.le_of_ble_eq_true rfl) ?_
    refine vx_ret ?_
    have hP9 := va_P.part (X := [(o, .inl (dA 3, 1, .inr (.inl g)))]) (cx := [(o, .inl (dA 3, 1, .inr (.inl g)))]) (pl := (CW dA kx)) hP [0] rfl
    have hD9 := va_D.part (X := [(o, .inl (dA 3, 1, .inr (.inl g)))]) (cx := [(o, .inl (dA 3, 1, .inr (.inl g)))]) (pl := (CW dA kx)) hD [0] (by decide) rfl
    exact W.iret (v := 1) hx hb hr (fun t ht hW => ⟨⟨1, (kx, g), rfl, ⟨hcx, hxx, (hrx.2)⟩, ⟨by rw [ht]; exact hP9, hD9⟩⟩, hS.F ht⟩) hS.2.2 dL_follow_13
  · refine W.widen (k := 1) (n := 6) (Nat.le_of_ble_eq_true rfl) (Nat.le_of_ble_eq_true rfl) ?_
    obtain ⟨r1, rfl⟩ : ∃ z, z = r := ⟨_, rfl⟩
    obtain ⟨u2, rfl⟩ : ∃ z, z = u := ⟨_, rfl⟩
    have hw3 := hw
    clear hw
    obtain ⟨hP1, hD1⟩ := hB
    rw [ht] at hP1
    obtain ⟨hP, hD⟩ := va_joinP (X := [(o, .inl (dA 3, 1, .inr (.inl g)))]) (cx := []) (wr := [(o, .inl (dA 3, 1, .inr (.inl g)))]) (rx := []) (pl := (CW dA c9)) (pl1 := (CW dA u2)) hP hD [] [0] rfl rfl (by decide) (by decide) hk1 hFc hP1 hD1
    generalize H1 = H at hP hS ⊢
    replace hP : va_P D vwCl (HAppend.hAppend (α := va_W) (β := va_W) (γ := va_W) [(o, .inl (dA 3, 1, .inr (.inl g)))] (CW dA u2)) H := hP
    replace hD : va_D A (HAppend.hAppend (α := va_W) (β := va_W) (γ := va_W) [(o, .inl (dA 3, 1, .inr (.inl g)))] (CW dA u2)) := hD
    refine lv_i2l (v := r1.toInt64) hx hb dL_follow_6 rfl ?_
    refine va_last hx hb hK hP hD hS 0 3 rfl rfl (vi_c (by decide)) dL_follow_7 (fun H locs hP hD hS => ?_)
    replace hP : va_P D vwCl (HAppend.hAppend (α := va_W) (β := va_W) (γ := va_W) [(o, .inl (dA 3, 1, .inr (.inl (vp_updL g 0 r1.toInt64))))] (CW dA u2)) H := hP
    replace hD : va_D A (HAppend.hAppend (α := va_W) (β := va_W) (γ := va_W) [(o, .inl (dA 3, 1, .inr (.inl (vp_updL g 0 r1.toInt64))))] (CW dA u2)) := hD
    refine lv_goto (tgt := 14) hx hb dL_follow_8 (by decide) ?_
    refine lv_iconst (v := 0) hx hb dL_follow_14 (by decide) ?_
    refine W.widen (k := 1) (n := 6) (Nat.le_of_ble_eq_true rfl) (Nat.le_of_ble_eq_true rfl) ?_
    refine vx_ret ?_
    have hP9 := va_P.part (X := [(o, .inl (dA 3, 1, .inr (.inl (vp_updL g 0 r1.toInt64))))]) (cx := [(o, .inl (dA 3, 1, .inr (.inl (vp_updL g 0 r1.toInt64))))]) (pl := (CW dA u2)) hP [0] rfl
    have hD9 := va_D.part (X := [(o, .inl (dA 3, 1, .inr (.inl (vp_updL g 0 r1.toInt64))))]) (cx := [(o, .inl (dA 3, 1, .inr (.inl (vp_updL g 0 r1.toInt64))))]) (pl := (CW dA u2)) hD [0] (by decide) rfl
    exact W.iret (v := 0) hx hb hr (fun t ht hW => ⟨⟨0, (u2, vp_updL g 0 r1.toInt64), rfl, ⟨hw3.1, hw3.2.1, (hw3.2.2.2.2)⟩, ⟨by rw [ht]; exact hP9, hD9⟩⟩, hS.F ht⟩) hS.2.2 dL_follow_15

set_option maxHeartbeats 4000000 in
set_option maxRecDepth 100000 in
theorem c_L_seen (l : Launch) (hlt : l.stackTraces = false) (D : va_G) (dA : Nat → ClassId) (E : Nat) (c9 : CS) (tn o : Nat) (g : Nat → Int64) (p0 : Int32) (sz : Nat) (hI : CI E tn c9) (htn : tn ≤ 600) : vx_Met l yL_seen (wq (.codeWith yL_seen cL_seen 4 (some .int) [(0, 9, 12, 21)])) { frames := 8, cells := 1, slots := 6, locals := 129 } (va_Pc [.ref (c9.xa 0), .int p0, .ref o] (PcB D dA E (HAppend.hAppend (α := va_W) (β := va_W) (γ := va_W) [(o, .inl (dA 3, 1, .inr (.inl g)))] (CW dA c9)) sz)) (va_Qi (fun (r : Int32) (u : CS × (Nat → Int64)) => CI E (tn + 1) u.1 ∧ u.1.xa = c9.xa ∧ ((u.1.vs = c9.vs) ∧ (u.1.nv = c9.nv) ∧ (u.1.VN = c9.VN))) (fun u t => va_P D vwCl ([(o, .inl (dA 3, 1, .inr (.inl u.2)))] ++ (CW dA u.1)) t.heap ∧ va_D (va_A (HAppend.hAppend (α := va_W) (β := va_W) (γ := va_W) [(o, .inl (dA 3, 1, .inr (.inl g)))] (CW dA c9)) sz) ([(o, .inl (dA 3, 1, .inr (.inl u.2)))] ++ (CW dA u.1))) (va_A (HAppend.hAppend (α := va_W) (β := va_W) (γ := va_W) [(o, .inl (dA 3, 1, .inr (.inl g)))] (CW dA c9)) sz)) (vx_X (fun (k : Nat) => False) (fun E9 k t => E9 = xN k) (va_A (HAppend.hAppend (α := va_W) (β := va_W) (γ := va_W) [(o, .inl (dA 3, 1, .inr (.inl g)))] (CW dA c9)) sz)) 1 6 (va_A (HAppend.hAppend (α := va_W) (β := va_W) (γ := va_W) [(o, .inl (dA 3, 1, .inr (.inl g)))] (CW dA c9)) sz) := by
  refine mh_of (y := yL_seen) (av := [.ref (c9.xa 0), .int p0, .ref o]) (maxL := 4) (Qc := fun A => va_Qi (fun (r : Int32) (u : CS × (Nat → Int64)) => CI E (tn + 1) u.1 ∧ u.1.xa = c9.xa ∧ ((u.1.vs = c9.vs) ∧ (u.1.nv = c9.nv) ∧ (u.1.VN = c9.VN))) (fun u t => va_P D vwCl ([(o, .inl (dA 3, 1, .inr (.inl u.2)))] ++ (CW dA u.1)) t.heap ∧ va_D A ([(o, .inl (dA 3, 1, .inr (.inl u.2)))] ++ (CW dA u.1))) A) (XC := fun A => vx_X (fun (k : Nat) => False) (fun E9 k t => E9 = xN k) A) RL rfl (by decide) (Nat.le_of_ble_eq_true rfl) ?_
  intro p e s m args below meth c hae hx hb hr hts hown hlocks hml hnm htb hP hK A hAe hD hZ hS hA ls hl
  replace hl : lv_has ls 4 [(0, .ref (c9.xa 0)), (1, .int p0), (2, .ref o)] := hl
  refine lv_aload_n hx hb dL_seen_0 rfl (lv_at hl 2 rfl) ?_
  refine lv_iconst (v := 0) hx hb dL_seen_1 (by decide) ?_
  refine lv_aload_n hx hb dL_seen_2 rfl (lv_at hl 0 rfl) ?_
  refine lv_iload_n hx hb dL_seen_3 rfl (lv_at hl 1 rfl) ?_
  replace hPc := va_P.part (X := [(o, .inl (dA 3, 1, .inr (.inl g)))]) (cx := []) (pl := (CW dA c9)) hP [] rfl
  replace hDc := va_D.part (X := [(o, .inl (dA 3, 1, .inr (.inl g)))]) (cx := []) (pl := (CW dA c9)) hD [] (by decide) rfl
  replace hFc := va_freeP (X := [(o, .inl (dA 3, 1, .inr (.inl g)))]) (cx := []) (pl := (CW dA c9)) hD hS hA [] rfl
  refine vx_calli (vx_runV (As := [.int p0]) (rest := [.int 0, .ref o]) ⟨hx, hb, hml, hown, hts⟩ (y8_seen l hlt D dA E c9 tn p0 s.heap.size  hI htn) (cwV 1 hts (ga_V q738 q739 q736 q346 q737) rfl rfl rfl (by decide +kernel) ⟨(Nat.le_of_ble_eq_true rfl), (Nat.le_of_ble_eq_true rfl)⟩) ⟨pb_blind, va_recv hK hPc (ci := 11) (q0 := 0) rfl rfl, pb_pre hK hPc hDc hZ hS hFc _⟩ rfl rfl hl.1 rfl (lv_room (Nat.le_of_ble_eq_true rfl)) dL_seen_4 ⟨(Nat.le_of_ble_eq_true rfl), (Nat.le_of_ble_eq_true rfl)⟩) hS (fun q _ h => hFc q h) hFc (fun q _ h => hFc q h) (fun E9 ce q9 k t H1 locs ht hvm hpx hBX hz1 hk1 hS hce hcv hcl => ?_) (fun r u t H1 locs ht hvm hw hB hz1 hk1 hS => ?_)
  · obtain ⟨k1, kx⟩ := k
    obtain ⟨hBE, hP1, hD1⟩ := hBX
    rw [ht] at hP1
    dsimp only at hpx hBE hP1 hD1
    obtain ⟨hP, hD⟩ := va_joinP (X := [(o, .inl (dA 3, 1, .inr (.inl g)))]) (cx := []) (wr := [(o, .inl (dA 3, 1, .inr (.inl g)))]) (rx := []) (pl := (CW dA c9)) (pl1 := (CW dA kx)) hP hD [] [0] rfl rfl (by decide) (by decide) hk1 hFc hP1 hD1
    generalize H1 = H at hP hS hce ⊢
    replace hP : va_P D vwCl (HAppend.hAppend (α := va_W) (β := va_W) (γ := va_W) [(o, .inl (dA 3, 1, .inr (.inl g)))] (CW dA kx)) H := hP
    replace hD : va_D A (HAppend.hAppend (α := va_W) (β := va_W) (γ := va_W) [(o, .inl (dA 3, 1, .inr (.inl g)))] (CW dA kx)) := hD
    obtain ⟨hcx, hxx, hkx, hrx⟩ := hpx
    refine vx_widen (k := 1) (n := 6) (Nat.le_of_ble_eq_true rfl) (Nat.le_of_ble_eq_true rfl) ?_
    subst hkx
    subst hBE
    refine vx_catch (own := RL) (name := "java/lang/IndexOutOfBoundsException") (E := "java/lang/IndexOutOfBoundsException") hown [] ⟨0, 9, 12, 21⟩ [] htb (fun _ h9 => absurd h9 List.not_mem_nil) rfl (by decide) (hts _ q702) (va_Nw.use rfl (znC_3 hZ.1)) hce hcv hcl ?_
    refine W.eq (g2 := F0 m 12 ls [.ref q9]) rfl ?_
    refine lv_astore_n (lv' := [(3, .ref q9), (0, .ref (c9.xa 0)), (1, .int p0), (2, .ref o)]) hx hb dL_seen_12 rfl hl (by decide) rfl (fun ls hl => ?_)
    refine lv_iconst (v := 1) hx hb dL_seen_13 (by decide) ?_
    refine W.widen (k := 1) (n := 6) (Nat.le_of_ble_eq_true rfl) (Nat.le_of_ble_eq_true rfl) ?_
    refine vx_ret ?_
    have hP9 := va_P.part (X := [(o, .inl (dA 3, 1, .inr (.inl g)))]) (cx := [(o, .inl (dA 3, 1, .inr (.inl g)))]) (pl := (CW dA kx)) hP [0] rfl
    have hD9 := va_D.part (X := [(o, .inl (dA 3, 1, .inr (.inl g)))]) (cx := [(o, .inl (dA 3, 1, .inr (.inl g)))]) (pl := (CW dA kx)) hD [0] (by decide) rfl
    exact W.iret (v := 1) hx hb hr (fun t ht hW => ⟨⟨1, (kx, g), rfl, ⟨hcx, hxx, (hrx.2)⟩, ⟨by rw [ht]; exact hP9, hD9⟩⟩, hS.F ht⟩) hS.2.2 dL_seen_14
  · refine W.widen (k := 1) (n := 6) (Nat.le_of_ble_eq_true rfl) (Nat.le_of_ble_eq_true rfl) ?_
    obtain ⟨r1, rfl⟩ : ∃ z, z = r := ⟨_, rfl⟩
    obtain ⟨u2, rfl⟩ : ∃ z, z = u := ⟨_, rfl⟩
    have hw3 := hw
    clear hw
    obtain ⟨hP1, hD1⟩ := hB
    rw [ht] at hP1
    obtain ⟨hP, hD⟩ := va_joinP (X := [(o, .inl (dA 3, 1, .inr (.inl g)))]) (cx := []) (wr := [(o, .inl (dA 3, 1, .inr (.inl g)))]) (rx := []) (pl := (CW dA c9)) (pl1 := (CW dA u2)) hP hD [] [0] rfl rfl (by decide) (by decide) hk1 hFc hP1 hD1
    generalize H1 = H at hP hS ⊢
    replace hP : va_P D vwCl (HAppend.hAppend (α := va_W) (β := va_W) (γ := va_W) [(o, .inl (dA 3, 1, .inr (.inl g)))] (CW dA u2)) H := hP
    replace hD : va_D A (HAppend.hAppend (α := va_W) (β := va_W) (γ := va_W) [(o, .inl (dA 3, 1, .inr (.inl g)))] (CW dA u2)) := hD
    refine lv_i2l (v := r1.toInt64) hx hb dL_seen_7 rfl ?_
    refine va_last hx hb hK hP hD hS 0 3 rfl rfl (vi_c (by decide)) dL_seen_8 (fun H locs hP hD hS => ?_)
    replace hP : va_P D vwCl (HAppend.hAppend (α := va_W) (β := va_W) (γ := va_W) [(o, .inl (dA 3, 1, .inr (.inl (vp_updL g 0 r1.toInt64))))] (CW dA u2)) H := hP
    replace hD : va_D A (HAppend.hAppend (α := va_W) (β := va_W) (γ := va_W) [(o, .inl (dA 3, 1, .inr (.inl (vp_updL g 0 r1.toInt64))))] (CW dA u2)) := hD
    refine lv_goto (tgt := 15) hx hb dL_seen_9 (by decide) ?_
    refine lv_iconst (v := 0) hx hb dL_seen_15 (by decide) ?_
    refine W.widen (k := 1) (n := 6) (Nat.le_of_ble_eq_true rfl) (Nat.le_of_ble_eq_true rfl) ?_
    refine vx_ret ?_
    have hP9 := va_P.part (X := [(o, .inl (dA 3, 1, .inr (.inl (vp_updL g 0 r1.toInt64))))]) (cx := [(o, .inl (dA 3, 1, .inr (.inl (vp_updL g 0 r1.toInt64))))]) (pl := (CW dA u2)) hP [0] rfl
    have hD9 := va_D.part (X := [(o, .inl (dA 3, 1, .inr (.inl (vp_updL g 0 r1.toInt64))))]) (cx := [(o, .inl (dA 3, 1, .inr (.inl (vp_updL g 0 r1.toInt64))))]) (pl := (CW dA u2)) hD [0] (by decide) rfl
    exact W.iret (v := 0) hx hb hr (fun t ht hW => ⟨⟨0, (u2, vp_updL g 0 r1.toInt64), rfl, ⟨hw3.1, hw3.2.1, (hw3.2.2.2.2)⟩, ⟨by rw [ht]; exact hP9, hD9⟩⟩, hS.F ht⟩) hS.2.2 dL_seen_16

set_option maxHeartbeats 4000000 in
set_option maxRecDepth 100000 in
theorem c_L_addStep (l : Launch) (hlt : l.stackTraces = false) (D : va_G) (dA : Nat → ClassId) (E : Nat) (c9 : CS) (tn o : Nat) (g : Nat → Int64) (p0 : Int32) (p1 : Int32) (p2 : Int32) (sz : Nat) (hI : CI E tn c9) (htn : tn ≤ 600) (hch : narrow .char (.int p0) = .int p0 ∧ fits .char (.int p0) = true) : vx_Met l yL_addStep (wq (.codeWith yL_addStep cL_addStep 6 (some .int) [(0, 12, 15, 13), (0, 12, 19, 15)])) { frames := 7, cells := 2, slots := 13, locals := 124 } (va_Pc [.ref (c9.xa 0), .int p0, .int p1, .int p2, .ref o] (PcB D dA E (HAppend.hAppend (α := va_W) (β := va_W) (γ := va_W) [(o, .inl (dA 3, 1, .inr (.inl g)))] (CW dA c9)) sz)) (va_Qi (fun (r : Int32) (u : CS × (Nat → Int64)) => CI E (tn + 1) u.1 ∧ u.1.xa = c9.xa ∧ ((u.1.vs = c9.vs) ∧ (u.1.nv = c9.nv) ∧ (u.1.VN = c9.VN))) (fun u t => va_P D vwCl ([(o, .inl (dA 3, 1, .inr (.inl u.2)))] ++ (CW dA u.1)) t.heap ∧ va_D (va_A (HAppend.hAppend (α := va_W) (β := va_W) (γ := va_W) [(o, .inl (dA 3, 1, .inr (.inl g)))] (CW dA c9)) sz) ([(o, .inl (dA 3, 1, .inr (.inl u.2)))] ++ (CW dA u.1))) (va_A (HAppend.hAppend (α := va_W) (β := va_W) (γ := va_W) [(o, .inl (dA 3, 1, .inr (.inl g)))] (CW dA c9)) sz)) (vx_X (fun (k : Nat) => False) (fun E9 k t => E9 = xN k) (va_A (HAppend.hAppend (α := va_W) (β := va_W) (γ := va_W) [(o, .inl (dA 3, 1, .inr (.inl g)))] (CW dA c9)) sz)) 2 13 (va_A (HAppend.hAppend (α := va_W) (β := va_W) (γ := va_W) [(o, .inl (dA 3, 1, .inr (.inl g)))] (CW dA c9)) sz) := by
  refine mh_of (y := yL_addStep) (av := [.ref (c9.xa 0), .int p0, .int p1, .int p2, .ref o]) (maxL := 6) (Qc := fun A => va_Qi (fun (r : Int32) (u : CS × (Nat → Int64)) => CI E (tn + 1) u.1 ∧ u.1.xa = c9.xa ∧ ((u.1.vs = c9.vs) ∧ (u.1.nv = c9.nv) ∧ (u.1.VN = c9.VN))) (fun u t => va_P D vwCl ([(o, .inl (dA 3, 1, .inr (.inl u.2)))] ++ (CW dA u.1)) t.heap ∧ va_D A ([(o, .inl (dA 3, 1, .inr (.inl u.2)))] ++ (CW dA u.1))) A) (XC := fun A => vx_X (fun (k : Nat) => False) (fun E9 k t => E9 = xN k) A) RL rfl (by decide) (Nat.le_of_ble_eq_true rfl) ?_
  intro p e s m args below meth c hae hx hb hr hts hown hlocks hml hnm htb hP hK A hAe hD hZ hS hA ls hl
  replace hl : lv_has ls 6 [(0, .ref (c9.xa 0)), (1, .int p0), (2, .int p1), (3, .int p2), (4, .ref o)] := hl
  refine lv_aload hx hb dL_addStep_0 (lv_at hl 4 rfl) ?_
  refine lv_iconst (v := 0) hx hb dL_addStep_2 (by decide) ?_
  refine lv_aload_n hx hb dL_addStep_3 rfl (lv_at hl 0 rfl) ?_
  refine lv_iload_n hx hb dL_addStep_4 rfl (lv_at hl 1 rfl) ?_
  refine lv_iload_n hx hb dL_addStep_5 rfl (lv_at hl 2 rfl) ?_
  refine lv_iload_n hx hb dL_addStep_6 rfl (lv_at hl 3 rfl) ?_
  replace hPc := va_P.part (X := [(o, .inl (dA 3, 1, .inr (.inl g)))]) (cx := []) (pl := (CW dA c9)) hP [] rfl
  replace hDc := va_D.part (X := [(o, .inl (dA 3, 1, .inr (.inl g)))]) (cx := []) (pl := (CW dA c9)) hD [] (by decide) rfl
  replace hFc := va_freeP (X := [(o, .inl (dA 3, 1, .inr (.inl g)))]) (cx := []) (pl := (CW dA c9)) hD hS hA [] rfl
  refine vx_calli (vx_runV (As := [.int p0, .int p1, .int p2]) (rest := [.int 0, .ref o]) ⟨hx, hb, hml, hown, hts⟩ (y8_addStep l hlt D dA E c9 tn p0 p1 p2 s.heap.size  hI htn hch) (cwV 3 hts (ga_V q742 q743 q740 q346 q741) rfl rfl rfl (by decide +kernel) ⟨(Nat.le_of_ble_eq_true rfl), (Nat.le_of_ble_eq_true rfl)⟩) ⟨pb_blind, va_recv hK hPc (ci := 11) (q0 := 0) rfl rfl, pb_pre hK hPc hDc hZ hS hFc _⟩ rfl rfl hl.1 rfl (lv_room (Nat.le_of_ble_eq_true rfl)) dL_addStep_7 ⟨(Nat.le_of_ble_eq_true rfl), (Nat.le_of_ble_eq_true rfl)⟩) hS (fun q _ h => hFc q h) hFc (fun q _ h => hFc q h) (fun E9 ce q9 k t H1 locs ht hvm hpx hBX hz1 hk1 hS hce hcv hcl => ?_) (fun r u t H1 locs ht hvm hw hB hz1 hk1 hS => ?_)
  · obtain ⟨k1, kx⟩ := k
    obtain ⟨hBE, hP1, hD1⟩ := hBX
    rw [ht] at hP1
    dsimp only at hpx hBE hP1 hD1
    obtain ⟨hP, hD⟩ := va_joinP (X := [(o, .inl (dA 3, 1, .inr (.inl g)))]) (cx := []) (wr := [(o, .inl (dA 3, 1, .inr (.inl g)))]) (rx := []) (pl := (CW dA c9)) (pl1 := (CW dA kx)) hP hD [] [0] rfl rfl (by decide) (by decide) hk1 hFc hP1 hD1
    generalize H1 = H at hP hS hce ⊢
    replace hP : va_P D vwCl (HAppend.hAppend (α := va_W) (β := va_W) (γ := va_W) [(o, .inl (dA 3, 1, .inr (.inl g)))] (CW dA kx)) H := hP
    replace hD : va_D A (HAppend.hAppend (α := va_W) (β := va_W) (γ := va_W) [(o, .inl (dA 3, 1, .inr (.inl g)))] (CW dA kx)) := hD
    obtain ⟨hcx, hxx, hkx, hrx⟩ := hpx
    refine vx_widen (k := 2) (n := 13) (Nat.le_of_ble_eq_true rfl) (Nat.le_of_ble_eq_true rfl) ?_
    rcases hkx with rfl | rfl
    · subst hBE
      refine vx_catch (own := RL) (name := "java/lang/IllegalArgumentException") (E := "java/lang/IllegalArgumentException") hown [] ⟨0, 12, 15, 13⟩ [⟨0, 12, 19, 15⟩] htb (fun _ h9 => absurd h9 List.not_mem_nil) rfl (by decide) (hts _ q697) (va_Nw.use rfl (znC_0 hZ.1)) hce hcv hcl ?_
      refine W.eq (g2 := F0 m 15 ls [.ref q9]) rfl ?_
      refine lv_astore (lv' := [(5, .ref q9), (0, .ref (c9.xa 0)), (1, .int p0), (2, .int p1), (3, .int p2), (4, .ref o)]) hx hb dL_addStep_15 hl (by decide) rfl (fun ls hl => ?_)
      refine lv_iconst (v := 1) hx hb dL_addStep_17 (by decide) ?_
      refine W.widen (k := 2) (n := 13) (Nat.le_of_ble_eq_true rfl) (Nat.le_of_ble_eq_true rfl) ?_
      refine vx_ret ?_
      have hP9 := va_P.part (X := [(o, .inl (dA 3, 1, .inr (.inl g)))]) (cx := [(o, .inl (dA 3, 1, .inr (.inl g)))]) (pl := (CW dA kx)) hP [0] rfl
      have hD9 := va_D.part (X := [(o, .inl (dA 3, 1, .inr (.inl g)))]) (cx := [(o, .inl (dA 3, 1, .inr (.inl g)))]) (pl := (CW dA kx)) hD [0] (by decide) rfl
      exact W.iret (v := 1) hx hb hr (fun t ht hW => ⟨⟨1, (kx, g), rfl, ⟨hcx, hxx, (hrx.2)⟩, ⟨by rw [ht]; exact hP9, hD9⟩⟩, hS.F ht⟩) hS.2.2 dL_addStep_18
    · subst hBE
      refine vx_catch (own := RL) (name := "java/lang/IllegalStateException") (E := "java/lang/IllegalStateException") hown [⟨0, 12, 15, 13⟩] ⟨0, 12, 19, 15⟩ [] htb (List.forall_mem_cons.mpr ⟨Or.inr ⟨by decide, "java/lang/IllegalArgumentException", hts _ q697, (znN_0 hZ.1)⟩, (fun _ h9 => absurd h9 List.not_mem_nil)⟩) rfl (by decide) (hts _ q719) (va_Nw.use rfl (znC_1 hZ.1)) hce hcv hcl ?_
      refine W.eq (g2 := F0 m 19 ls [.ref q9]) rfl ?_
      refine lv_astore (lv' := [(5, .ref q9), (0, .ref (c9.xa 0)), (1, .int p0), (2, .int p1), (3, .int p2), (4, .ref o)]) hx hb dL_addStep_19 hl (by decide) rfl (fun ls hl => ?_)
      refine lv_iconst (v := 2) hx hb dL_addStep_21 (by decide) ?_
      refine W.widen (k := 2) (n := 13) (Nat.le_of_ble_eq_true rfl) (Nat.le_of_ble_eq_true rfl) ?_
      refine vx_ret ?_
      have hP9 := va_P.part (X := [(o, .inl (dA 3, 1, .inr (.inl g)))]) (cx := [(o, .inl (dA 3, 1, .inr (.inl g)))]) (pl := (CW dA kx)) hP [0] rfl
      have hD9 := va_D.part (X := [(o, .inl (dA 3, 1, .inr (.inl g)))]) (cx := [(o, .inl (dA 3, 1, .inr (.inl g)))]) (pl := (CW dA kx)) hD [0] (by decide) rfl
      exact W.iret (v := 2) hx hb hr (fun t ht hW => ⟨⟨2, (kx, g), rfl, ⟨hcx, hxx, (hrx.2)⟩, ⟨by rw [ht]; exact hP9, hD9⟩⟩, hS.F ht⟩) hS.2.2 dL_addStep_22
  · refine W.widen (k := 2) (n := 13) (Nat.le_of_ble_eq_true rfl) (Nat.le_of_ble_eq_true rfl) ?_
    obtain ⟨r1, rfl⟩ : ∃ z, z = r := ⟨_, rfl⟩
    obtain ⟨u2, rfl⟩ : ∃ z, z = u := ⟨_, rfl⟩
    have hw3 := hw
    clear hw
    obtain ⟨hP1, hD1⟩ := hB
    rw [ht] at hP1
    obtain ⟨hP, hD⟩ := va_joinP (X := [(o, .inl (dA 3, 1, .inr (.inl g)))]) (cx := []) (wr := [(o, .inl (dA 3, 1, .inr (.inl g)))]) (rx := []) (pl := (CW dA c9)) (pl1 := (CW dA u2)) hP hD [] [0] rfl rfl (by decide) (by decide) hk1 hFc hP1 hD1
    generalize H1 = H at hP hS ⊢
    replace hP : va_P D vwCl (HAppend.hAppend (α := va_W) (β := va_W) (γ := va_W) [(o, .inl (dA 3, 1, .inr (.inl g)))] (CW dA u2)) H := hP
    replace hD : va_D A (HAppend.hAppend (α := va_W) (β := va_W) (γ := va_W) [(o, .inl (dA 3, 1, .inr (.inl g)))] (CW dA u2)) := hD
    refine lv_i2l (v := r1.toInt64) hx hb dL_addStep_10 rfl ?_
    refine va_last hx hb hK hP hD hS 0 3 rfl rfl (vi_c (by decide)) dL_addStep_11 (fun H locs hP hD hS => ?_)
    replace hP : va_P D vwCl (HAppend.hAppend (α := va_W) (β := va_W) (γ := va_W) [(o, .inl (dA 3, 1, .inr (.inl (vp_updL g 0 r1.toInt64))))] (CW dA u2)) H := hP
    replace hD : va_D A (HAppend.hAppend (α := va_W) (β := va_W) (γ := va_W) [(o, .inl (dA 3, 1, .inr (.inl (vp_updL g 0 r1.toInt64))))] (CW dA u2)) := hD
    refine lv_goto (tgt := 23) hx hb dL_addStep_12 (by decide) ?_
    refine lv_iconst (v := 0) hx hb dL_addStep_23 (by decide) ?_
    refine W.widen (k := 2) (n := 13) (Nat.le_of_ble_eq_true rfl) (Nat.le_of_ble_eq_true rfl) ?_
    refine vx_ret ?_
    have hP9 := va_P.part (X := [(o, .inl (dA 3, 1, .inr (.inl (vp_updL g 0 r1.toInt64))))]) (cx := [(o, .inl (dA 3, 1, .inr (.inl (vp_updL g 0 r1.toInt64))))]) (pl := (CW dA u2)) hP [0] rfl
    have hD9 := va_D.part (X := [(o, .inl (dA 3, 1, .inr (.inl (vp_updL g 0 r1.toInt64))))]) (cx := [(o, .inl (dA 3, 1, .inr (.inl (vp_updL g 0 r1.toInt64))))]) (pl := (CW dA u2)) hD [0] (by decide) rfl
    exact W.iret (v := 0) hx hb hr (fun t ht hW => ⟨⟨0, (u2, vp_updL g 0 r1.toInt64), rfl, ⟨hw3.1, hw3.2.1, (hw3.2.2.2.2)⟩, ⟨by rw [ht]; exact hP9, hD9⟩⟩, hS.F ht⟩) hS.2.2 dL_addStep_24

set_option maxHeartbeats 4000000 in
set_option maxRecDepth 100000 in
theorem c_L_ask (l : Launch) (hlt : l.stackTraces = false) (D : va_G) (dA : Nat → ClassId) (E : Nat) (c9 : CS) (tn o : Nat) (g : Nat → Int64) (p0 : Int32) (p1 : Int32) (p2 : Int32) (p3 : Int32) (p4 : Int32) (sz : Nat) (hI : CI E tn c9) (htn : tn ≤ 600) (hch : narrow .char (.int p0) = .int p0 ∧ fits .char (.int p0) = true) : vx_Met l yL_ask (wq (.codeWith yL_ask cL_ask 8 (some .int) [(0, 16, 19, 13), (0, 16, 23, 15)])) { frames := 8, cells := 2, slots := 55, locals := 186 } (va_Pc [.ref (c9.xa 0), .int p0, .int p1, .int p2, .int p3, .int p4, .ref o] (PcB D dA E (HAppend.hAppend (α := va_W) (β := va_W) (γ := va_W) [(o, .inl (dA 3, 1, .inr (.inl g)))] (CW dA c9)) sz)) (va_Qi (fun (r : Int32) (u : CS × (Nat → Int64)) => CI E (tn + 1) u.1 ∧ u.1.xa = c9.xa ∧ ((u.1.vs = c9.vs) ∧ (u.1.nv = c9.nv) ∧ (u.1.VN = c9.VN))) (fun u t => va_P D vwCl ([(o, .inl (dA 3, 1, .inr (.inl u.2)))] ++ (CW dA u.1)) t.heap ∧ va_D (va_A (HAppend.hAppend (α := va_W) (β := va_W) (γ := va_W) [(o, .inl (dA 3, 1, .inr (.inl g)))] (CW dA c9)) sz) ([(o, .inl (dA 3, 1, .inr (.inl u.2)))] ++ (CW dA u.1))) (va_A (HAppend.hAppend (α := va_W) (β := va_W) (γ := va_W) [(o, .inl (dA 3, 1, .inr (.inl g)))] (CW dA c9)) sz)) (vx_X (fun (k : Nat) => False) (fun E9 k t => E9 = xN k) (va_A (HAppend.hAppend (α := va_W) (β := va_W) (γ := va_W) [(o, .inl (dA 3, 1, .inr (.inl g)))] (CW dA c9)) sz)) 2 55 (va_A (HAppend.hAppend (α := va_W) (β := va_W) (γ := va_W) [(o, .inl (dA 3, 1, .inr (.inl g)))] (CW dA c9)) sz) := by
  refine mh_of (y := yL_ask) (av := [.ref (c9.xa 0), .int p0, .int p1, .int p2, .int p3, .int p4, .ref o]) (maxL := 8) (Qc := fun A => va_Qi (fun (r : Int32) (u : CS × (Nat → Int64)) => CI E (tn + 1) u.1 ∧ u.1.xa = c9.xa ∧ ((u.1.vs = c9.vs) ∧ (u.1.nv = c9.nv) ∧ (u.1.VN = c9.VN))) (fun u t => va_P D vwCl ([(o, .inl (dA 3, 1, .inr (.inl u.2)))] ++ (CW dA u.1)) t.heap ∧ va_D A ([(o, .inl (dA 3, 1, .inr (.inl u.2)))] ++ (CW dA u.1))) A) (XC := fun A => vx_X (fun (k : Nat) => False) (fun E9 k t => E9 = xN k) A) RL rfl (by decide) (Nat.le_of_ble_eq_true rfl) ?_
  intro p e s m args below meth c hae hx hb hr hts hown hlocks hml hnm htb hP hK A hAe hD hZ hS hA ls hl
  replace hl : lv_has ls 8 [(0, .ref (c9.xa 0)), (1, .int p0), (2, .int p1), (3, .int p2), (4, .int p3), (5, .int p4), (6, .ref o)] := hl
  refine lv_aload hx hb dL_ask_0 (lv_at hl 6 rfl) ?_
  refine lv_iconst (v := 0) hx hb dL_ask_2 (by decide) ?_
  refine lv_aload_n hx hb dL_ask_3 rfl (lv_at hl 0 rfl) ?_
  refine lv_iload_n hx hb dL_ask_4 rfl (lv_at hl 1 rfl) ?_
  refine lv_iload_n hx hb dL_ask_5 rfl (lv_at hl 2 rfl) ?_
  refine lv_iload_n hx hb dL_ask_6 rfl (lv_at hl 3 rfl) ?_
  refine lv_iload hx hb dL_ask_7 (lv_at hl 4 rfl) ?_
  refine lv_iload hx hb dL_ask_9 (lv_at hl 5 rfl) ?_
  replace hPc := va_P.part (X := [(o, .inl (dA 3, 1, .inr (.inl g)))]) (cx := []) (pl := (CW dA c9)) hP [] rfl
  replace hDc := va_D.part (X := [(o, .inl (dA 3, 1, .inr (.inl g)))]) (cx := []) (pl := (CW dA c9)) hD [] (by decide) rfl
  replace hFc := va_freeP (X := [(o, .inl (dA 3, 1, .inr (.inl g)))]) (cx := []) (pl := (CW dA c9)) hD hS hA [] rfl
  refine vx_calli (vx_runV (As := [.int p0, .int p1, .int p2, .int p3, .int p4]) (rest := [.int 0, .ref o]) ⟨hx, hb, hml, hown, hts⟩ (y8_ask l hlt D dA E c9 tn p0 p1 p2 p3 p4 s.heap.size  hI htn hch) (cwV 5 hts (ga_V q746 q747 q744 q346 q745) rfl rfl rfl (by decide +kernel) ⟨(Nat.le_of_ble_eq_true rfl), (Nat.le_of_ble_eq_true rfl)⟩) ⟨pb_blind, va_recv hK hPc (ci := 11) (q0 := 0) rfl rfl, pb_pre hK hPc hDc hZ hS hFc _⟩ rfl rfl hl.1 rfl (lv_room (Nat.le_of_ble_eq_true rfl)) dL_ask_11 ⟨(Nat.le_of_ble_eq_true rfl), (Nat.le_of_ble_eq_true rfl)⟩) hS (fun q _ h => hFc q h) hFc (fun q _ h => hFc q h) (fun E9 ce q9 k t H1 locs ht hvm hpx hBX hz1 hk1 hS hce hcv hcl => ?_) (fun r u t H1 locs ht hvm hw hB hz1 hk1 hS => ?_)
  · obtain ⟨k1, kx⟩ := k
    obtain ⟨hBE, hP1, hD1⟩ := hBX
    rw [ht] at hP1
    dsimp only at hpx hBE hP1 hD1
    obtain ⟨hP, hD⟩ := va_joinP (X := [(o, .inl (dA 3, 1, .inr (.inl g)))]) (cx := []) (wr := [(o, .inl (dA 3, 1, .inr (.inl g)))]) (rx := []) (pl := (CW dA c9)) (pl1 := (CW dA kx)) hP hD [] [0] rfl rfl (by decide) (by decide) hk1 hFc hP1 hD1
    generalize H1 = H at hP hS hce ⊢
    replace hP : va_P D vwCl (HAppend.hAppend (α := va_W) (β := va_W) (γ := va_W) [(o, .inl (dA 3, 1, .inr (.inl g)))] (CW dA kx)) H := hP
    replace hD : va_D A (HAppend.hAppend (α := va_W) (β := va_W) (γ := va_W) [(o, .inl (dA 3, 1, .inr (.inl g)))] (CW dA kx)) := hD
    obtain ⟨hcx, hxx, hkx, hrx⟩ := hpx
    refine vx_widen (k := 2) (n := 55) (Nat.le_of_ble_eq_true rfl) (Nat.le_of_ble_eq_true rfl) ?_
    rcases hkx with rfl | rfl
    · subst hBE
      refine vx_catch (own := RL) (name := "java/lang/IllegalArgumentException") (E := "java/lang/IllegalArgumentException") hown [] ⟨0, 16, 19, 13⟩ [⟨0, 16, 23, 15⟩] htb (fun _ h9 => absurd h9 List.not_mem_nil) rfl (by decide) (hts _ q697) (va_Nw.use rfl (znC_0 hZ.1)) hce hcv hcl ?_
      refine W.eq (g2 := F0 m 19 ls [.ref q9]) rfl ?_
      refine lv_astore (lv' := [(7, .ref q9), (0, .ref (c9.xa 0)), (1, .int p0), (2, .int p1), (3, .int p2), (4, .int p3), (5, .int p4), (6, .ref o)]) hx hb dL_ask_19 hl (by decide) rfl (fun ls hl => ?_)
      refine lv_iconst (v := 1) hx hb dL_ask_21 (by decide) ?_
      refine W.widen (k := 2) (n := 55) (Nat.le_of_ble_eq_true rfl) (Nat.le_of_ble_eq_true rfl) ?_
      refine vx_ret ?_
      have hP9 := va_P.part (X := [(o, .inl (dA 3, 1, .inr (.inl g)))]) (cx := [(o, .inl (dA 3, 1, .inr (.inl g)))]) (pl := (CW dA kx)) hP [0] rfl
      have hD9 := va_D.part (X := [(o, .inl (dA 3, 1, .inr (.inl g)))]) (cx := [(o, .inl (dA 3, 1, .inr (.inl g)))]) (pl := (CW dA kx)) hD [0] (by decide) rfl
      exact W.iret (v := 1) hx hb hr (fun t ht hW => ⟨⟨1, (kx, g), rfl, ⟨hcx, hxx, (hrx.2)⟩, ⟨by rw [ht]; exact hP9, hD9⟩⟩, hS.F ht⟩) hS.2.2 dL_ask_22
    · subst hBE
      refine vx_catch (own := RL) (name := "java/lang/IllegalStateException") (E := "java/lang/IllegalStateException") hown [⟨0, 16, 19, 13⟩] ⟨0, 16, 23, 15⟩ [] htb (List.forall_mem_cons.mpr ⟨Or.inr ⟨by decide, "java/lang/IllegalArgumentException", hts _ q697, (znN_0 hZ.1)⟩, (fun _ h9 => absurd h9 List.not_mem_nil)⟩) rfl (by decide) (hts _ q719) (va_Nw.use rfl (znC_1 hZ.1)) hce hcv hcl ?_
      refine W.eq (g2 := F0 m 23 ls [.ref q9]) rfl ?_
      refine lv_astore (lv' := [(7, .ref q9), (0, .ref (c9.xa 0)), (1, .int p0), (2, .int p1), (3, .int p2), (4, .int p3), (5, .int p4), (6, .ref o)]) hx hb dL_ask_23 hl (by decide) rfl (fun ls hl => ?_)
      refine lv_iconst (v := 2) hx hb dL_ask_25 (by decide) ?_
      refine W.widen (k := 2) (n := 55) (Nat.le_of_ble_eq_true rfl) (Nat.le_of_ble_eq_true rfl) ?_
      refine vx_ret ?_
      have hP9 := va_P.part (X := [(o, .inl (dA 3, 1, .inr (.inl g)))]) (cx := [(o, .inl (dA 3, 1, .inr (.inl g)))]) (pl := (CW dA kx)) hP [0] rfl
      have hD9 := va_D.part (X := [(o, .inl (dA 3, 1, .inr (.inl g)))]) (cx := [(o, .inl (dA 3, 1, .inr (.inl g)))]) (pl := (CW dA kx)) hD [0] (by decide) rfl
      exact W.iret (v := 2) hx hb hr (fun t ht hW => ⟨⟨2, (kx, g), rfl, ⟨hcx, hxx, (hrx.2)⟩, ⟨by rw [ht]; exact hP9, hD9⟩⟩, hS.F ht⟩) hS.2.2 dL_ask_26
  · refine W.widen (k := 2) (n := 55) (Nat.le_of_ble_eq_true rfl) (Nat.le_of_ble_eq_true rfl) ?_
    obtain ⟨r1, rfl⟩ : ∃ z, z = r := ⟨_, rfl⟩
    obtain ⟨u2, rfl⟩ : ∃ z, z = u := ⟨_, rfl⟩
    have hw3 := hw
    clear hw
    obtain ⟨hP1, hD1⟩ := hB
    rw [ht] at hP1
    obtain ⟨hP, hD⟩ := va_joinP (X := [(o, .inl (dA 3, 1, .inr (.inl g)))]) (cx := []) (wr := [(o, .inl (dA 3, 1, .inr (.inl g)))]) (rx := []) (pl := (CW dA c9)) (pl1 := (CW dA u2)) hP hD [] [0] rfl rfl (by decide) (by decide) hk1 hFc hP1 hD1
    generalize H1 = H at hP hS ⊢
    replace hP : va_P D vwCl (HAppend.hAppend (α := va_W) (β := va_W) (γ := va_W) [(o, .inl (dA 3, 1, .inr (.inl g)))] (CW dA u2)) H := hP
    replace hD : va_D A (HAppend.hAppend (α := va_W) (β := va_W) (γ := va_W) [(o, .inl (dA 3, 1, .inr (.inl g)))] (CW dA u2)) := hD
    refine lv_i2l (v := r1.toInt64) hx hb dL_ask_14 rfl ?_
    refine va_last hx hb hK hP hD hS 0 3 rfl rfl (vi_c (by decide)) dL_ask_15 (fun H locs hP hD hS => ?_)
    replace hP : va_P D vwCl (HAppend.hAppend (α := va_W) (β := va_W) (γ := va_W) [(o, .inl (dA 3, 1, .inr (.inl (vp_updL g 0 r1.toInt64))))] (CW dA u2)) H := hP
    replace hD : va_D A (HAppend.hAppend (α := va_W) (β := va_W) (γ := va_W) [(o, .inl (dA 3, 1, .inr (.inl (vp_updL g 0 r1.toInt64))))] (CW dA u2)) := hD
    refine lv_goto (tgt := 27) hx hb dL_ask_16 (by decide) ?_
    refine lv_iconst (v := 0) hx hb dL_ask_27 (by decide) ?_
    refine W.widen (k := 2) (n := 55) (Nat.le_of_ble_eq_true rfl) (Nat.le_of_ble_eq_true rfl) ?_
    refine vx_ret ?_
    have hP9 := va_P.part (X := [(o, .inl (dA 3, 1, .inr (.inl (vp_updL g 0 r1.toInt64))))]) (cx := [(o, .inl (dA 3, 1, .inr (.inl (vp_updL g 0 r1.toInt64))))]) (pl := (CW dA u2)) hP [0] rfl
    have hD9 := va_D.part (X := [(o, .inl (dA 3, 1, .inr (.inl (vp_updL g 0 r1.toInt64))))]) (cx := [(o, .inl (dA 3, 1, .inr (.inl (vp_updL g 0 r1.toInt64))))]) (pl := (CW dA u2)) hD [0] (by decide) rfl
    exact W.iret (v := 0) hx hb hr (fun t ht hW => ⟨⟨0, (u2, vp_updL g 0 r1.toInt64), rfl, ⟨hw3.1, hw3.2.1, (hw3.2.2.2.2)⟩, ⟨by rw [ht]; exact hP9, hD9⟩⟩, hS.F ht⟩) hS.2.2 dL_ask_28

set_option maxHeartbeats 4000000 in
set_option maxRecDepth 100000 in
theorem c_L_join (l : Launch) (hlt : l.stackTraces = false) (D : va_G) (dA : Nat → ClassId) (E : Nat) (c9 : CS) (tn o : Nat) (g : Nat → Int64) (p0 : Int32) (p1 : Int32) (p2 : Int32) (sz : Nat) (hI : CI E tn c9) (htn : tn ≤ 600) (hch : narrow .char (.int p0) = .int p0 ∧ fits .char (.int p0) = true) : vx_Met l yL_join (wq (.codeWith yL_join cL_join 6 (some .int) [(0, 12, 15, 13), (0, 12, 19, 21), (0, 12, 23, 15)])) { frames := 8, cells := 4, slots := 67, locals := 185 } (va_Pc [.ref (c9.xa 0), .int p0, .int p1, .int p2, .ref o] (PcB D dA E (HAppend.hAppend (α := va_W) (β := va_W) (γ := va_W) [(o, .inl (dA 3, 1, .inr (.inl g)))] (CW dA c9)) sz)) (va_Qi (fun (r : Int32) (u : CS × (Nat → Int64)) => CI E (tn + 1) u.1 ∧ u.1.xa = c9.xa ∧ ((u.1.vs = c9.vs) ∧ (u.1.nv = c9.nv) ∧ (u.1.VN = c9.VN))) (fun u t => va_P D vwCl ([(o, .inl (dA 3, 1, .inr (.inl u.2)))] ++ (CW dA u.1)) t.heap ∧ va_D (va_A (HAppend.hAppend (α := va_W) (β := va_W) (γ := va_W) [(o, .inl (dA 3, 1, .inr (.inl g)))] (CW dA c9)) sz) ([(o, .inl (dA 3, 1, .inr (.inl u.2)))] ++ (CW dA u.1))) (va_A (HAppend.hAppend (α := va_W) (β := va_W) (γ := va_W) [(o, .inl (dA 3, 1, .inr (.inl g)))] (CW dA c9)) sz)) (vx_X (fun (k : Nat) => False) (fun E9 k t => E9 = xN k) (va_A (HAppend.hAppend (α := va_W) (β := va_W) (γ := va_W) [(o, .inl (dA 3, 1, .inr (.inl g)))] (CW dA c9)) sz)) 4 67 (va_A (HAppend.hAppend (α := va_W) (β := va_W) (γ := va_W) [(o, .inl (dA 3, 1, .inr (.inl g)))] (CW dA c9)) sz) := by
  refine mh_of (y := yL_join) (av := [.ref (c9.xa 0), .int p0, .int p1, .int p2, .ref o]) (maxL := 6) (Qc := fun A => va_Qi (fun (r : Int32) (u : CS × (Nat → Int64)) => CI E (tn + 1) u.1 ∧ u.1.xa = c9.xa ∧ ((u.1.vs = c9.vs) ∧ (u.1.nv = c9.nv) ∧ (u.1.VN = c9.VN))) (fun u t => va_P D vwCl ([(o, .inl (dA 3, 1, .inr (.inl u.2)))] ++ (CW dA u.1)) t.heap ∧ va_D A ([(o, .inl (dA 3, 1, .inr (.inl u.2)))] ++ (CW dA u.1))) A) (XC := fun A => vx_X (fun (k : Nat) => False) (fun E9 k t => E9 = xN k) A) RL rfl (by decide) (Nat.le_of_ble_eq_true rfl) ?_
  intro p e s m args below meth c hae hx hb hr hts hown hlocks hml hnm htb hP hK A hAe hD hZ hS hA ls hl
  replace hl : lv_has ls 6 [(0, .ref (c9.xa 0)), (1, .int p0), (2, .int p1), (3, .int p2), (4, .ref o)] := hl
  refine lv_aload hx hb dL_join_0 (lv_at hl 4 rfl) ?_
  refine lv_iconst (v := 0) hx hb dL_join_2 (by decide) ?_
  refine lv_aload_n hx hb dL_join_3 rfl (lv_at hl 0 rfl) ?_
  refine lv_iload_n hx hb dL_join_4 rfl (lv_at hl 1 rfl) ?_
  refine lv_iload_n hx hb dL_join_5 rfl (lv_at hl 2 rfl) ?_
  refine lv_iload_n hx hb dL_join_6 rfl (lv_at hl 3 rfl) ?_
  replace hPc := va_P.part (X := [(o, .inl (dA 3, 1, .inr (.inl g)))]) (cx := []) (pl := (CW dA c9)) hP [] rfl
  replace hDc := va_D.part (X := [(o, .inl (dA 3, 1, .inr (.inl g)))]) (cx := []) (pl := (CW dA c9)) hD [] (by decide) rfl
  replace hFc := va_freeP (X := [(o, .inl (dA 3, 1, .inr (.inl g)))]) (cx := []) (pl := (CW dA c9)) hD hS hA [] rfl
  refine vx_calli (vx_runV (As := [.int p0, .int p1, .int p2]) (rest := [.int 0, .ref o]) ⟨hx, hb, hml, hown, hts⟩ (y8_join l hlt D dA E c9 tn p0 p1 p2 s.heap.size  hI htn hch) (cwV 3 hts (ga_V q750 q751 q748 q346 q749) rfl rfl rfl (by decide +kernel) ⟨(Nat.le_of_ble_eq_true rfl), (Nat.le_of_ble_eq_true rfl)⟩) ⟨pb_blind, va_recv hK hPc (ci := 11) (q0 := 0) rfl rfl, pb_pre hK hPc hDc hZ hS hFc _⟩ rfl rfl hl.1 rfl (lv_room (Nat.le_of_ble_eq_true rfl)) dL_join_7 ⟨(Nat.le_of_ble_eq_true rfl), (Nat.le_of_ble_eq_true rfl)⟩) hS (fun q _ h => hFc q h) hFc (fun q _ h => hFc q h) (fun E9 ce q9 k t H1 locs ht hvm hpx hBX hz1 hk1 hS hce hcv hcl => ?_) (fun r u t H1 locs ht hvm hw hB hz1 hk1 hS => ?_)
  · obtain ⟨k1, kx⟩ := k
    obtain ⟨hBE, hP1, hD1⟩ := hBX
    rw [ht] at hP1
    dsimp only at hpx hBE hP1 hD1
    obtain ⟨hP, hD⟩ := va_joinP (X := [(o, .inl (dA 3, 1, .inr (.inl g)))]) (cx := []) (wr := [(o, .inl (dA 3, 1, .inr (.inl g)))]) (rx := []) (pl := (CW dA c9)) (pl1 := (CW dA kx)) hP hD [] [0] rfl rfl (by decide) (by decide) hk1 hFc hP1 hD1
    generalize H1 = H at hP hS hce ⊢
    replace hP : va_P D vwCl (HAppend.hAppend (α := va_W) (β := va_W) (γ := va_W) [(o, .inl (dA 3, 1, .inr (.inl g)))] (CW dA kx)) H := hP
    replace hD : va_D A (HAppend.hAppend (α := va_W) (β := va_W) (γ := va_W) [(o, .inl (dA 3, 1, .inr (.inl g)))] (CW dA kx)) := hD
    obtain ⟨hcx, hxx, hkx, hrx⟩ := hpx
    refine vx_widen (k := 4) (n := 67) (Nat.le_of_ble_eq_true rfl) (Nat.le_of_ble_eq_true rfl) ?_
    rcases hkx with rfl | rfl | rfl
    · subst hBE
      refine vx_catch (own := RL) (name := "java/lang/IllegalArgumentException") (E := "java/lang/IllegalArgumentException") hown [] ⟨0, 12, 15, 13⟩ [⟨0, 12, 19, 21⟩, ⟨0, 12, 23, 15⟩] htb (fun _ h9 => absurd h9 List.not_mem_nil) rfl (by decide) (hts _ q697) (va_Nw.use rfl (znC_0 hZ.1)) hce hcv hcl ?_
      refine W.eq (g2 := F0 m 15 ls [.ref q9]) rfl ?_
      refine lv_astore (lv' := [(5, .ref q9), (0, .ref (c9.xa 0)), (1, .int p0), (2, .int p1), (3, .int p2), (4, .ref o)]) hx hb dL_join_15 hl (by decide) rfl (fun ls hl => ?_)
      refine lv_iconst (v := 1) hx hb dL_join_17 (by decide) ?_
      refine W.widen (k := 4) (n := 67) (Nat.le_of_ble_eq_true rfl) (Nat.le_of_ble_eq_true rfl) ?_
      refine vx_ret ?_
      have hP9 := va_P.part (X := [(o, .inl (dA 3, 1, .inr (.inl g)))]) (cx := [(o, .inl (dA 3, 1, .inr (.inl g)))]) (pl := (CW dA kx)) hP [0] rfl
      have hD9 := va_D.part (X := [(o, .inl (dA 3, 1, .inr (.inl g)))]) (cx := [(o, .inl (dA 3, 1, .inr (.inl g)))]) (pl := (CW dA kx)) hD [0] (by decide) rfl
      exact W.iret (v := 1) hx hb hr (fun t ht hW => ⟨⟨1, (kx, g), rfl, ⟨hcx, hxx, (hrx.2)⟩, ⟨by rw [ht]; exact hP9, hD9⟩⟩, hS.F ht⟩) hS.2.2 dL_join_18
    · subst hBE
      refine vx_catch (own := RL) (name := "java/lang/IndexOutOfBoundsException") (E := "java/lang/IndexOutOfBoundsException") hown [⟨0, 12, 15, 13⟩] ⟨0, 12, 19, 21⟩ [⟨0, 12, 23, 15⟩] htb (List.forall_mem_cons.mpr ⟨Or.inr ⟨by decide, "java/lang/IllegalArgumentException", hts _ q697, (znN_1 hZ.1)⟩, (fun _ h9 => absurd h9 List.not_mem_nil)⟩) rfl (by decide) (hts _ q702) (va_Nw.use rfl (znC_3 hZ.1)) hce hcv hcl ?_
      refine W.eq (g2 := F0 m 19 ls [.ref q9]) rfl ?_
      refine lv_astore (lv' := [(5, .ref q9), (0, .ref (c9.xa 0)), (1, .int p0), (2, .int p1), (3, .int p2), (4, .ref o)]) hx hb dL_join_19 hl (by decide) rfl (fun ls hl => ?_)
      refine lv_iconst (v := 2) hx hb dL_join_21 (by decide) ?_
      refine W.widen (k := 4) (n := 67) (Nat.le_of_ble_eq_true rfl) (Nat.le_of_ble_eq_true rfl) ?_
      refine vx_ret ?_
      have hP9 := va_P.part (X := [(o, .inl (dA 3, 1, .inr (.inl g)))]) (cx := [(o, .inl (dA 3, 1, .inr (.inl g)))]) (pl := (CW dA kx)) hP [0] rfl
      have hD9 := va_D.part (X := [(o, .inl (dA 3, 1, .inr (.inl g)))]) (cx := [(o, .inl (dA 3, 1, .inr (.inl g)))]) (pl := (CW dA kx)) hD [0] (by decide) rfl
      exact W.iret (v := 2) hx hb hr (fun t ht hW => ⟨⟨2, (kx, g), rfl, ⟨hcx, hxx, (hrx.2)⟩, ⟨by rw [ht]; exact hP9, hD9⟩⟩, hS.F ht⟩) hS.2.2 dL_join_22
    · subst hBE
      refine vx_catch (own := RL) (name := "java/lang/IllegalStateException") (E := "java/lang/IllegalStateException") hown [⟨0, 12, 15, 13⟩, ⟨0, 12, 19, 21⟩] ⟨0, 12, 23, 15⟩ [] htb (List.forall_mem_cons.mpr ⟨Or.inr ⟨by decide, "java/lang/IllegalArgumentException", hts _ q697, (znN_0 hZ.1)⟩, (List.forall_mem_cons.mpr ⟨Or.inr ⟨by decide, "java/lang/IndexOutOfBoundsException", hts _ q702, (znN_9 hZ.1)⟩, (fun _ h9 => absurd h9 List.not_mem_nil)⟩)⟩) rfl (by decide) (hts _ q719) (va_Nw.use rfl (znC_1 hZ.1)) hce hcv hcl ?_
      refine W.eq (g2 := F0 m 23 ls [.ref q9]) rfl ?_
      refine lv_astore (lv' := [(5, .ref q9), (0, .ref (c9.xa 0)), (1, .int p0), (2, .int p1), (3, .int p2), (4, .ref o)]) hx hb dL_join_23 hl (by decide) rfl (fun ls hl => ?_)
      refine lv_iconst (v := 3) hx hb dL_join_25 (by decide) ?_
      refine W.widen (k := 4) (n := 67) (Nat.le_of_ble_eq_true rfl) (Nat.le_of_ble_eq_true rfl) ?_
      refine vx_ret ?_
      have hP9 := va_P.part (X := [(o, .inl (dA 3, 1, .inr (.inl g)))]) (cx := [(o, .inl (dA 3, 1, .inr (.inl g)))]) (pl := (CW dA kx)) hP [0] rfl
      have hD9 := va_D.part (X := [(o, .inl (dA 3, 1, .inr (.inl g)))]) (cx := [(o, .inl (dA 3, 1, .inr (.inl g)))]) (pl := (CW dA kx)) hD [0] (by decide) rfl
      exact W.iret (v := 3) hx hb hr (fun t ht hW => ⟨⟨3, (kx, g), rfl, ⟨hcx, hxx, (hrx.2)⟩, ⟨by rw [ht]; exact hP9, hD9⟩⟩, hS.F ht⟩) hS.2.2 dL_join_26
  · refine W.widen (k := 4) (n := 67) (Nat.le_of_ble_eq_true rfl) (Nat.le_of_ble_eq_true rfl) ?_
    obtain ⟨r1, rfl⟩ : ∃ z, z = r := ⟨_, rfl⟩
    obtain ⟨u2, rfl⟩ : ∃ z, z = u := ⟨_, rfl⟩
    have hw3 := hw
    clear hw
    obtain ⟨hP1, hD1⟩ := hB
    rw [ht] at hP1
    obtain ⟨hP, hD⟩ := va_joinP (X := [(o, .inl (dA 3, 1, .inr (.inl g)))]) (cx := []) (wr := [(o, .inl (dA 3, 1, .inr (.inl g)))]) (rx := []) (pl := (CW dA c9)) (pl1 := (CW dA u2)) hP hD [] [0] rfl rfl (by decide) (by decide) hk1 hFc hP1 hD1
    generalize H1 = H at hP hS ⊢
    replace hP : va_P D vwCl (HAppend.hAppend (α := va_W) (β := va_W) (γ := va_W) [(o, .inl (dA 3, 1, .inr (.inl g)))] (CW dA u2)) H := hP
    replace hD : va_D A (HAppend.hAppend (α := va_W) (β := va_W) (γ := va_W) [(o, .inl (dA 3, 1, .inr (.inl g)))] (CW dA u2)) := hD
    refine lv_i2l (v := r1.toInt64) hx hb dL_join_10 rfl ?_
    refine va_last hx hb hK hP hD hS 0 3 rfl rfl (vi_c (by decide)) dL_join_11 (fun H locs hP hD hS => ?_)
    replace hP : va_P D vwCl (HAppend.hAppend (α := va_W) (β := va_W) (γ := va_W) [(o, .inl (dA 3, 1, .inr (.inl (vp_updL g 0 r1.toInt64))))] (CW dA u2)) H := hP
    replace hD : va_D A (HAppend.hAppend (α := va_W) (β := va_W) (γ := va_W) [(o, .inl (dA 3, 1, .inr (.inl (vp_updL g 0 r1.toInt64))))] (CW dA u2)) := hD
    refine lv_goto (tgt := 27) hx hb dL_join_12 (by decide) ?_
    refine lv_iconst (v := 0) hx hb dL_join_27 (by decide) ?_
    refine W.widen (k := 4) (n := 67) (Nat.le_of_ble_eq_true rfl) (Nat.le_of_ble_eq_true rfl) ?_
    refine vx_ret ?_
    have hP9 := va_P.part (X := [(o, .inl (dA 3, 1, .inr (.inl (vp_updL g 0 r1.toInt64))))]) (cx := [(o, .inl (dA 3, 1, .inr (.inl (vp_updL g 0 r1.toInt64))))]) (pl := (CW dA u2)) hP [0] rfl
    have hD9 := va_D.part (X := [(o, .inl (dA 3, 1, .inr (.inl (vp_updL g 0 r1.toInt64))))]) (cx := [(o, .inl (dA 3, 1, .inr (.inl (vp_updL g 0 r1.toInt64))))]) (pl := (CW dA u2)) hD [0] (by decide) rfl
    exact W.iret (v := 0) hx hb hr (fun t ht hW => ⟨⟨0, (u2, vp_updL g 0 r1.toInt64), rfl, ⟨hw3.1, hw3.2.1, (hw3.2.2.2.2)⟩, ⟨by rw [ht]; exact hP9, hD9⟩⟩, hS.F ht⟩) hS.2.2 dL_join_28

set_option maxHeartbeats 4000000 in
set_option maxRecDepth 100000 in
theorem c_L_openView (l : Launch) (hlt : l.stackTraces = false) (D : va_G) (dA : Nat → ClassId) (E : Nat) (c9 : CS) (tn o : Nat) (g : Nat → Int64) (sz : Nat) (hI : CI E tn c9) (htn : tn ≤ 600) : vx_Met l yL_openView (wq (.codeWith yL_openView cL_openView 3 (some .int) [(0, 8, 11, 15)])) { frames := 7, cells := 4, slots := 44, locals := 123 } (va_Pc [.ref (c9.xa 0), .ref o] (PcB D dA E (HAppend.hAppend (α := va_W) (β := va_W) (γ := va_W) [(o, .inl (dA 3, 1, .inr (.inl g)))] (CW dA c9)) sz)) (va_Qi (fun (r : Int32) (u : CS × (Nat → Int64)) => CI E (tn + 1) u.1 ∧ u.1.xa = c9.xa ∧ (((r = 0) ∧ (u.2 0 = (nI c9.vs).toInt64) ∧ ((c9.nv < 4)) ∧ ((u.1.vs = c9.vs + 1) ∧ (u.1.nv = c9.nv + 1) ∧ (u.1.VN = va_up c9.VN c9.nv (nI c9.vs)))) ∨ ((r = 1) ∧ ((4 ≤ c9.nv)) ∧ ((u.1.vs = c9.vs) ∧ (u.1.nv = c9.nv) ∧ (u.1.VN = c9.VN))))) (fun u t => va_P D vwCl ([(o, .inl (dA 3, 1, .inr (.inl u.2)))] ++ (CW dA u.1)) t.heap ∧ va_D (va_A (HAppend.hAppend (α := va_W) (β := va_W) (γ := va_W) [(o, .inl (dA 3, 1, .inr (.inl g)))] (CW dA c9)) sz) ([(o, .inl (dA 3, 1, .inr (.inl u.2)))] ++ (CW dA u.1))) (va_A (HAppend.hAppend (α := va_W) (β := va_W) (γ := va_W) [(o, .inl (dA 3, 1, .inr (.inl g)))] (CW dA c9)) sz)) (vx_X (fun (k : Nat) => False) (fun E9 k t => E9 = xN k) (va_A (HAppend.hAppend (α := va_W) (β := va_W) (γ := va_W) [(o, .inl (dA 3, 1, .inr (.inl g)))] (CW dA c9)) sz)) 4 44 (va_A (HAppend.hAppend (α := va_W) (β := va_W) (γ := va_W) [(o, .inl (dA 3, 1, .inr (.inl g)))] (CW dA c9)) sz) := by
  refine mh_of (y := yL_openView) (av := [.ref (c9.xa 0), .ref o]) (maxL := 3) (Qc := fun A => va_Qi (fun (r : Int32) (u : CS × (Nat → Int64)) => CI E (tn + 1) u.1 ∧ u.1.xa = c9.xa ∧ (((r = 0) ∧ (u.2 0 = (nI c9.vs).toInt64) ∧ ((c9.nv < 4)) ∧ ((u.1.vs = c9.vs + 1) ∧ (u.1.nv = c9.nv + 1) ∧ (u.1.VN = va_up c9.VN c9.nv (nI c9.vs)))) ∨ ((r = 1) ∧ ((4 ≤ c9.nv)) ∧ ((u.1.vs = c9.vs) ∧ (u.1.nv = c9.nv) ∧ (u.1.VN = c9.VN))))) (fun u t => va_P D vwCl ([(o, .inl (dA 3, 1, .inr (.inl u.2)))] ++ (CW dA u.1)) t.heap ∧ va_D A ([(o, .inl (dA 3, 1, .inr (.inl u.2)))] ++ (CW dA u.1))) A) (XC := fun A => vx_X (fun (k : Nat) => False) (fun E9 k t => E9 = xN k) A) RL rfl (by decide) (Nat.le_of_ble_eq_true rfl) ?_
  intro p e s m args below meth c hae hx hb hr hts hown hlocks hml hnm htb hP hK A hAe hD hZ hS hA ls hl
  replace hl : lv_has ls 3 [(0, .ref (c9.xa 0)), (1, .ref o)] := hl
  refine lv_aload_n hx hb dL_openView_0 rfl (lv_at hl 1 rfl) ?_
  refine lv_iconst (v := 0) hx hb dL_openView_1 (by decide) ?_
  refine lv_aload_n hx hb dL_openView_2 rfl (lv_at hl 0 rfl) ?_
  replace hPc := va_P.part (X := [(o, .inl (dA 3, 1, .inr (.inl g)))]) (cx := []) (pl := (CW dA c9)) hP [] rfl
  replace hDc := va_D.part (X := [(o, .inl (dA 3, 1, .inr (.inl g)))]) (cx := []) (pl := (CW dA c9)) hD [] (by decide) rfl
  replace hFc := va_freeP (X := [(o, .inl (dA 3, 1, .inr (.inl g)))]) (cx := []) (pl := (CW dA c9)) hD hS hA [] rfl
  refine vx_calli (vx_runV (As := []) (rest := [.int 0, .ref o]) ⟨hx, hb, hml, hown, hts⟩ (y8_openView l hlt D dA E c9 tn s.heap.size  hI htn) (cwV 0 hts (ga_V q754 q755 q752 q346 q753) rfl rfl rfl (by decide +kernel) ⟨(Nat.le_of_ble_eq_true rfl), (Nat.le_of_ble_eq_true rfl)⟩) ⟨pb_blind, va_recv hK hPc (ci := 11) (q0 := 0) rfl rfl, pb_pre hK hPc hDc hZ hS hFc _⟩ rfl rfl hl.1 rfl (lv_room (Nat.le_of_ble_eq_true rfl)) dL_openView_3 ⟨(Nat.le_of_ble_eq_true rfl), (Nat.le_of_ble_eq_true rfl)⟩) hS (fun q _ h => hFc q h) hFc (fun q _ h => hFc q h) (fun E9 ce q9 k t H1 locs ht hvm hpx hBX hz1 hk1 hS hce hcv hcl => ?_) (fun r u t H1 locs ht hvm hw hB hz1 hk1 hS => ?_)
  · obtain ⟨k1, kx⟩ := k
    obtain ⟨hBE, hP1, hD1⟩ := hBX
    rw [ht] at hP1
    dsimp only at hpx hBE hP1 hD1
    obtain ⟨hP, hD⟩ := va_joinP (X := [(o, .inl (dA 3, 1, .inr (.inl g)))]) (cx := []) (wr := [(o, .inl (dA 3, 1, .inr (.inl g)))]) (rx := []) (pl := (CW dA c9)) (pl1 := (CW dA kx)) hP hD [] [0] rfl rfl (by decide) (by decide) hk1 hFc hP1 hD1
    generalize H1 = H at hP hS hce ⊢
    replace hP : va_P D vwCl (HAppend.hAppend (α := va_W) (β := va_W) (γ := va_W) [(o, .inl (dA 3, 1, .inr (.inl g)))] (CW dA kx)) H := hP
    replace hD : va_D A (HAppend.hAppend (α := va_W) (β := va_W) (γ := va_W) [(o, .inl (dA 3, 1, .inr (.inl g)))] (CW dA kx)) := hD
    obtain ⟨hcx, hxx, hkx, hrx⟩ := hpx
    refine vx_widen (k := 4) (n := 44) (Nat.le_of_ble_eq_true rfl) (Nat.le_of_ble_eq_true rfl) ?_
    subst hkx
    subst hBE
    refine vx_catch (own := RL) (name := "java/lang/IllegalStateException") (E := "java/lang/IllegalStateException") hown [] ⟨0, 8, 11, 15⟩ [] htb (fun _ h9 => absurd h9 List.not_mem_nil) rfl (by decide) (hts _ q719) (va_Nw.use rfl (znC_1 hZ.1)) hce hcv hcl ?_
    refine W.eq (g2 := F0 m 11 ls [.ref q9]) rfl ?_
    refine lv_astore_n (lv' := [(2, .ref q9), (0, .ref (c9.xa 0)), (1, .ref o)]) hx hb dL_openView_11 rfl hl (by decide) rfl (fun ls hl => ?_)
    refine lv_iconst (v := 1) hx hb dL_openView_12 (by decide) ?_
    refine W.widen (k := 4) (n := 44) (Nat.le_of_ble_eq_true rfl) (Nat.le_of_ble_eq_true rfl) ?_
    refine vx_ret ?_
    have hP9 := va_P.part (X := [(o, .inl (dA 3, 1, .inr (.inl g)))]) (cx := [(o, .inl (dA 3, 1, .inr (.inl g)))]) (pl := (CW dA kx)) hP [0] rfl
    have hD9 := va_D.part (X := [(o, .inl (dA 3, 1, .inr (.inl g)))]) (cx := [(o, .inl (dA 3, 1, .inr (.inl g)))]) (pl := (CW dA kx)) hD [0] (by decide) rfl
    exact W.iret (v := 1) hx hb hr (fun t ht hW => ⟨⟨1, (kx, g), rfl, ⟨hcx, hxx, (Or.inr (⟨rfl, hrx.1 rfl, hrx.2⟩))⟩, ⟨by rw [ht]; exact hP9, hD9⟩⟩, hS.F ht⟩) hS.2.2 dL_openView_13
  · refine W.widen (k := 4) (n := 44) (Nat.le_of_ble_eq_true rfl) (Nat.le_of_ble_eq_true rfl) ?_
    obtain ⟨r1, rfl⟩ : ∃ z, z = r := ⟨_, rfl⟩
    obtain ⟨u2, rfl⟩ : ∃ z, z = u := ⟨_, rfl⟩
    have hw3 := hw
    clear hw
    obtain ⟨hP1, hD1⟩ := hB
    rw [ht] at hP1
    obtain ⟨hP, hD⟩ := va_joinP (X := [(o, .inl (dA 3, 1, .inr (.inl g)))]) (cx := []) (wr := [(o, .inl (dA 3, 1, .inr (.inl g)))]) (rx := []) (pl := (CW dA c9)) (pl1 := (CW dA u2)) hP hD [] [0] rfl rfl (by decide) (by decide) hk1 hFc hP1 hD1
    generalize H1 = H at hP hS ⊢
    replace hP : va_P D vwCl (HAppend.hAppend (α := va_W) (β := va_W) (γ := va_W) [(o, .inl (dA 3, 1, .inr (.inl g)))] (CW dA u2)) H := hP
    replace hD : va_D A (HAppend.hAppend (α := va_W) (β := va_W) (γ := va_W) [(o, .inl (dA 3, 1, .inr (.inl g)))] (CW dA u2)) := hD
    refine lv_i2l (v := r1.toInt64) hx hb dL_openView_6 rfl ?_
    refine va_last hx hb hK hP hD hS 0 3 rfl rfl (vi_c (by decide)) dL_openView_7 (fun H locs hP hD hS => ?_)
    replace hP : va_P D vwCl (HAppend.hAppend (α := va_W) (β := va_W) (γ := va_W) [(o, .inl (dA 3, 1, .inr (.inl (vp_updL g 0 r1.toInt64))))] (CW dA u2)) H := hP
    replace hD : va_D A (HAppend.hAppend (α := va_W) (β := va_W) (γ := va_W) [(o, .inl (dA 3, 1, .inr (.inl (vp_updL g 0 r1.toInt64))))] (CW dA u2)) := hD
    refine lv_goto (tgt := 14) hx hb dL_openView_8 (by decide) ?_
    refine lv_iconst (v := 0) hx hb dL_openView_14 (by decide) ?_
    refine W.widen (k := 4) (n := 44) (Nat.le_of_ble_eq_true rfl) (Nat.le_of_ble_eq_true rfl) ?_
    refine vx_ret ?_
    have hP9 := va_P.part (X := [(o, .inl (dA 3, 1, .inr (.inl (vp_updL g 0 r1.toInt64))))]) (cx := [(o, .inl (dA 3, 1, .inr (.inl (vp_updL g 0 r1.toInt64))))]) (pl := (CW dA u2)) hP [0] rfl
    have hD9 := va_D.part (X := [(o, .inl (dA 3, 1, .inr (.inl (vp_updL g 0 r1.toInt64))))]) (cx := [(o, .inl (dA 3, 1, .inr (.inl (vp_updL g 0 r1.toInt64))))]) (pl := (CW dA u2)) hD [0] (by decide) rfl
    exact W.iret (v := 0) hx hb hr (fun t ht hW => ⟨⟨0, (u2, vp_updL g 0 r1.toInt64), rfl, ⟨hw3.1, hw3.2.1, (Or.inl ⟨rfl, by show (vp_updL g 0 r1.toInt64) 0 = _; rw [hw3.2.2.2.1]; exact if_pos rfl, hw3.2.2.1, hw3.2.2.2.2⟩)⟩, ⟨by rw [ht]; exact hP9, hD9⟩⟩, hS.F ht⟩) hS.2.2 dL_openView_15

set_option maxHeartbeats 4000000 in
set_option maxRecDepth 100000 in
theorem c_L_closeView (l : Launch) (hlt : l.stackTraces = false) (D : va_G) (dA : Nat → ClassId) (E : Nat) (c9 : CS) (tn o : Nat) (g : Nat → Int64) (p0 : Int32) (sz : Nat) (hI : CI E tn c9) (htn : tn ≤ 600) : vx_Met l yL_closeView (wq (.codeWith yL_closeView cL_closeView 4 (some .int) [(0, 9, 12, 21)])) { frames := 7, cells := 1, slots := 6, locals := 108 } (va_Pc [.ref (c9.xa 0), .int p0, .ref o] (PcB D dA E (HAppend.hAppend (α := va_W) (β := va_W) (γ := va_W) [(o, .inl (dA 3, 1, .inr (.inl g)))] (CW dA c9)) sz)) (va_Qi (fun (r : Int32) (u : CS × (Nat → Int64)) => CI E (tn + 1) u.1 ∧ u.1.xa = c9.xa ∧ ((∃ (n9 : Nat) (s9 : Nat), (r = 0) ∧ (u.2 0 = (nI n9).toInt64) ∧ ((c9.nv = n9 + 1) ∧ (s9 < c9.nv) ∧ (c9.VN s9 = p0)) ∧ ((u.1.vs = c9.vs) ∧ (u.1.nv = n9) ∧ (u.1.VN = (fun i => c9.VN (rmI s9 i))))) ∨ ((r = 1) ∧ ((∀ j9, j9 < c9.nv → ¬ c9.VN j9 = p0)) ∧ ((u.1.vs = c9.vs) ∧ (u.1.nv = c9.nv) ∧ (u.1.VN = c9.VN))))) (fun u t => va_P D vwCl ([(o, .inl (dA 3, 1, .inr (.inl u.2)))] ++ (CW dA u.1)) t.heap ∧ va_D (va_A (HAppend.hAppend (α := va_W) (β := va_W) (γ := va_W) [(o, .inl (dA 3, 1, .inr (.inl g)))] (CW dA c9)) sz) ([(o, .inl (dA 3, 1, .inr (.inl u.2)))] ++ (CW dA u.1))) (va_A (HAppend.hAppend (α := va_W) (β := va_W) (γ := va_W) [(o, .inl (dA 3, 1, .inr (.inl g)))] (CW dA c9)) sz)) (vx_X (fun (k : Nat) => False) (fun E9 k t => E9 = xN k) (va_A (HAppend.hAppend (α := va_W) (β := va_W) (γ := va_W) [(o, .inl (dA 3, 1, .inr (.inl g)))] (CW dA c9)) sz)) 1 6 (va_A (HAppend.hAppend (α := va_W) (β := va_W) (γ := va_W) [(o, .inl (dA 3, 1, .inr (.inl g)))] (CW dA c9)) sz) := by
  refine mh_of (y := yL_closeView) (av := [.ref (c9.xa 0), .int p0, .ref o]) (maxL := 4) (Qc := fun A => va_Qi (fun (r : Int32) (u : CS × (Nat → Int64)) => CI E (tn + 1) u.1 ∧ u.1.xa = c9.xa ∧ ((∃ (n9 : Nat) (s9 : Nat), (r = 0) ∧ (u.2 0 = (nI n9).toInt64) ∧ ((c9.nv = n9 + 1) ∧ (s9 < c9.nv) ∧ (c9.VN s9 = p0)) ∧ ((u.1.vs = c9.vs) ∧ (u.1.nv = n9) ∧ (u.1.VN = (fun i => c9.VN (rmI s9 i))))) ∨ ((r = 1) ∧ ((∀ j9, j9 < c9.nv → ¬ c9.VN j9 = p0)) ∧ ((u.1.vs = c9.vs) ∧ (u.1.nv = c9.nv) ∧ (u.1.VN = c9.VN))))) (fun u t => va_P D vwCl ([(o, .inl (dA 3, 1, .inr (.inl u.2)))] ++ (CW dA u.1)) t.heap ∧ va_D A ([(o, .inl (dA 3, 1, .inr (.inl u.2)))] ++ (CW dA u.1))) A) (XC := fun A => vx_X (fun (k : Nat) => False) (fun E9 k t => E9 = xN k) A) RL rfl (by decide) (Nat.le_of_ble_eq_true rfl) ?_
  intro p e s m args below meth c hae hx hb hr hts hown hlocks hml hnm htb hP hK A hAe hD hZ hS hA ls hl
  replace hl : lv_has ls 4 [(0, .ref (c9.xa 0)), (1, .int p0), (2, .ref o)] := hl
  refine lv_aload_n hx hb dL_closeView_0 rfl (lv_at hl 2 rfl) ?_
  refine lv_iconst (v := 0) hx hb dL_closeView_1 (by decide) ?_
  refine lv_aload_n hx hb dL_closeView_2 rfl (lv_at hl 0 rfl) ?_
  refine lv_iload_n hx hb dL_closeView_3 rfl (lv_at hl 1 rfl) ?_
  replace hPc := va_P.part (X := [(o, .inl (dA 3, 1, .inr (.inl g)))]) (cx := []) (pl := (CW dA c9)) hP [] rfl
  replace hDc := va_D.part (X := [(o, .inl (dA 3, 1, .inr (.inl g)))]) (cx := []) (pl := (CW dA c9)) hD [] (by decide) rfl
  replace hFc := va_freeP (X := [(o, .inl (dA 3, 1, .inr (.inl g)))]) (cx := []) (pl := (CW dA c9)) hD hS hA [] rfl
  refine vx_calli (vx_runV (As := [.int p0]) (rest := [.int 0, .ref o]) ⟨hx, hb, hml, hown, hts⟩ (y8_closeView l hlt D dA E c9 tn p0 s.heap.size  hI htn) (cwV 1 hts (ga_V q758 q759 q756 q346 q757) rfl rfl rfl (by decide +kernel) ⟨(Nat.le_of_ble_eq_true rfl), (Nat.le_of_ble_eq_true rfl)⟩) ⟨pb_blind, va_recv hK hPc (ci := 11) (q0 := 0) rfl rfl, pb_pre hK hPc hDc hZ hS hFc _⟩ rfl rfl hl.1 rfl (lv_room (Nat.le_of_ble_eq_true rfl)) dL_closeView_4 ⟨(Nat.le_of_ble_eq_true rfl), (Nat.le_of_ble_eq_true rfl)⟩) hS (fun q _ h => hFc q h) hFc (fun q _ h => hFc q h) (fun E9 ce q9 k t H1 locs ht hvm hpx hBX hz1 hk1 hS hce hcv hcl => ?_) (fun r u t H1 locs ht hvm hw hB hz1 hk1 hS => ?_)
  · obtain ⟨k1, kx⟩ := k
    obtain ⟨hBE, hP1, hD1⟩ := hBX
    rw [ht] at hP1
    dsimp only at hpx hBE hP1 hD1
    obtain ⟨hP, hD⟩ := va_joinP (X := [(o, .inl (dA 3, 1, .inr (.inl g)))]) (cx := []) (wr := [(o, .inl (dA 3, 1, .inr (.inl g)))]) (rx := []) (pl := (CW dA c9)) (pl1 := (CW dA kx)) hP hD [] [0] rfl rfl (by decide) (by decide) hk1 hFc hP1 hD1
    generalize H1 = H at hP hS hce ⊢
    replace hP : va_P D vwCl (HAppend.hAppend (α := va_W) (β := va_W) (γ := va_W) [(o, .inl (dA 3, 1, .inr (.inl g)))] (CW dA kx)) H := hP
    replace hD : va_D A (HAppend.hAppend (α := va_W) (β := va_W) (γ := va_W) [(o, .inl (dA 3, 1, .inr (.inl g)))] (CW dA kx)) := hD
    obtain ⟨hcx, hxx, hkx, hrx⟩ := hpx
    refine vx_widen (k := 1) (n := 6) (Nat.le_of_ble_eq_true rfl) (Nat.le_of_ble_eq_true rfl) ?_
    subst hkx
    subst hBE
    refine vx_catch (own := RL) (name := "java/lang/IndexOutOfBoundsException") (E := "java/lang/IndexOutOfBoundsException") hown [] ⟨0, 9, 12, 21⟩ [] htb (fun _ h9 => absurd h9 List.not_mem_nil) rfl (by decide) (hts _ q702) (va_Nw.use rfl (znC_3 hZ.1)) hce hcv hcl ?_
    refine W.eq (g2 := F0 m 12 ls [.ref q9]) rfl ?_
    refine lv_astore_n (lv' := [(3, .ref q9), (0, .ref (c9.xa 0)), (1, .int p0), (2, .ref o)]) hx hb dL_closeView_12 rfl hl (by decide) rfl (fun ls hl => ?_)
    refine lv_iconst (v := 1) hx hb dL_closeView_13 (by decide) ?_
    refine W.widen (k := 1) (n := 6) (Nat.le_of_ble_eq_true rfl) (Nat.le_of_ble_eq_true rfl) ?_
    refine vx_ret ?_
    have hP9 := va_P.part (X := [(o, .inl (dA 3, 1, .inr (.inl g)))]) (cx := [(o, .inl (dA 3, 1, .inr (.inl g)))]) (pl := (CW dA kx)) hP [0] rfl
    have hD9 := va_D.part (X := [(o, .inl (dA 3, 1, .inr (.inl g)))]) (cx := [(o, .inl (dA 3, 1, .inr (.inl g)))]) (pl := (CW dA kx)) hD [0] (by decide) rfl
    exact W.iret (v := 1) hx hb hr (fun t ht hW => ⟨⟨1, (kx, g), rfl, ⟨hcx, hxx, (Or.inr (⟨rfl, hrx.1 rfl, hrx.2⟩))⟩, ⟨by rw [ht]; exact hP9, hD9⟩⟩, hS.F ht⟩) hS.2.2 dL_closeView_14
  · refine W.widen (k := 1) (n := 6) (Nat.le_of_ble_eq_true rfl) (Nat.le_of_ble_eq_true rfl) ?_
    obtain ⟨r1, rfl⟩ : ∃ z, z = r := ⟨_, rfl⟩
    obtain ⟨u2, rfl⟩ : ∃ z, z = u := ⟨_, rfl⟩
    have hw3 := hw
    clear hw
    obtain ⟨hP1, hD1⟩ := hB
    rw [ht] at hP1
    obtain ⟨hP, hD⟩ := va_joinP (X := [(o, .inl (dA 3, 1, .inr (.inl g)))]) (cx := []) (wr := [(o, .inl (dA 3, 1, .inr (.inl g)))]) (rx := []) (pl := (CW dA c9)) (pl1 := (CW dA u2)) hP hD [] [0] rfl rfl (by decide) (by decide) hk1 hFc hP1 hD1
    generalize H1 = H at hP hS ⊢
    replace hP : va_P D vwCl (HAppend.hAppend (α := va_W) (β := va_W) (γ := va_W) [(o, .inl (dA 3, 1, .inr (.inl g)))] (CW dA u2)) H := hP
    replace hD : va_D A (HAppend.hAppend (α := va_W) (β := va_W) (γ := va_W) [(o, .inl (dA 3, 1, .inr (.inl g)))] (CW dA u2)) := hD
    refine lv_i2l (v := r1.toInt64) hx hb dL_closeView_7 rfl ?_
    refine va_last hx hb hK hP hD hS 0 3 rfl rfl (vi_c (by decide)) dL_closeView_8 (fun H locs hP hD hS => ?_)
    replace hP : va_P D vwCl (HAppend.hAppend (α := va_W) (β := va_W) (γ := va_W) [(o, .inl (dA 3, 1, .inr (.inl (vp_updL g 0 r1.toInt64))))] (CW dA u2)) H := hP
    replace hD : va_D A (HAppend.hAppend (α := va_W) (β := va_W) (γ := va_W) [(o, .inl (dA 3, 1, .inr (.inl (vp_updL g 0 r1.toInt64))))] (CW dA u2)) := hD
    refine lv_goto (tgt := 15) hx hb dL_closeView_9 (by decide) ?_
    refine lv_iconst (v := 0) hx hb dL_closeView_15 (by decide) ?_
    refine W.widen (k := 1) (n := 6) (Nat.le_of_ble_eq_true rfl) (Nat.le_of_ble_eq_true rfl) ?_
    refine vx_ret ?_
    have hP9 := va_P.part (X := [(o, .inl (dA 3, 1, .inr (.inl (vp_updL g 0 r1.toInt64))))]) (cx := [(o, .inl (dA 3, 1, .inr (.inl (vp_updL g 0 r1.toInt64))))]) (pl := (CW dA u2)) hP [0] rfl
    have hD9 := va_D.part (X := [(o, .inl (dA 3, 1, .inr (.inl (vp_updL g 0 r1.toInt64))))]) (cx := [(o, .inl (dA 3, 1, .inr (.inl (vp_updL g 0 r1.toInt64))))]) (pl := (CW dA u2)) hD [0] (by decide) rfl
    exact W.iret (v := 0) hx hb hr (fun t ht hW => ⟨⟨0, (u2, vp_updL g 0 r1.toInt64), rfl, ⟨hw3.1, hw3.2.1, (Or.inl (by obtain ⟨n9, s9, hx9⟩ := hw3.2.2; exact ⟨n9, s9, rfl, by show (vp_updL g 0 r1.toInt64) 0 = _; rw [hx9.2.1]; exact if_pos rfl, hx9.1, hx9.2.2⟩))⟩, ⟨by rw [ht]; exact hP9, hD9⟩⟩, hS.F ht⟩) hS.2.2 dL_closeView_16
