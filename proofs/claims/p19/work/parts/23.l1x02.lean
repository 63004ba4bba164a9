/-! CONTRACTS, general -/
set_option maxHeartbeats 4000000 in
set_option maxRecDepth 100000 in
theorem c_L_open (l : Launch) (hlt : l.stackTraces = false) (D : va_G) (dA : Nat → ClassId) (E : Nat) (c9 : CS) (tn o : Nat) (g : Nat → Int64) (p0 : Int32) (p1 : Int32) (sz : Nat) (hI : CI E tn c9) (htn : tn ≤ 600) : vx_Met l yL_open (wq (.codeWith yL_open cL_open 5 (some .int) [(0, 10, 13, 13), (0, 10, 17, 21), (0, 10, 21, 15)])) { frames := 8, cells := 10, slots := 275, locals := 125 } (va_Pc [.ref (c9.xa 0), .int p0, .int p1, .ref o] (PcB D dA E (HAppend.hAppend (α := va_W) (β := va_W) (γ := va_W) [(o, .inl (dA 3, 1, .inr (.inl g)))] (CW dA c9)) sz)) (va_Qi (fun (r : Int32) (u : CS × (Nat → Int64)) => CI E (tn + 1) u.1 ∧ u.1.xa = c9.xa ∧ ((u.1.vs = c9.vs) ∧ (u.1.nv = c9.nv) ∧ (u.1.VN = c9.VN))) (fun u t => va_P D vwCl ([(o, .inl (dA 3, 1, .inr (.inl u.2)))] ++ (CW dA u.1)) t.heap ∧ va_D (va_A (HAppend.hAppend (α := va_W) (β := va_W) (γ := va_W) [(o, .inl (dA 3, 1, .inr (.inl g)))] (CW dA c9)) sz) ([(o, .inl (dA 3, 1, .inr (.inl u.2)))] ++ (CW dA u.1))) (va_A (HAppend.hAppend (α := va_W) (β := va_W) (γ := va_W) [(o, .inl (dA 3, 1, .inr (.inl g)))] (CW dA c9)) sz)) (vx_X (fun (k : Nat) => False) (fun E9 k t => E9 = xN k) (va_A (HAppend.hAppend (α := va_W) (β := va_W) (γ := va_W) [(o, .inl (dA 3, 1, .inr (.inl g)))] (CW dA c9)) sz)) 10 275 (va_A (HAppend.hAppend (α := va_W) (β := va_W) (γ := va_W) [(o, .inl (dA 3, 1, .inr (.inl g)))] (CW dA c9)) sz) := by
  refine mh_of (y := yL_open) (av := [.ref (c9.xa 0), .int p0, .int p1, .ref o]) (maxL := 5) (Qc := fun A => va_Qi (fun (r : Int32) (u : CS × (Nat → Int64)) => CI E (tn + 1) u.1 ∧ u.1.xa = c9.xa ∧ ((u.1.vs = c9.vs) ∧ (u.1.nv = c9.nv) ∧ (u.1.VN = c9.VN))) (fun u t => va_P D vwCl ([(o, .inl (dA 3, 1, .inr (.inl u.2)))] ++ (CW dA u.1)) t.heap ∧ va_D A ([(o, .inl (dA 3, 1, .inr (.inl u.2)))] ++ (CW dA u.1))) A) (XC := fun A => vx_X (fun (k : Nat) => False) (fun E9 k t => E9 = xN k) A) RL rfl (by decide) (Nat.le_of_ble_eq_true rfl) ?_
  intro p e s m args below meth c hae hx hb hr hts hown hlocks hml hnm htb hP hK A hAe hD hZ hS hA ls hl
  replace hl : lv_has ls 5 [(0, .ref (c9.xa 0)), (1, .int p0), (2, .int p1), (3, .ref o)] := hl
  refine lv_aload_n hx hb dL_open_0 rfl (lv_at hl 3 rfl) ?_
  refine lv_iconst (v := 0) hx hb dL_open_1 (by decide) ?_
  refine lv_aload_n hx hb dL_open_2 rfl (lv_at hl 0 rfl) ?_
  refine lv_iload_n hx hb dL_open_3 rfl (lv_at hl 1 rfl) ?_
  refine lv_iload_n hx hb dL_open_4 rfl (lv_at hl 2 rfl) ?_
  replace hPc := va_P.part (X := [(o, .inl (dA 3, 1, .inr (.inl g)))]) (cx := []) (pl := (CW dA c9)) hP [] rfl
  replace hDc := va_D.part (X := [(o, .inl (dA 3, 1, .inr (.inl g)))]) (cx := []) (pl := (CW dA c9)) hD [] (by decide) rfl
  replace hFc := va_freeP (X := [(o, .inl (dA 3, 1, .inr (.inl g)))]) (cx := []) (pl := (CW dA c9)) hD hS hA [] rfl
  refine vx_calli (vx_runV (As := [.int p0, .int p1]) (rest := [.int 0, .ref o]) ⟨hx, hb, hml, hown, hts⟩ (y8_open l hlt D dA E c9 tn p0 p1 s.heap.size  hI htn) (cwV 2 hts (ga_V q762 q763 q760 q346 q761) rfl rfl rfl (by decide +kernel) ⟨(Nat.le_of_ble_eq_true rfl), (Nat.le_of_ble_eq_true rfl)⟩) ⟨pb_blind, va_recv hK hPc (ci := 11) (q0 := 0) rfl rfl, pb_pre hK hPc hDc hZ hS hFc _⟩ rfl rfl hl.1 rfl (lv_room (Nat.le_of_ble_eq_true rfl)) dL_open_5 ⟨(Nat.le_of_ble_eq_true rfl), (Nat.le_of_ble_eq_true rfl)⟩) hS (fun q _ h => hFc q h) hFc (fun q _ h => hFc q h) (fun E9 ce q9 k t H1 locs ht hvm hpx hBX hz1 hk1 hS hce hcv hcl => ?_) (fun r u t H1 locs ht hvm hw hB hz1 hk1 hS => ?_)
  · obtain ⟨k1, kx⟩ := k
    obtain ⟨hBE, hP1, hD1⟩ := hBX
    rw [ht] at hP1
    dsimp only at hpx hBE hP1 hD1
    obtain ⟨hP, hD⟩ := va_joinP (X := [(o, .inl (dA 3, 1, .inr (.inl g)))]) (cx := []) (wr := [(o, .inl (dA 3, 1, .inr (.inl g)))]) (rx := []) (pl := (CW dA c9)) (pl1 := (CW dA kx)) hP hD [] [0] rfl rfl (by decide) (by decide) hk1 hFc hP1 hD1
    generalize H1 = H at hP hS hce ⊢
    replace hP : va_P D vwCl (HAppend.hAppend (α := va_W) (β := va_W) (γ := va_W) [(o, .inl (dA 3, 1, .inr (.inl g)))] (CW dA kx)) H := hP
    replace hD : va_D A (HAppend.hAppend (α := va_W) (β := va_W) (γ := va_W) [(o, .inl (dA 3, 1, .inr (.inl g)))] (CW dA kx)) := hD
    obtain ⟨hcx, hxx, hkx, hrx⟩ := hpx
    refine vx_widen (k := 10) (n := 275) (Nat.le_of_ble_eq_true rfl) (Nat.le_of_ble_eq_true rfl) ?_
    rcases hkx with rfl | rfl | rfl
    · subst hBE
      refine vx_catch (own := RL) (name := "java/lang/IllegalArgumentException") (E := "java/lang/IllegalArgumentException") hown [] ⟨0, 10, 13, 13⟩ [⟨0, 10, 17, 21⟩, ⟨0, 10, 21, 15⟩] htb (fun _ h9 => absurd h9 List.not_mem_nil) rfl (by decide) (hts _ q697) (va_Nw.use rfl (znC_0 hZ.1)) hce hcv hcl ?_
      refine W.eq (g2 := F0 m 13 ls [.ref q9]) rfl ?_
      refine lv_astore (lv' := [(4, .ref q9), (0, .ref (c9.xa 0)), (1, .int p0), (2, .int p1), (3, .ref o)]) hx hb dL_open_13 hl (by decide) rfl (fun ls hl => ?_)
      refine lv_iconst (v := 1) hx hb dL_open_15 (by decide) ?_
      refine W.widen (k := 10) (n := 275) (Nat.le_of_ble_eq_true rfl) (Nat.le_of_ble_eq_true rfl) ?_
      refine vx_ret ?_
      have hP9 := va_P.part (X := [(o, .inl (dA 3, 1, .inr (.inl g)))]) (cx := [(o, .inl (dA 3, 1, .inr (.inl g)))]) (pl := (CW dA kx)) hP [0] rfl
      have hD9 := va_D.part (X := [(o, .inl (dA 3, 1, .inr (.inl g)))]) (cx := [(o, .inl (dA 3, 1, .inr (.inl g)))]) (pl := (CW dA kx)) hD [0] (by decide) rfl
      exact W.iret (v := 1) hx hb hr (fun t ht hW => ⟨⟨1, (kx, g), rfl, ⟨hcx, hxx, (hrx.2)⟩, ⟨by rw [ht]; exact hP9, hD9⟩⟩, hS.F ht⟩) hS.2.2 dL_open_16
    · subst hBE
      refine vx_catch (own := RL) (name := "java/lang/IndexOutOfBoundsException") (E := "java/lang/IndexOutOfBoundsException") hown [⟨0, 10, 13, 13⟩] ⟨0, 10, 17, 21⟩ [⟨0, 10, 21, 15⟩] htb (List.forall_mem_cons.mpr ⟨Or.inr ⟨by decide, "java/lang/IllegalArgumentException", hts _ q697, (znN_1 hZ.1)⟩, (fun _ h9 => absurd h9 List.not_mem_nil)⟩) rfl (by decide) (hts _ q702) (va_Nw.use rfl (znC_3 hZ.1)) hce hcv hcl ?_
      refine W.eq (g2 := F0 m 17 ls [.ref q9]) rfl ?_
      refine lv_astore (lv' := [(4, .ref q9), (0, .ref (c9.xa 0)), (1, .int p0), (2, .int p1), (3, .ref o)]) hx hb dL_open_17 hl (by decide) rfl (fun ls hl => ?_)
      refine lv_iconst (v := 2) hx hb dL_open_19 (by decide) ?_
      refine W.widen (k := 10) (n := 275) (Nat.le_of_ble_eq_true rfl) (Nat.le_of_ble_eq_true rfl) ?_
      refine vx_ret ?_
      have hP9 := va_P.part (X := [(o, .inl (dA 3, 1, .inr (.inl g)))]) (cx := [(o, .inl (dA 3, 1, .inr (.inl g)))]) (pl := (CW dA kx)) hP [0] rfl
      have hD9 := va_D.part (X := [(o, .inl (dA 3, 1, .inr (.inl g)))]) (cx := [(o, .inl (dA 3, 1, .inr (.inl g)))]) (pl := (CW dA kx)) hD [0] (by decide) rfl
      exact W.iret (v := 2) hx hb hr (fun t ht hW => ⟨⟨2, (kx, g), rfl, ⟨hcx, hxx, (hrx.2)⟩, ⟨by rw [ht]; exact hP9, hD9⟩⟩, hS.F ht⟩) hS.2.2 dL_open_20
    · subst hBE
      refine vx_catch (own := RL) (name := "java/lang/IllegalStateException") (E := "java/lang/IllegalStateException") hown [⟨0, 10, 13, 13⟩, ⟨0, 10, 17, 21⟩] ⟨0, 10, 21, 15⟩ [] htb (List.forall_mem_cons.mpr ⟨Or.inr ⟨by decide, "java/lang/IllegalArgumentException", hts _ q697, (znN_0 hZ.1)⟩, (List.forall_mem_cons.mpr ⟨Or.inr ⟨by decide, "java/lang/IndexOutOfBoundsException", hts _ q702, (znN_9 hZ.1)⟩, (fun _ h9 => absurd h9 List.not_mem_nil)⟩)⟩) rfl (by decide) (hts _ q719) (va_Nw.use rfl (znC_1 hZ.1)) hce hcv hcl ?_
      refine W.eq (g2 := F0 m 21 ls [.ref q9]) rfl ?_
      refine lv_astore (lv' := [(4, .ref q9), (0, .ref (c9.xa 0)), (1, .int p0), (2, .int p1), (3, .ref o)]) hx hb dL_open_21 hl (by decide) rfl (fun ls hl => ?_)
      refine lv_iconst (v := 3) hx hb dL_open_23 (by decide) ?_
      refine W.widen (k := 10) (n := 275) (Nat.le_of_ble_eq_true rfl) (Nat.le_of_ble_eq_true rfl) ?_
      refine vx_ret ?_
      have hP9 := va_P.part (X := [(o, .inl (dA 3, 1, .inr (.inl g)))]) (cx := [(o, .inl (dA 3, 1, .inr (.inl g)))]) (pl := (CW dA kx)) hP [0] rfl
      have hD9 := va_D.part (X := [(o, .inl (dA 3, 1, .inr (.inl g)))]) (cx := [(o, .inl (dA 3, 1, .inr (.inl g)))]) (pl := (CW dA kx)) hD [0] (by decide) rfl
      exact W.iret (v := 3) hx hb hr (fun t ht hW => ⟨⟨3, (kx, g), rfl, ⟨hcx, hxx, (hrx.2)⟩, ⟨by rw [ht]; exact hP9, hD9⟩⟩, hS.F ht⟩) hS.2.2 dL_open_24
  · refine W.widen (k := 10) (n := 275) (Nat.le_of_ble_eq_true rfl) (Nat.le_of_ble_eq_true rfl) ?_
    obtain ⟨r1, rfl⟩ : ∃ z, z = r := ⟨_, rfl⟩
    obtain ⟨u2, rfl⟩ : ∃ z, z = u := ⟨_, rfl⟩
    have hw3 := hw
    clear hw
    obtain ⟨hP1, hD1⟩ := hB
    rw [ht] at hP1
    obtain ⟨hP, hD⟩ := va_joinP (X := [(o, .inl (dA 3, 1, .inr (.inl g)))]) (cx := []) (wr := [(o, .inl (dA 3, 1, .inr (.inl g)))]) (rx := []) (pl := (CW dA c9)) (pl1 := (CW dA u2)) hP hD [] [0] rfl rfl (by decide) (by decide) hk1 hFc hP1 hD1
    generalize H1 = H at hP hS ⊢
    replace hP : va_P D vwCl (HAppend.hAppend (α := va_W) (β := va_W) (γ := va_W) [(o, .inl (dA 3, 1, .inr (.inl g)))] (CW dA u2)) H := hP
    replace hD : va_D A (HAppend.hAppend (α := va_W) (β := va_W) (γ := va_W) [(o, .inl (dA 3, 1, .inr (.inl g)))] (CW dA u2)) := hD
    refine lv_i2l (v := r1.toInt64) hx hb dL_open_8 rfl ?_
    refine va_last hx hb hK hP hD hS 0 3 rfl rfl (vi_c (by decide)) dL_open_9 (fun H locs hP hD hS => ?_)
    replace hP : va_P D vwCl (HAppend.hAppend (α := va_W) (β := va_W) (γ := va_W) [(o, .inl (dA 3, 1, .inr (.inl (vp_updL g 0 r1.toInt64))))] (CW dA u2)) H := hP
    replace hD : va_D A (HAppend.hAppend (α := va_W) (β := va_W) (γ := va_W) [(o, .inl (dA 3, 1, .inr (.inl (vp_updL g 0 r1.toInt64))))] (CW dA u2)) := hD
    refine lv_goto (tgt := 25) hx hb dL_open_10 (by decide) ?_
    refine lv_iconst (v := 0) hx hb dL_open_25 (by decide) ?_
    refine W.widen (k := 10) (n := 275) (Nat.le_of_ble_eq_true rfl) (Nat.le_of_ble_eq_true rfl) ?_
    refine vx_ret ?_
    have hP9 := va_P.part (X := [(o, .inl (dA 3, 1, .inr (.inl (vp_updL g 0 r1.toInt64))))]) (cx := [(o, .inl (dA 3, 1, .inr (.inl (vp_updL g 0 r1.toInt64))))]) (pl := (CW dA u2)) hP [0] rfl
    have hD9 := va_D.part (X := [(o, .inl (dA 3, 1, .inr (.inl (vp_updL g 0 r1.toInt64))))]) (cx := [(o, .inl (dA 3, 1, .inr (.inl (vp_updL g 0 r1.toInt64))))]) (pl := (CW dA u2)) hD [0] (by decide) rfl
    exact W.iret (v := 0) hx hb hr (fun t ht hW => ⟨⟨0, (u2, vp_updL g 0 r1.toInt64), rfl, ⟨hw3.1, hw3.2.1, (hw3.2.2.2.2)⟩, ⟨by rw [ht]; exact hP9, hD9⟩⟩, hS.F ht⟩) hS.2.2 dL_open_26

set_option maxHeartbeats 4000000 in
set_option maxRecDepth 100000 in
theorem c_L_addWord (l : Launch) (hlt : l.stackTraces = false) (D : va_G) (dA : Nat → ClassId) (E : Nat) (c9 : CS) (tn o : Nat) (g : Nat → Int64) (p0 : Int32) (sz : Nat) (hI : CI E tn c9) (htn : tn ≤ 600) : vx_Met l yL_addWord (wq (.codeWith yL_addWord cL_addWord 4 (some .int) [(0, 9, 12, 13), (0, 9, 15, 15)])) { frames := 7, cells := 1, slots := 6, locals := 105 } (va_Pc [.ref (c9.xa 0), .int p0, .ref o] (PcB D dA E (HAppend.hAppend (α := va_W) (β := va_W) (γ := va_W) [(o, .inl (dA 3, 1, .inr (.inl g)))] (CW dA c9)) sz)) (va_Qi (fun (r : Int32) (u : CS × (Nat → Int64)) => CI E (tn + 1) u.1 ∧ u.1.xa = c9.xa ∧ ((u.1.vs = c9.vs) ∧ (u.1.nv = c9.nv) ∧ (u.1.VN = c9.VN))) (fun u t => va_P D vwCl ([(o, .inl (dA 3, 1, .inr (.inl u.2)))] ++ (CW dA u.1)) t.heap ∧ va_D (va_A (HAppend.hAppend (α := va_W) (β := va_W) (γ := va_W) [(o, .inl (dA 3, 1, .inr (.inl g)))] (CW dA c9)) sz) ([(o, .inl (dA 3, 1, .inr (.inl u.2)))] ++ (CW dA u.1))) (va_A (HAppend.hAppend (α := va_W) (β := va_W) (γ := va_W) [(o, .inl (dA 3, 1, .inr (.inl g)))] (CW dA c9)) sz)) (vx_X (fun (k : Nat) => False) (fun E9 k t => E9 = xN k) (va_A (HAppend.hAppend (α := va_W) (β := va_W) (γ := va_W) [(o, .inl (dA 3, 1, .inr (.inl g)))] (CW dA c9)) sz)) 1 6 (va_A (HAppend.hAppend (α := va_W) (β := va_W) (γ := va_W) [(o, .inl (dA 3, 1, .inr (.inl g)))] (CW dA c9)) sz) := by
  refine mh_of (y := yL_addWord) (av := [.ref (c9.xa 0), .int p0, .ref o]) (maxL := 4) (Qc := fun A => va_Qi (fun (r : Int32) (u : CS × (Nat → Int64)) => CI E (tn + 1) u.1 ∧ u.1.xa = c9.xa ∧ ((u.1.vs = c9.vs) ∧ (u.1.nv = c9.nv) ∧ (u.1.VN = c9.VN))) (fun u t => va_P D vwCl ([(o, .inl (dA 3, 1, .inr (.inl u.2)))] ++ (CW dA u.1)) t.heap ∧ va_D A ([(o, .inl (dA 3, 1, .inr (.inl u.2)))] ++ (CW dA u.1))) A) (XC := fun A => vx_X (fun (k : Nat) => False) (fun E9 k t => E9 = xN k) A) RL rfl (by decide) (Nat.le_of_ble_eq_true rfl) ?_
  intro p e s m args below meth c hae hx hb hr hts hown hlocks hml hnm htb hP hK A hAe hD hZ hS hA ls hl
  replace hl : lv_has ls 4 [(0, .ref (c9.xa 0)), (1, .int p0), (2, .ref o)] := hl
  refine lv_aload_n hx hb dL_addWord_0 rfl (lv_at hl 2 rfl) ?_
  refine lv_iconst (v := 0) hx hb dL_addWord_1 (by decide) ?_
  refine lv_aload_n hx hb dL_addWord_2 rfl (lv_at hl 0 rfl) ?_
  refine lv_iload_n hx hb dL_addWord_3 rfl (lv_at hl 1 rfl) ?_
  replace hPc := va_P.part (X := [(o, .inl (dA 3, 1, .inr (.inl g)))]) (cx := []) (pl := (CW dA c9)) hP [] rfl
  replace hDc := va_D.part (X := [(o, .inl (dA 3, 1, .inr (.inl g)))]) (cx := []) (pl := (CW dA c9)) hD [] (by decide) rfl
  replace hFc := va_freeP (X := [(o, .inl (dA 3, 1, .inr (.inl g)))]) (cx := []) (pl := (CW dA c9)) hD hS hA [] rfl
  refine vx_calli (vx_runV (As := [.int p0]) (rest := [.int 0, .ref o]) ⟨hx, hb, hml, hown, hts⟩ (y8_addWord l hlt D dA E c9 tn p0 s.heap.size  hI htn) (cwV 1 hts (ga_V q766 q767 q764 q346 q765) rfl rfl rfl (by decide +kernel) ⟨(Nat.le_of_ble_eq_true rfl), (Nat.le_of_ble_eq_true rfl)⟩) ⟨pb_blind, va_recv hK hPc (ci := 11) (q0 := 0) rfl rfl, pb_pre hK hPc hDc hZ hS hFc _⟩ rfl rfl hl.1 rfl (lv_room (Nat.le_of_ble_eq_true rfl)) dL_addWord_4 ⟨(Nat.le_of_ble_eq_true rfl), (Nat.le_of_ble_eq_true rfl)⟩) hS (fun q _ h => hFc q h) hFc (fun q _ h => hFc q h) (fun E9 ce q9 k t H1 locs ht hvm hpx hBX hz1 hk1 hS hce hcv hcl => ?_) (fun r u t H1 locs ht hvm hw hB hz1 hk1 hS => ?_)
  · obtain ⟨k1, kx⟩ := k
    obtain ⟨hBE, hP1, hD1⟩ := hBX
    rw [ht] at hP1
    dsimp only at hpx hBE hP1 hD1
    obtain ⟨hP, hD⟩ := va_joinP (X := [(o, .inl (dA 3, 1, .inr (.inl g)))]) (cx := []) (wr := [(o, .inl (dA 3, 1, .inr (.inl g)))]) (rx := []) (pl := (CW dA c9)) (pl1 := (CW dA kx)) hP hD [] [0] rfl rfl (by decide) (by decide) hk1 hFc hP1 hD1
    generalize H1 = H at hP hS hce ⊢
    replace hP : va_P D vwCl (HAppend.hAppend (α := va_W) (β := va_W) (γ := va_W) [(o, .inl (dA 3, 1, .inr (.inl g)))] (CW dA kx)) H := hP
    replace hD : va_D A (HAppend.hAppend (α := va_W) (β := va_W) (γ := va_W) [(o, .inl (dA 3, 1, .inr (.inl g)))] (CW dA kx)) := hD
    obtain ⟨hcx, hxx, hkx, hrx⟩ := hpx
    refine vx_widen (k := 1) (n := 6) (Nat.le_of_ble_eq_true rfl) (Nat.le_of_ble_eq_true rfl) ?_
    rcases hkx with rfl | rfl
    · subst hBE
      refine vx_catch (own := RL) (name := "java/lang/IllegalArgumentException") (E := "java/lang/IllegalArgumentException") hown [] ⟨0, 9, 12, 13⟩ [⟨0, 9, 15, 15⟩] htb (fun _ h9 => absurd h9 List.not_mem_nil) rfl (by decide) (hts _ q697) (va_Nw.use rfl (znC_0 hZ.1)) hce hcv hcl ?_
      refine W.eq (g2 := F0 m 12 ls [.ref q9]) rfl ?_
      refine lv_astore_n (lv' := [(3, .ref q9), (0, .ref (c9.xa 0)), (1, .int p0), (2, .ref o)]) hx hb dL_addWord_12 rfl hl (by decide) rfl (fun ls hl => ?_)
      refine lv_iconst (v := 1) hx hb dL_addWord_13 (by decide) ?_
      refine W.widen (k := 1) (n := 6) (Nat.le_of_ble_eq_true rfl) (Nat.le_of_ble_eq_true rfl) ?_
      refine vx_ret ?_
      have hP9 := va_P.part (X := [(o, .inl (dA 3, 1, .inr (.inl g)))]) (cx := [(o, .inl (dA 3, 1, .inr (.inl g)))]) (pl := (CW dA kx)) hP [0] rfl
      have hD9 := va_D.part (X := [(o, .inl (dA 3, 1, .inr (.inl g)))]) (cx := [(o, .inl (dA 3, 1, .inr (.inl g)))]) (pl := (CW dA kx)) hD [0] (by decide) rfl
      exact W.iret (v := 1) hx hb hr (fun t ht hW => ⟨⟨1, (kx, g), rfl, ⟨hcx, hxx, (hrx.2)⟩, ⟨by rw [ht]; exact hP9, hD9⟩⟩, hS.F ht⟩) hS.2.2 dL_addWord_14
    · subst hBE
      refine vx_catch (own := RL) (name := "java/lang/IllegalStateException") (E := "java/lang/IllegalStateException") hown [⟨0, 9, 12, 13⟩] ⟨0, 9, 15, 15⟩ [] htb (List.forall_mem_cons.mpr ⟨Or.inr ⟨by decide, "java/lang/IllegalArgumentException", hts _ q697, (znN_0 hZ.1)⟩, (fun _ h9 => absurd h9 List.not_mem_nil)⟩) rfl (by decide) (hts _ q719) (va_Nw.use rfl (znC_1 hZ.1)) hce hcv hcl ?_
      refine W.eq (g2 := F0 m 15 ls [.ref q9]) rfl ?_
      refine lv_astore_n (lv' := [(3, .ref q9), (0, .ref (c9.xa 0)), (1, .int p0), (2, .ref o)]) hx hb dL_addWord_15 rfl hl (by decide) rfl (fun ls hl => ?_)
      refine lv_iconst (v := 2) hx hb dL_addWord_16 (by decide) ?_
      refine W.widen (k := 1) (n := 6) (Nat.le_of_ble_eq_true rfl) (Nat.le_of_ble_eq_true rfl) ?_
      refine vx_ret ?_
      have hP9 := va_P.part (X := [(o, .inl (dA 3, 1, .inr (.inl g)))]) (cx := [(o, .inl (dA 3, 1, .inr (.inl g)))]) (pl := (CW dA kx)) hP [0] rfl
      have hD9 := va_D.part (X := [(o, .inl (dA 3, 1, .inr (.inl g)))]) (cx := [(o, .inl (dA 3, 1, .inr (.inl g)))]) (pl := (CW dA kx)) hD [0] (by decide) rfl
      exact W.iret (v := 2) hx hb hr (fun t ht hW => ⟨⟨2, (kx, g), rfl, ⟨hcx, hxx, (hrx.2)⟩, ⟨by rw [ht]; exact hP9, hD9⟩⟩, hS.F ht⟩) hS.2.2 dL_addWord_17
  · refine W.widen (k := 1) (n := 6) (Nat.le_of_ble_eq_true rfl) (Nat.le_of_ble_eq_true rfl) ?_
    obtain ⟨r1, rfl⟩ : ∃ z, z = r := ⟨_, rfl⟩
    obtain ⟨u2, rfl⟩ : ∃ z, z = u := ⟨_, rfl⟩
    have hw3 := hw
    clear hw
    obtain ⟨hP1, hD1⟩ := hB
    rw [ht] at hP1
    obtain ⟨hP, hD⟩ := va_joinP (X := [(o, .inl (dA 3, 1, .inr (.inl g)))]) (cx := []) (wr := [(o, .inl (dA 3, 1, .inr (.inl g)))]) (rx := []) (pl := (CW dA c9)) (pl1 := (CW dA u2)) hP hD [] [0] rfl rfl (by decide) (by decide) hk1 hFc hP1 hD1
    generalize H1 = H at hP hS ⊢
    replace hP : va_P D vwCl (HAppend.hAppend (α := va_W) (β := va_W) (γ := va_W) [(o, .inl (dA 3, 1, .inr (.inl g)))] (CW dA u2)) H := hP
    replace hD : va_D A (HAppend.hAppend (α := va_W) (β := va_W) (γ := va_W) [(o, .inl (dA 3, 1, .inr (.inl g)))] (CW dA u2)) := hD
    refine lv_i2l (v := r1.toInt64) hx hb dL_addWord_7 rfl ?_
    refine va_last hx hb hK hP hD hS 0 3 rfl rfl (vi_c (by decide)) dL_addWord_8 (fun H locs hP hD hS => ?_)
    replace hP : va_P D vwCl (HAppend.hAppend (α := va_W) (β := va_W) (γ := va_W) [(o, .inl (dA 3, 1, .inr (.inl (vp_updL g 0 r1.toInt64))))] (CW dA u2)) H := hP
    replace hD : va_D A (HAppend.hAppend (α := va_W) (β := va_W) (γ := va_W) [(o, .inl (dA 3, 1, .inr (.inl (vp_updL g 0 r1.toInt64))))] (CW dA u2)) := hD
    refine lv_goto (tgt := 18) hx hb dL_addWord_9 (by decide) ?_
    refine lv_iconst (v := 0) hx hb dL_addWord_18 (by decide) ?_
    refine W.widen (k := 1) (n := 6) (Nat.le_of_ble_eq_true rfl) (Nat.le_of_ble_eq_true rfl) ?_
    refine vx_ret ?_
    have hP9 := va_P.part (X := [(o, .inl (dA 3, 1, .inr (.inl (vp_updL g 0 r1.toInt64))))]) (cx := [(o, .inl (dA 3, 1, .inr (.inl (vp_updL g 0 r1.toInt64))))]) (pl := (CW dA u2)) hP [0] rfl
    have hD9 := va_D.part (X := [(o, .inl (dA 3, 1, .inr (.inl (vp_updL g 0 r1.toInt64))))]) (cx := [(o, .inl (dA 3, 1, .inr (.inl (vp_updL g 0 r1.toInt64))))]) (pl := (CW dA u2)) hD [0] (by decide) rfl
    exact W.iret (v := 0) hx hb hr (fun t ht hW => ⟨⟨0, (u2, vp_updL g 0 r1.toInt64), rfl, ⟨hw3.1, hw3.2.1, (hw3.2.2.2.2)⟩, ⟨by rw [ht]; exact hP9, hD9⟩⟩, hS.F ht⟩) hS.2.2 dL_addWord_19

set_option maxHeartbeats 4000000 in
set_option maxRecDepth 100000 in
theorem c_L_hits (l : Launch) (hlt : l.stackTraces = false) (D : va_G) (dA : Nat → ClassId) (E : Nat) (c9 : CS) (tn o : Nat) (g : Nat → Int64) (p0 : Int32) (p1 : Int32) (sz : Nat) (hI : CI E tn c9) (htn : tn ≤ 600) : vx_Met l yL_hits (wq (.codeWith yL_hits cL_hits 5 (some .int) [(0, 10, 13, 21)])) { frames := 9, cells := 2, slots := 12, locals := 169 } (va_Pc [.ref (c9.xa 0), .int p0, .int p1, .ref o] (PcB D dA E (HAppend.hAppend (α := va_W) (β := va_W) (γ := va_W) [(o, .inl (dA 3, 1, .inr (.inl g)))] (CW dA c9)) sz)) (va_Qi (fun (r : Int32) (u : CS × (Nat → Int64)) => CI E (tn + 1) u.1 ∧ u.1.xa = c9.xa ∧ ((u.1.vs = c9.vs) ∧ (u.1.nv = c9.nv) ∧ (u.1.VN = c9.VN))) (fun u t => va_P D vwCl ([(o, .inl (dA 3, 1, .inr (.inl u.2)))] ++ (CW dA u.1)) t.heap ∧ va_D (va_A (HAppend.hAppend (α := va_W) (β := va_W) (γ := va_W) [(o, .inl (dA 3, 1, .inr (.inl g)))] (CW dA c9)) sz) ([(o, .inl (dA 3, 1, .inr (.inl u.2)))] ++ (CW dA u.1))) (va_A (HAppend.hAppend (α := va_W) (β := va_W) (γ := va_W) [(o, .inl (dA 3, 1, .inr (.inl g)))] (CW dA c9)) sz)) (vx_X (fun (k : Nat) => False) (fun E9 k t => E9 = xN k) (va_A (HAppend.hAppend (α := va_W) (β := va_W) (γ := va_W) [(o, .inl (dA 3, 1, .inr (.inl g)))] (CW dA c9)) sz)) 2 12 (va_A (HAppend.hAppend (α := va_W) (β := va_W) (γ := va_W) [(o, .inl (dA 3, 1, .inr (.inl g)))] (CW dA c9)) sz) := by
  refine mh_of (y := yL_hits) (av := [.ref (c9.xa 0), .int p0, .int p1, .ref o]) (maxL := 5) (Qc := fun A => va_Qi (fun (r : Int32) (u : CS × (Nat → Int64)) => CI E (tn + 1) u.1 ∧ u.1.xa = c9.xa ∧ ((u.1.vs = c9.vs) ∧ (u.1.nv = c9.nv) ∧ (u.1.VN = c9.VN))) (fun u t => va_P D vwCl ([(o, .inl (dA 3, 1, .inr (.inl u.2)))] ++ (CW dA u.1)) t.heap ∧ va_D A ([(o, .inl (dA 3, 1, .inr (.inl u.2)))] ++ (CW dA u.1))) A) (XC := fun A => vx_X (fun (k : Nat) => False) (fun E9 k t => E9 = xN k) A) RL rfl (by decide) (Nat.le_of_ble_eq_true rfl) ?_
  intro p e s m args below meth c hae hx hb hr hts hown hlocks hml hnm htb hP hK A hAe hD hZ hS hA ls hl
  replace hl : lv_has ls 5 [(0, .ref (c9.xa 0)), (1, .int p0), (2, .int p1), (3, .ref o)] := hl
  refine lv_aload_n hx hb dL_hits_0 rfl (lv_at hl 3 rfl) ?_
  refine lv_iconst (v := 0) hx hb dL_hits_1 (by decide) ?_
  refine lv_aload_n hx hb dL_hits_2 rfl (lv_at hl 0 rfl) ?_
  refine lv_iload_n hx hb dL_hits_3 rfl (lv_at hl 1 rfl) ?_
  refine lv_iload_n hx hb dL_hits_4 rfl (lv_at hl 2 rfl) ?_
  replace hPc := va_P.part (X := [(o, .inl (dA 3, 1, .inr (.inl g)))]) (cx := []) (pl := (CW dA c9)) hP [] rfl
  replace hDc := va_D.part (X := [(o, .inl (dA 3, 1, .inr (.inl g)))]) (cx := []) (pl := (CW dA c9)) hD [] (by decide) rfl
  replace hFc := va_freeP (X := [(o, .inl (dA 3, 1, .inr (.inl g)))]) (cx := []) (pl := (CW dA c9)) hD hS hA [] rfl
  refine vx_calli (vx_runV (As := [.int p0, .int p1]) (rest := [.int 0, .ref o]) ⟨hx, hb, hml, hown, hts⟩ (y8_hits l hlt D dA E c9 tn p0 p1 s.heap.size  hI htn) (cwV 2 hts (ga_V q770 q771 q768 q346 q769) rfl rfl rfl (by decide +kernel) ⟨(Nat.le_of_ble_eq_true rfl), (Nat.le_of_ble_eq_true rfl)⟩) ⟨pb_blind, va_recv hK hPc (ci := 11) (q0 := 0) rfl rfl, pb_pre hK hPc hDc hZ hS hFc _⟩ rfl rfl hl.1 rfl (lv_room (Nat.le_of_ble_eq_true rfl)) dL_hits_5 ⟨(Nat.le_of_ble_eq_true rfl), (Nat.le_of_ble_eq_true rfl)⟩) hS (fun q _ h => hFc q h) hFc (fun q _ h => hFc q h) (fun E9 ce q9 k t H1 locs ht hvm hpx hBX hz1 hk1 hS hce hcv hcl => ?_) (fun r u t H1 locs ht hvm hw hB hz1 hk1 hS => ?_)
  · obtain ⟨k1, kx⟩ := k
    obtain ⟨hBE, hP1, hD1⟩ := hBX
    rw [ht] at hP1
    dsimp only at hpx hBE hP1 hD1
    obtain ⟨hP, hD⟩ := va_joinP (X := [(o, .inl (dA 3, 1, .inr (.inl g)))]) (cx := []) (wr := [(o, .inl (dA 3, 1, .inr (.inl g)))]) (rx := []) (pl := (CW dA c9)) (pl1 := (CW dA kx)) hP hD [] [0] rfl rfl (by decide) (by decide) hk1 hFc hP1 hD1
    generalize H1 = H at hP hS hce ⊢
    replace hP : va_P D vwCl (HAppend.hAppend (α := va_W) (β := va_W) (γ := va_W) [(o, .inl (dA 3, 1, .inr (.inl g)))] (CW dA kx)) H := hP
    replace hD : va_D A (HAppend.hAppend (α := va_W) (β := va_W) (γ := va_W) [(o, .inl (dA 3, 1, .inr (.inl g)))] (CW dA kx)) := hD
    obtain ⟨hcx, hxx, hkx, hrx⟩ := hpx
    refine vx_widen (k := 2) (n := 12) (Nat.le_of_ble_eq_true rfl) (Nat.le_of_ble_eq_true rfl) ?_
    subst hkx
    subst hBE
    refine vx_catch (own := RL) (name := "java/lang/IndexOutOfBoundsException") (E := "java/lang/IndexOutOfBoundsException") hown [] ⟨0, 10, 13, 21⟩ [] htb (fun _ h9 => absurd h9 List.not_mem_nil) rfl (by decide) (hts _ q702) (va_Nw.use rfl (znC_3 hZ.1)) hce hcv hcl ?_
    refine W.eq (g2 := F0 m 13 ls [.ref q9]) rfl ?_
    refine lv_astore (lv' := [(4, .ref q9), (0, .ref (c9.xa 0)), (1, .int p0), (2, .int p1), (3, .ref o)]) hx hb dL_hits_13 hl (by decide) rfl (fun ls hl => ?_)
    refine lv_iconst (v := 1) hx hb dL_hits_15 (by decide) ?_
    refine W.widen (k := 2) (n := 12) (Nat.le_of_ble_eq_true rfl) (Nat.le_of_ble_eq_true rfl) ?_
    refine vx_ret ?_
    have hP9 := va_P.part (X := [(o, .inl (dA 3, 1, .inr (.inl g)))]) (cx := [(o, .inl (dA 3, 1, .inr (.inl g)))]) (pl := (CW dA kx)) hP [0] rfl
    have hD9 := va_D.part (X := [(o, .inl (dA 3, 1, .inr (.inl g)))]) (cx := [(o, .inl (dA 3, 1, .inr (.inl g)))]) (pl := (CW dA kx)) hD [0] (by decide) rfl
    exact W.iret (v := 1) hx hb hr (fun t ht hW => ⟨⟨1, (kx, g), rfl, ⟨hcx, hxx, (hrx.2)⟩, ⟨by rw [ht]; exact hP9, hD9⟩⟩, hS.F ht⟩) hS.2.2 dL_hits_16
  · refine W.widen (k := 2) (n := 12) (Nat.le_of_ble_eq_true rfl) (Nat.le_of_ble_eq_true rfl) ?_
    obtain ⟨r1, rfl⟩ : ∃ z, z = r := ⟨_, rfl⟩
    obtain ⟨u2, rfl⟩ : ∃ z, z = u := ⟨_, rfl⟩
    have hw3 := hw
    clear hw
    obtain ⟨hP1, hD1⟩ := hB
    rw [ht] at hP1
    obtain ⟨hP, hD⟩ := va_joinP (X := [(o, .inl (dA 3, 1, .inr (.inl g)))]) (cx := []) (wr := [(o, .inl (dA 3, 1, .inr (.inl g)))]) (rx := []) (pl := (CW dA c9)) (pl1 := (CW dA u2)) hP hD [] [0] rfl rfl (by decide) (by decide) hk1 hFc hP1 hD1
    generalize H1 = H at hP hS ⊢
    replace hP : va_P D vwCl (HAppend.hAppend (α := va_W) (β := va_W) (γ := va_W) [(o, .inl (dA 3, 1, .inr (.inl g)))] (CW dA u2)) H := hP
    replace hD : va_D A (HAppend.hAppend (α := va_W) (β := va_W) (γ := va_W) [(o, .inl (dA 3, 1, .inr (.inl g)))] (CW dA u2)) := hD
    refine lv_i2l (v := r1.toInt64) hx hb dL_hits_8 rfl ?_
    refine va_last hx hb hK hP hD hS 0 3 rfl rfl (vi_c (by decide)) dL_hits_9 (fun H locs hP hD hS => ?_)
    replace hP : va_P D vwCl (HAppend.hAppend (α := va_W) (β := va_W) (γ := va_W) [(o, .inl (dA 3, 1, .inr (.inl (vp_updL g 0 r1.toInt64))))] (CW dA u2)) H := hP
    replace hD : va_D A (HAppend.hAppend (α := va_W) (β := va_W) (γ := va_W) [(o, .inl (dA 3, 1, .inr (.inl (vp_updL g 0 r1.toInt64))))] (CW dA u2)) := hD
    refine lv_goto (tgt := 17) hx hb dL_hits_10 (by decide) ?_
    refine lv_iconst (v := 0) hx hb dL_hits_17 (by decide) ?_
    refine W.widen (k := 2) (n := 12) (Nat.le_of_ble_eq_true rfl) (Nat.le_of_ble_eq_true rfl) ?_
    refine vx_ret ?_
    have hP9 := va_P.part (X := [(o, .inl (dA 3, 1, .inr (.inl (vp_updL g 0 r1.toInt64))))]) (cx := [(o, .inl (dA 3, 1, .inr (.inl (vp_updL g 0 r1.toInt64))))]) (pl := (CW dA u2)) hP [0] rfl
    have hD9 := va_D.part (X := [(o, .inl (dA 3, 1, .inr (.inl (vp_updL g 0 r1.toInt64))))]) (cx := [(o, .inl (dA 3, 1, .inr (.inl (vp_updL g 0 r1.toInt64))))]) (pl := (CW dA u2)) hD [0] (by decide) rfl
    exact W.iret (v := 0) hx hb hr (fun t ht hW => ⟨⟨0, (u2, vp_updL g 0 r1.toInt64), rfl, ⟨hw3.1, hw3.2.1, (hw3.2.2.2.2)⟩, ⟨by rw [ht]; exact hP9, hD9⟩⟩, hS.F ht⟩) hS.2.2 dL_hits_18

set_option maxHeartbeats 4000000 in
set_option maxRecDepth 100000 in
theorem c_L_hit (l : Launch) (hlt : l.stackTraces = false) (D : va_G) (dA : Nat → ClassId) (E : Nat) (c9 : CS) (tn o : Nat) (g : Nat → Int64) (p0 : Int32) (p1 : Int32) (p2 : Int32) (sz : Nat) (hI : CI E tn c9) (htn : tn ≤ 600) : vx_Met l yL_hit (wq (.codeWith yL_hit cL_hit 6 (some .int) [(0, 12, 15, 21), (0, 12, 19, 80)])) { frames := 9, cells := 3, slots := 18, locals := 170 } (va_Pc [.ref (c9.xa 0), .int p0, .int p1, .int p2, .ref o] (PcB D dA E (HAppend.hAppend (α := va_W) (β := va_W) (γ := va_W) [(o, .inl (dA 3, 1, .inr (.inl g)))] (CW dA c9)) sz)) (va_Qi (fun (r : Int32) (u : CS × (Nat → Int64)) => CI E (tn + 1) u.1 ∧ u.1.xa = c9.xa ∧ ((u.1.vs = c9.vs) ∧ (u.1.nv = c9.nv) ∧ (u.1.VN = c9.VN))) (fun u t => va_P D vwCl ([(o, .inl (dA 3, 1, .inr (.inl u.2)))] ++ (CW dA u.1)) t.heap ∧ va_D (va_A (HAppend.hAppend (α := va_W) (β := va_W) (γ := va_W) [(o, .inl (dA 3, 1, .inr (.inl g)))] (CW dA c9)) sz) ([(o, .inl (dA 3, 1, .inr (.inl u.2)))] ++ (CW dA u.1))) (va_A (HAppend.hAppend (α := va_W) (β := va_W) (γ := va_W) [(o, .inl (dA 3, 1, .inr (.inl g)))] (CW dA c9)) sz)) (vx_X (fun (k : Nat) => False) (fun E9 k t => E9 = xN k) (va_A (HAppend.hAppend (α := va_W) (β := va_W) (γ := va_W) [(o, .inl (dA 3, 1, .inr (.inl g)))] (CW dA c9)) sz)) 3 18 (va_A (HAppend.hAppend (α := va_W) (β := va_W) (γ := va_W) [(o, .inl (dA 3, 1, .inr (.inl g)))] (CW dA c9)) sz) := by
  refine mh_of (y := yL_hit) (av := [.ref (c9.xa 0), .int p0, .int p1, .int p2, .ref o]) (maxL := 6) (Qc := fun A => va_Qi (fun (r : Int32) (u : CS × (Nat → Int64)) => CI E (tn + 1) u.1 ∧ u.1.xa = c9.xa ∧ ((u.1.vs = c9.vs) ∧ (u.1.nv = c9.nv) ∧ (u.1.VN = c9.VN))) (fun u t => va_P D vwCl ([(o, .inl (dA 3, 1, .inr (.inl u.2)))] ++ (CW dA u.1)) t.heap ∧ va_D A ([(o, .inl (dA 3, 1, .inr (.inl u.2)))] ++ (CW dA u.1))) A) (XC := fun A => vx_X (fun (k : Nat) => False) (fun E9 k t => E9 = xN k) A) RL rfl (by decide) (Nat.le_of_ble_eq_true rfl) ?_
  intro p e s m args below meth c hae hx hb hr hts hown hlocks hml hnm htb hP hK A hAe hD hZ hS hA ls hl
  replace hl : lv_has ls 6 [(0, .ref (c9.xa 0)), (1, .int p0), (2, .int p1), (3, .int p2), (4, .ref o)] := hl
  refine lv_aload hx hb dL_hit_0 (lv_at hl 4 rfl) ?_
  refine lv_iconst (v := 0) hx hb dL_hit_2 (by decide) ?_
  refine lv_aload_n hx hb dL_hit_3 rfl (lv_at hl 0 rfl) ?_
  refine lv_iload_n hx hb dL_hit_4 rfl (lv_at hl 1 rfl) ?_
  refine lv_iload_n hx hb dL_hit_5 rfl (lv_at hl 2 rfl) ?_
  refine lv_iload_n hx hb dL_hit_6 rfl (lv_at hl 3 rfl) ?_
  replace hPc := va_P.part (X := [(o, .inl (dA 3, 1, .inr (.inl g)))]) (cx := []) (pl := (CW dA c9)) hP [] rfl
  replace hDc := va_D.part (X := [(o, .inl (dA 3, 1, .inr (.inl g)))]) (cx := []) (pl := (CW dA c9)) hD [] (by decide) rfl
  replace hFc := va_freeP (X := [(o, .inl (dA 3, 1, .inr (.inl g)))]) (cx := []) (pl := (CW dA c9)) hD hS hA [] rfl
  refine vx_calli (vx_runV (As := [.int p0, .int p1, .int p2]) (rest := [.int 0, .ref o]) ⟨hx, hb, hml, hown, hts⟩ (y8_hit l hlt D dA E c9 tn p0 p1 p2 s.heap.size  hI htn) (cwV 3 hts (ga_V q774 q775 q772 q346 q773) rfl rfl rfl (by decide +kernel) ⟨(Nat.le_of_ble_eq_true rfl), (Nat.le_of_ble_eq_true rfl)⟩) ⟨pb_blind, va_recv hK hPc (ci := 11) (q0 := 0) rfl rfl, pb_pre hK hPc hDc hZ hS hFc _⟩ rfl rfl hl.1 rfl (lv_room (Nat.le_of_ble_eq_true rfl)) dL_hit_7 ⟨(Nat.le_of_ble_eq_true rfl), (Nat.le_of_ble_eq_true rfl)⟩) hS (fun q _ h => hFc q h) hFc (fun q _ h => hFc q h) (fun E9 ce q9 k t H1 locs ht hvm hpx hBX hz1 hk1 hS hce hcv hcl => ?_) (fun r u t H1 locs ht hvm hw hB hz1 hk1 hS => ?_)
  · obtain ⟨k1, kx⟩ := k
    obtain ⟨hBE, hP1, hD1⟩ := hBX
    rw [ht] at hP1
    dsimp only at hpx hBE hP1 hD1
    obtain ⟨hP, hD⟩ := va_joinP (X := [(o, .inl (dA 3, 1, .inr (.inl g)))]) (cx := []) (wr := [(o, .inl (dA 3, 1, .inr (.inl g)))]) (rx := []) (pl := (CW dA c9)) (pl1 := (CW dA kx)) hP hD [] [0] rfl rfl (by decide) (by decide) hk1 hFc hP1 hD1
    generalize H1 = H at hP hS hce ⊢
    replace hP : va_P D vwCl (HAppend.hAppend (α := va_W) (β := va_W) (γ := va_W) [(o, .inl (dA 3, 1, .inr (.inl g)))] (CW dA kx)) H := hP
    replace hD : va_D A (HAppend.hAppend (α := va_W) (β := va_W) (γ := va_W) [(o, .inl (dA 3, 1, .inr (.inl g)))] (CW dA kx)) := hD
    obtain ⟨hcx, hxx, hkx, hrx⟩ := hpx
    refine vx_widen (k := 3) (n := 18) (Nat.le_of_ble_eq_true rfl) (Nat.le_of_ble_eq_true rfl) ?_
    rcases hkx with rfl | rfl
    · subst hBE
      refine vx_catch (own := RL) (name := "java/lang/IndexOutOfBoundsException") (E := "java/lang/IndexOutOfBoundsException") hown [] ⟨0, 12, 15, 21⟩ [⟨0, 12, 19, 80⟩] htb (fun _ h9 => absurd h9 List.not_mem_nil) rfl (by decide) (hts _ q702) (va_Nw.use rfl (znC_3 hZ.1)) hce hcv hcl ?_
      refine W.eq (g2 := F0 m 15 ls [.ref q9]) rfl ?_
      refine lv_astore (lv' := [(5, .ref q9), (0, .ref (c9.xa 0)), (1, .int p0), (2, .int p1), (3, .int p2), (4, .ref o)]) hx hb dL_hit_15 hl (by decide) rfl (fun ls hl => ?_)
      refine lv_iconst (v := 1) hx hb dL_hit_17 (by decide) ?_
      refine W.widen (k := 3) (n := 18) (Nat.le_of_ble_eq_true rfl) (Nat.le_of_ble_eq_true rfl) ?_
      refine vx_ret ?_
      have hP9 := va_P.part (X := [(o, .inl (dA 3, 1, .inr (.inl g)))]) (cx := [(o, .inl (dA 3, 1, .inr (.inl g)))]) (pl := (CW dA kx)) hP [0] rfl
      have hD9 := va_D.part (X := [(o, .inl (dA 3, 1, .inr (.inl g)))]) (cx := [(o, .inl (dA 3, 1, .inr (.inl g)))]) (pl := (CW dA kx)) hD [0] (by decide) rfl
      exact W.iret (v := 1) hx hb hr (fun t ht hW => ⟨⟨1, (kx, g), rfl, ⟨hcx, hxx, (hrx.2)⟩, ⟨by rw [ht]; exact hP9, hD9⟩⟩, hS.F ht⟩) hS.2.2 dL_hit_18
    · subst hBE
      refine vx_catch (own := RL) (name := "java/util/NoSuchElementException") (E := "java/util/NoSuchElementException") hown [⟨0, 12, 15, 21⟩] ⟨0, 12, 19, 80⟩ [] htb (List.forall_mem_cons.mpr ⟨Or.inr ⟨by decide, "java/lang/IndexOutOfBoundsException", hts _ q702, (znN_10 hZ.1)⟩, (fun _ h9 => absurd h9 List.not_mem_nil)⟩) rfl (by decide) (hts _ q776) (va_Nw.use rfl (znC_4 hZ.1)) hce hcv hcl ?_
      refine W.eq (g2 := F0 m 19 ls [.ref q9]) rfl ?_
      refine lv_astore (lv' := [(5, .ref q9), (0, .ref (c9.xa 0)), (1, .int p0), (2, .int p1), (3, .int p2), (4, .ref o)]) hx hb dL_hit_19 hl (by decide) rfl (fun ls hl => ?_)
      refine lv_iconst (v := 2) hx hb dL_hit_21 (by decide) ?_
      refine W.widen (k := 3) (n := 18) (Nat.le_of_ble_eq_true rfl) (Nat.le_of_ble_eq_true rfl) ?_
      refine vx_ret ?_
      have hP9 := va_P.part (X := [(o, .inl (dA 3, 1, .inr (.inl g)))]) (cx := [(o, .inl (dA 3, 1, .inr (.inl g)))]) (pl := (CW dA kx)) hP [0] rfl
      have hD9 := va_D.part (X := [(o, .inl (dA 3, 1, .inr (.inl g)))]) (cx := [(o, .inl (dA 3, 1, .inr (.inl g)))]) (pl := (CW dA kx)) hD [0] (by decide) rfl
      exact W.iret (v := 2) hx hb hr (fun t ht hW => ⟨⟨2, (kx, g), rfl, ⟨hcx, hxx, (hrx.2)⟩, ⟨by rw [ht]; exact hP9, hD9⟩⟩, hS.F ht⟩) hS.2.2 dL_hit_22
  · refine W.widen (k := 3) (n := 18) (Nat.le_of_ble_eq_true rfl) (Nat.le_of_ble_eq_true rfl) ?_
    obtain ⟨r1, rfl⟩ : ∃ z, z = r := ⟨_, rfl⟩
    obtain ⟨u2, rfl⟩ : ∃ z, z = u := ⟨_, rfl⟩
    have hw3 := hw
    clear hw
    obtain ⟨hP1, hD1⟩ := hB
    rw [ht] at hP1
    obtain ⟨hP, hD⟩ := va_joinP (X := [(o, .inl (dA 3, 1, .inr (.inl g)))]) (cx := []) (wr := [(o, .inl (dA 3, 1, .inr (.inl g)))]) (rx := []) (pl := (CW dA c9)) (pl1 := (CW dA u2)) hP hD [] [0] rfl rfl (by decide) (by decide) hk1 hFc hP1 hD1
    generalize H1 = H at hP hS ⊢
    replace hP : va_P D vwCl (HAppend.hAppend (α := va_W) (β := va_W) (γ := va_W) [(o, .inl (dA 3, 1, .inr (.inl g)))] (CW dA u2)) H := hP
    replace hD : va_D A (HAppend.hAppend (α := va_W) (β := va_W) (γ := va_W) [(o, .inl (dA 3, 1, .inr (.inl g)))] (CW dA u2)) := hD
    refine lv_i2l (v := r1.toInt64) hx hb dL_hit_10 rfl ?_
    refine va_last hx hb hK hP hD hS 0 3 rfl rfl (vi_c (by decide)) dL_hit_11 (fun H locs hP hD hS => ?_)
    replace hP : va_P D vwCl (HAppend.hAppend (α := va_W) (β := va_W) (γ := va_W) [(o, .inl (dA 3, 1, .inr (.inl (vp_updL g 0 r1.toInt64))))] (CW dA u2)) H := hP
    replace hD : va_D A (HAppend.hAppend (α := va_W) (β := va_W) (γ := va_W) [(o, .inl (dA 3, 1, .inr (.inl (vp_updL g 0 r1.toInt64))))] (CW dA u2)) := hD
    refine lv_goto (tgt := 23) hx hb dL_hit_12 (by decide) ?_
    refine lv_iconst (v := 0) hx hb dL_hit_23 (by decide) ?_
    refine W.widen (k := 3) (n := 18) (Nat.le_of_ble_eq_true rfl) (Nat.le_of_ble_eq_true rfl) ?_
    refine vx_ret ?_
    have hP9 := va_P.part (X := [(o, .inl (dA 3, 1, .inr (.inl (vp_updL g 0 r1.toInt64))))]) (cx := [(o, .inl (dA 3, 1, .inr (.inl (vp_updL g 0 r1.toInt64))))]) (pl := (CW dA u2)) hP [0] rfl
    have hD9 := va_D.part (X := [(o, .inl (dA 3, 1, .inr (.inl (vp_updL g 0 r1.toInt64))))]) (cx := [(o, .inl (dA 3, 1, .inr (.inl (vp_updL g 0 r1.toInt64))))]) (pl := (CW dA u2)) hD [0] (by decide) rfl
    exact W.iret (v := 0) hx hb hr (fun t ht hW => ⟨⟨0, (u2, vp_updL g 0 r1.toInt64), rfl, ⟨hw3.1, hw3.2.1, (hw3.2.2.2.2)⟩, ⟨by rw [ht]; exact hP9, hD9⟩⟩, hS.F ht⟩) hS.2.2 dL_hit_24

set_option maxHeartbeats 4000000 in
set_option maxRecDepth 100000 in
theorem c_L_score (l : Launch) (hlt : l.stackTraces = false) (D : va_G) (dA : Nat → ClassId) (E : Nat) (c9 : CS) (tn o : Nat) (g : Nat → Int64) (p0 : Int32) (p1 : Int32) (p2 : Int32) (sz : Nat) (hI : CI E tn c9) (htn : tn ≤ 600) : vx_Met l yL_score (wq (.codeWith yL_score cL_score 6 (some .int) [(0, 11, 14, 21), (0, 11, 18, 80)])) { frames := 9, cells := 3, slots := 18, locals := 170 } (va_Pc [.ref (c9.xa 0), .int p0, .int p1, .int p2, .ref o] (PcB D dA E (HAppend.hAppend (α := va_W) (β := va_W) (γ := va_W) [(o, .inl (dA 3, 1, .inr (.inl g)))] (CW dA c9)) sz)) (va_Qi (fun (r : Int32) (u : CS × (Nat → Int64)) => CI E (tn + 1) u.1 ∧ u.1.xa = c9.xa ∧ ((u.1.vs = c9.vs) ∧ (u.1.nv = c9.nv) ∧ (u.1.VN = c9.VN))) (fun u t => va_P D vwCl ([(o, .inl (dA 3, 1, .inr (.inl u.2)))] ++ (CW dA u.1)) t.heap ∧ va_D (va_A (HAppend.hAppend (α := va_W) (β := va_W) (γ := va_W) [(o, .inl (dA 3, 1, .inr (.inl g)))] (CW dA c9)) sz) ([(o, .inl (dA 3, 1, .inr (.inl u.2)))] ++ (CW dA u.1))) (va_A (HAppend.hAppend (α := va_W) (β := va_W) (γ := va_W) [(o, .inl (dA 3, 1, .inr (.inl g)))] (CW dA c9)) sz)) (vx_X (fun (k : Nat) => False) (fun E9 k t => E9 = xN k) (va_A (HAppend.hAppend (α := va_W) (β := va_W) (γ := va_W) [(o, .inl (dA 3, 1, .inr (.inl g)))] (CW dA c9)) sz)) 3 18 (va_A (HAppend.hAppend (α := va_W) (β := va_W) (γ := va_W) [(o, .inl (dA 3, 1, .inr (.inl g)))] (CW dA c9)) sz) := by
  refine mh_of (y := yL_score) (av := [.ref (c9.xa 0), .int p0, .int p1, .int p2, .ref o]) (maxL := 6) (Qc := fun A => va_Qi (fun (r : Int32) (u : CS × (Nat → Int64)) => CI E (tn + 1) u.1 ∧ u.1.xa = c9.xa ∧ ((u.1.vs = c9.vs) ∧ (u.1.nv = c9.nv) ∧ (u.1.VN = c9.VN))) (fun u t => va_P D vwCl ([(o, .inl (dA 3, 1, .inr (.inl u.2)))] ++ (CW dA u.1)) t.heap ∧ va_D A ([(o, .inl (dA 3, 1, .inr (.inl u.2)))] ++ (CW dA u.1))) A) (XC := fun A => vx_X (fun (k : Nat) => False) (fun E9 k t => E9 = xN k) A) RL rfl (by decide) (Nat.le_of_ble_eq_true rfl) ?_
  intro p e s m args below meth c hae hx hb hr hts hown hlocks hml hnm htb hP hK A hAe hD hZ hS hA ls hl
  replace hl : lv_has ls 6 [(0, .ref (c9.xa 0)), (1, .int p0), (2, .int p1), (3, .int p2), (4, .ref o)] := hl
  refine lv_aload hx hb dL_score_0 (lv_at hl 4 rfl) ?_
  refine lv_iconst (v := 0) hx hb dL_score_2 (by decide) ?_
  refine lv_aload_n hx hb dL_score_3 rfl (lv_at hl 0 rfl) ?_
  refine lv_iload_n hx hb dL_score_4 rfl (lv_at hl 1 rfl) ?_
  refine lv_iload_n hx hb dL_score_5 rfl (lv_at hl 2 rfl) ?_
  refine lv_iload_n hx hb dL_score_6 rfl (lv_at hl 3 rfl) ?_
  replace hPc := va_P.part (X := [(o, .inl (dA 3, 1, .inr (.inl g)))]) (cx := []) (pl := (CW dA c9)) hP [] rfl
  replace hDc := va_D.part (X := [(o, .inl (dA 3, 1, .inr (.inl g)))]) (cx := []) (pl := (CW dA c9)) hD [] (by decide) rfl
  replace hFc := va_freeP (X := [(o, .inl (dA 3, 1, .inr (.inl g)))]) (cx := []) (pl := (CW dA c9)) hD hS hA [] rfl
  refine vx_calll (vx_runV (As := [.int p0, .int p1, .int p2]) (rest := [.int 0, .ref o]) ⟨hx, hb, hml, hown, hts⟩ (y8_score l hlt D dA E c9 tn p0 p1 p2 s.heap.size  hI htn) (cwV 3 hts (ga_V q779 q780 q777 q346 q778) rfl rfl rfl (by decide +kernel) ⟨(Nat.le_of_ble_eq_true rfl), (Nat.le_of_ble_eq_true rfl)⟩) ⟨pb_blind, va_recv hK hPc (ci := 11) (q0 := 0) rfl rfl, pb_pre hK hPc hDc hZ hS hFc _⟩ rfl rfl hl.1 rfl (lv_room (Nat.le_of_ble_eq_true rfl)) dL_score_7 ⟨(Nat.le_of_ble_eq_true rfl), (Nat.le_of_ble_eq_true rfl)⟩) hS (fun q _ h => hFc q h) hFc (fun q _ h => hFc q h) (fun E9 ce q9 k t H1 locs ht hvm hpx hBX hz1 hk1 hS hce hcv hcl => ?_) (fun r u t H1 locs ht hvm hw hB hz1 hk1 hS => ?_)
  · obtain ⟨k1, kx⟩ := k
    obtain ⟨hBE, hP1, hD1⟩ := hBX
    rw [ht] at hP1
    dsimp only at hpx hBE hP1 hD1
    obtain ⟨hP, hD⟩ := va_joinP (X := [(o, .inl (dA 3, 1, .inr (.inl g)))]) (cx := []) (wr := [(o, .inl (dA 3, 1, .inr (.inl g)))]) (rx := []) (pl := (CW dA c9)) (pl1 := (CW dA kx)) hP hD [] [0] rfl rfl (by decide) (by decide) hk1 hFc hP1 hD1
    generalize H1 = H at hP hS hce ⊢
    replace hP : va_P D vwCl (HAppend.hAppend (α := va_W) (β := va_W) (γ := va_W) [(o, .inl (dA 3, 1, .inr (.inl g)))] (CW dA kx)) H := hP
    replace hD : va_D A (HAppend.hAppend (α := va_W) (β := va_W) (γ := va_W) [(o, .inl (dA 3, 1, .inr (.inl g)))] (CW dA kx)) := hD
    obtain ⟨hcx, hxx, hkx, hrx⟩ := hpx
    refine vx_widen (k := 3) (n := 18) (Nat.le_of_ble_eq_true rfl) (Nat.le_of_ble_eq_true rfl) ?_
    rcases hkx with rfl | rfl
    · subst hBE
      refine vx_catch (own := RL) (name := "java/lang/IndexOutOfBoundsException") (E := "java/lang/IndexOutOfBoundsException") hown [] ⟨0, 11, 14, 21⟩ [⟨0, 11, 18, 80⟩] htb (fun _ h9 => absurd h9 List.not_mem_nil) rfl (by decide) (hts _ q702) (va_Nw.use rfl (znC_3 hZ.1)) hce hcv hcl ?_
      refine W.eq (g2 := F0 m 14 ls [.ref q9]) rfl ?_
      refine lv_astore (lv' := [(5, .ref q9), (0, .ref (c9.xa 0)), (1, .int p0), (2, .int p1), (3, .int p2), (4, .ref o)]) hx hb dL_score_14 hl (by decide) rfl (fun ls hl => ?_)
      refine lv_iconst (v := 1) hx hb dL_score_16 (by decide) ?_
      refine W.widen (k := 3) (n := 18) (Nat.le_of_ble_eq_true rfl) (Nat.le_of_ble_eq_true rfl) ?_
      refine vx_ret ?_
      have hP9 := va_P.part (X := [(o, .inl (dA 3, 1, .inr (.inl g)))]) (cx := [(o, .inl (dA 3, 1, .inr (.inl g)))]) (pl := (CW dA kx)) hP [0] rfl
      have hD9 := va_D.part (X := [(o, .inl (dA 3, 1, .inr (.inl g)))]) (cx := [(o, .inl (dA 3, 1, .inr (.inl g)))]) (pl := (CW dA kx)) hD [0] (by decide) rfl
      exact W.iret (v := 1) hx hb hr (fun t ht hW => ⟨⟨1, (kx, g), rfl, ⟨hcx, hxx, (hrx.2)⟩, ⟨by rw [ht]; exact hP9, hD9⟩⟩, hS.F ht⟩) hS.2.2 dL_score_17
    · subst hBE
      refine vx_catch (own := RL) (name := "java/util/NoSuchElementException") (E := "java/util/NoSuchElementException") hown [⟨0, 11, 14, 21⟩] ⟨0, 11, 18, 80⟩ [] htb (List.forall_mem_cons.mpr ⟨Or.inr ⟨by decide, "java/lang/IndexOutOfBoundsException", hts _ q702, (znN_10 hZ.1)⟩, (fun _ h9 => absurd h9 List.not_mem_nil)⟩) rfl (by decide) (hts _ q776) (va_Nw.use rfl (znC_4 hZ.1)) hce hcv hcl ?_
      refine W.eq (g2 := F0 m 18 ls [.ref q9]) rfl ?_
      refine lv_astore (lv' := [(5, .ref q9), (0, .ref (c9.xa 0)), (1, .int p0), (2, .int p1), (3, .int p2), (4, .ref o)]) hx hb dL_score_18 hl (by decide) rfl (fun ls hl => ?_)
      refine lv_iconst (v := 2) hx hb dL_score_20 (by decide) ?_
      refine W.widen (k := 3) (n := 18) (Nat.le_of_ble_eq_true rfl) (Nat.le_of_ble_eq_true rfl) ?_
      refine vx_ret ?_
      have hP9 := va_P.part (X := [(o, .inl (dA 3, 1, .inr (.inl g)))]) (cx := [(o, .inl (dA 3, 1, .inr (.inl g)))]) (pl := (CW dA kx)) hP [0] rfl
      have hD9 := va_D.part (X := [(o, .inl (dA 3, 1, .inr (.inl g)))]) (cx := [(o, .inl (dA 3, 1, .inr (.inl g)))]) (pl := (CW dA kx)) hD [0] (by decide) rfl
      exact W.iret (v := 2) hx hb hr (fun t ht hW => ⟨⟨2, (kx, g), rfl, ⟨hcx, hxx, (hrx.2)⟩, ⟨by rw [ht]; exact hP9, hD9⟩⟩, hS.F ht⟩) hS.2.2 dL_score_21
  · refine W.widen (k := 3) (n := 18) (Nat.le_of_ble_eq_true rfl) (Nat.le_of_ble_eq_true rfl) ?_
    obtain ⟨r1, rfl⟩ : ∃ z, z = r := ⟨_, rfl⟩
    obtain ⟨u2, rfl⟩ : ∃ z, z = u := ⟨_, rfl⟩
    have hw3 := hw
    clear hw
    obtain ⟨hP1, hD1⟩ := hB
    rw [ht] at hP1
    obtain ⟨hP, hD⟩ := va_joinP (X := [(o, .inl (dA 3, 1, .inr (.inl g)))]) (cx := []) (wr := [(o, .inl (dA 3, 1, .inr (.inl g)))]) (rx := []) (pl := (CW dA c9)) (pl1 := (CW dA u2)) hP hD [] [0] rfl rfl (by decide) (by decide) hk1 hFc hP1 hD1
    generalize H1 = H at hP hS ⊢
    replace hP : va_P D vwCl (HAppend.hAppend (α := va_W) (β := va_W) (γ := va_W) [(o, .inl (dA 3, 1, .inr (.inl g)))] (CW dA u2)) H := hP
    replace hD : va_D A (HAppend.hAppend (α := va_W) (β := va_W) (γ := va_W) [(o, .inl (dA 3, 1, .inr (.inl g)))] (CW dA u2)) := hD
    refine va_last hx hb hK hP hD hS 0 3 rfl rfl (vi_c (by decide)) dL_score_10 (fun H locs hP hD hS => ?_)
    replace hP : va_P D vwCl (HAppend.hAppend (α := va_W) (β := va_W) (γ := va_W) [(o, .inl (dA 3, 1, .inr (.inl (vp_updL g 0 r1))))] (CW dA u2)) H := hP
    replace hD : va_D A (HAppend.hAppend (α := va_W) (β := va_W) (γ := va_W) [(o, .inl (dA 3, 1, .inr (.inl (vp_updL g 0 r1))))] (CW dA u2)) := hD
    refine lv_goto (tgt := 22) hx hb dL_score_11 (by decide) ?_
    refine lv_iconst (v := 0) hx hb dL_score_22 (by decide) ?_
    refine W.widen (k := 3) (n := 18) (Nat.le_of_ble_eq_true rfl) (Nat.le_of_ble_eq_true rfl) ?_
    refine vx_ret ?_
    have hP9 := va_P.part (X := [(o, .inl (dA 3, 1, .inr (.inl (vp_updL g 0 r1))))]) (cx := [(o, .inl (dA 3, 1, .inr (.inl (vp_updL g 0 r1))))]) (pl := (CW dA u2)) hP [0] rfl
    have hD9 := va_D.part (X := [(o, .inl (dA 3, 1, .inr (.inl (vp_updL g 0 r1))))]) (cx := [(o, .inl (dA 3, 1, .inr (.inl (vp_updL g 0 r1))))]) (pl := (CW dA u2)) hD [0] (by decide) rfl
    exact W.iret (v := 0) hx hb hr (fun t ht hW => ⟨⟨0, (u2, vp_updL g 0 r1), rfl, ⟨hw3.1, hw3.2.1, (hw3.2.2.2.2)⟩, ⟨by rw [ht]; exact hP9, hD9⟩⟩, hS.F ht⟩) hS.2.2 dL_score_23

set_option maxHeartbeats 4000000 in
set_option maxRecDepth 100000 in
theorem c_L_scoreAlone (l : Launch) (hlt : l.stackTraces = false) (D : va_G) (dA : Nat → ClassId) (E : Nat) (c9 : CS) (tn o : Nat) (g : Nat → Int64) (p0 : Int32) (p1 : Int32) (p2 : Int32) (sz : Nat) (hI : CI E tn c9) (htn : tn ≤ 600) : vx_Met l yL_scoreAlone (wq (.codeWith yL_scoreAlone cL_scoreAlone 6 (some .int) [(0, 11, 14, 21)])) { frames := 9, cells := 3, slots := 18, locals := 170 } (va_Pc [.ref (c9.xa 0), .int p0, .int p1, .int p2, .ref o] (PcB D dA E (HAppend.hAppend (α := va_W) (β := va_W) (γ := va_W) [(o, .inl (dA 3, 1, .inr (.inl g)))] (CW dA c9)) sz)) (va_Qi (fun (r : Int32) (u : CS × (Nat → Int64)) => CI E (tn + 1) u.1 ∧ u.1.xa = c9.xa ∧ ((u.1.vs = c9.vs) ∧ (u.1.nv = c9.nv) ∧ (u.1.VN = c9.VN))) (fun u t => va_P D vwCl ([(o, .inl (dA 3, 1, .inr (.inl u.2)))] ++ (CW dA u.1)) t.heap ∧ va_D (va_A (HAppend.hAppend (α := va_W) (β := va_W) (γ := va_W) [(o, .inl (dA 3, 1, .inr (.inl g)))] (CW dA c9)) sz) ([(o, .inl (dA 3, 1, .inr (.inl u.2)))] ++ (CW dA u.1))) (va_A (HAppend.hAppend (α := va_W) (β := va_W) (γ := va_W) [(o, .inl (dA 3, 1, .inr (.inl g)))] (CW dA c9)) sz)) (vx_X (fun (k : Nat) => False) (fun E9 k t => E9 = xN k) (va_A (HAppend.hAppend (α := va_W) (β := va_W) (γ := va_W) [(o, .inl (dA 3, 1, .inr (.inl g)))] (CW dA c9)) sz)) 3 18 (va_A (HAppend.hAppend (α := va_W) (β := va_W) (γ := va_W) [(o, .inl (dA 3, 1, .inr (.inl g)))] (CW dA c9)) sz) := by
  refine mh_of (y := yL_scoreAlone) (av := [.ref (c9.xa 0), .int p0, .int p1, .int p2, .ref o]) (maxL := 6) (Qc := fun A => va_Qi (fun (r : Int32) (u : CS × (Nat → Int64)) => CI E (tn + 1) u.1 ∧ u.1.xa = c9.xa ∧ ((u.1.vs = c9.vs) ∧ (u.1.nv = c9.nv) ∧ (u.1.VN = c9.VN))) (fun u t => va_P D vwCl ([(o, .inl (dA 3, 1, .inr (.inl u.2)))] ++ (CW dA u.1)) t.heap ∧ va_D A ([(o, .inl (dA 3, 1, .inr (.inl u.2)))] ++ (CW dA u.1))) A) (XC := fun A => vx_X (fun (k : Nat) => False) (fun E9 k t => E9 = xN k) A) RL rfl (by decide) (Nat.le_of_ble_eq_true rfl) ?_
  intro p e s m args below meth c hae hx hb hr hts hown hlocks hml hnm htb hP hK A hAe hD hZ hS hA ls hl
  replace hl : lv_has ls 6 [(0, .ref (c9.xa 0)), (1, .int p0), (2, .int p1), (3, .int p2), (4, .ref o)] := hl
  refine lv_aload hx hb dL_scoreAlone_0 (lv_at hl 4 rfl) ?_
  refine lv_iconst (v := 0) hx hb dL_scoreAlone_2 (by decide) ?_
  refine lv_aload_n hx hb dL_scoreAlone_3 rfl (lv_at hl 0 rfl) ?_
  refine lv_iload_n hx hb dL_scoreAlone_4 rfl (lv_at hl 1 rfl) ?_
  refine lv_iload_n hx hb dL_scoreAlone_5 rfl (lv_at hl 2 rfl) ?_
  refine lv_iload_n hx hb dL_scoreAlone_6 rfl (lv_at hl 3 rfl) ?_
  replace hPc := va_P.part (X := [(o, .inl (dA 3, 1, .inr (.inl g)))]) (cx := []) (pl := (CW dA c9)) hP [] rfl
  replace hDc := va_D.part (X := [(o, .inl (dA 3, 1, .inr (.inl g)))]) (cx := []) (pl := (CW dA c9)) hD [] (by decide) rfl
  replace hFc := va_freeP (X := [(o, .inl (dA 3, 1, .inr (.inl g)))]) (cx := []) (pl := (CW dA c9)) hD hS hA [] rfl
  refine vx_calll (vx_runV (As := [.int p0, .int p1, .int p2]) (rest := [.int 0, .ref o]) ⟨hx, hb, hml, hown, hts⟩ (y8_scoreAlone l hlt D dA E c9 tn p0 p1 p2 s.heap.size  hI htn) (cwV 3 hts (ga_V q783 q784 q781 q346 q782) rfl rfl rfl (by decide +kernel) ⟨(Nat.le_of_ble_eq_true rfl), (Nat.le_of_ble_eq_true rfl)⟩) ⟨pb_blind, va_recv hK hPc (ci := 11) (q0 := 0) rfl rfl, pb_pre hK hPc hDc hZ hS hFc _⟩ rfl rfl hl.1 rfl (lv_room (Nat.le_of_ble_eq_true rfl)) dL_scoreAlone_7 ⟨(Nat.le_of_ble_eq_true rfl), (Nat.le_of_ble_eq_true rfl)⟩) hS (fun q _ h => hFc q h) hFc (fun q _ h => hFc q h) (fun E9 ce q9 k t H1 locs ht hvm hpx hBX hz1 hk1 hS hce hcv hcl => ?_) (fun r u t H1 locs ht hvm hw hB hz1 hk1 hS => ?_)
  · obtain ⟨k1, kx⟩ := k
    obtain ⟨hBE, hP1, hD1⟩ := hBX
    rw [ht] at hP1
    dsimp only at hpx hBE hP1 hD1
    obtain ⟨hP, hD⟩ := va_joinP (X := [(o, .inl (dA 3, 1, .inr (.inl g)))]) (cx := []) (wr := [(o, .inl (dA 3, 1, .inr (.inl g)))]) (rx := []) (pl := (CW dA c9)) (pl1 := (CW dA kx)) hP hD [] [0] rfl rfl (by decide) (by decide) hk1 hFc hP1 hD1
    generalize H1 = H at hP hS hce ⊢
    replace hP : va_P D vwCl (HAppend.hAppend (α := va_W) (β := va_W) (γ := va_W) [(o, .inl (dA 3, 1, .inr (.inl g)))] (CW dA kx)) H := hP
    replace hD : va_D A (HAppend.hAppend (α := va_W) (β := va_W) (γ := va_W) [(o, .inl (dA 3, 1, .inr (.inl g)))] (CW dA kx)) := hD
    obtain ⟨hcx, hxx, hkx, hrx⟩ := hpx
    refine vx_widen (k := 3) (n := 18) (Nat.le_of_ble_eq_true rfl) (Nat.le_of_ble_eq_true rfl) ?_
    subst hkx
    subst hBE
    refine vx_catch (own := RL) (name := "java/lang/IndexOutOfBoundsException") (E := "java/lang/IndexOutOfBoundsException") hown [] ⟨0, 11, 14, 21⟩ [] htb (fun _ h9 => absurd h9 List.not_mem_nil) rfl (by decide) (hts _ q702) (va_Nw.use rfl (znC_3 hZ.1)) hce hcv hcl ?_
    refine W.eq (g2 := F0 m 14 ls [.ref q9]) rfl ?_
    refine lv_astore (lv' := [(5, .ref q9), (0, .ref (c9.xa 0)), (1, .int p0), (2, .int p1), (3, .int p2), (4, .ref o)]) hx hb dL_scoreAlone_14 hl (by decide) rfl (fun ls hl => ?_)
    refine lv_iconst (v := 1) hx hb dL_scoreAlone_16 (by decide) ?_
    refine W.widen (k := 3) (n := 18) (Nat.le_of_ble_eq_true rfl) (Nat.le_of_ble_eq_true rfl) ?_
    refine vx_ret ?_
    have hP9 := va_P.part (X := [(o, .inl (dA 3, 1, .inr (.inl g)))]) (cx := [(o, .inl (dA 3, 1, .inr (.inl g)))]) (pl := (CW dA kx)) hP [0] rfl
    have hD9 := va_D.part (X := [(o, .inl (dA 3, 1, .inr (.inl g)))]) (cx := [(o, .inl (dA 3, 1, .inr (.inl g)))]) (pl := (CW dA kx)) hD [0] (by decide) rfl
    exact W.iret (v := 1) hx hb hr (fun t ht hW => ⟨⟨1, (kx, g), rfl, ⟨hcx, hxx, (hrx.2)⟩, ⟨by rw [ht]; exact hP9, hD9⟩⟩, hS.F ht⟩) hS.2.2 dL_scoreAlone_17
  · refine W.widen (k := 3) (n := 18) (Nat.le_of_ble_eq_true rfl) (Nat.le_of_ble_eq_true rfl) ?_
    obtain ⟨r1, rfl⟩ : ∃ z, z = r := ⟨_, rfl⟩
    obtain ⟨u2, rfl⟩ : ∃ z, z = u := ⟨_, rfl⟩
    have hw3 := hw
    clear hw
    obtain ⟨hP1, hD1⟩ := hB
    rw [ht] at hP1
    obtain ⟨hP, hD⟩ := va_joinP (X := [(o, .inl (dA 3, 1, .inr (.inl g)))]) (cx := []) (wr := [(o, .inl (dA 3, 1, .inr (.inl g)))]) (rx := []) (pl := (CW dA c9)) (pl1 := (CW dA u2)) hP hD [] [0] rfl rfl (by decide) (by decide) hk1 hFc hP1 hD1
    generalize H1 = H at hP hS ⊢
    replace hP : va_P D vwCl (HAppend.hAppend (α := va_W) (β := va_W) (γ := va_W) [(o, .inl (dA 3, 1, .inr (.inl g)))] (CW dA u2)) H := hP
    replace hD : va_D A (HAppend.hAppend (α := va_W) (β := va_W) (γ := va_W) [(o, .inl (dA 3, 1, .inr (.inl g)))] (CW dA u2)) := hD
    refine va_last hx hb hK hP hD hS 0 3 rfl rfl (vi_c (by decide)) dL_scoreAlone_10 (fun H locs hP hD hS => ?_)
    replace hP : va_P D vwCl (HAppend.hAppend (α := va_W) (β := va_W) (γ := va_W) [(o, .inl (dA 3, 1, .inr (.inl (vp_updL g 0 r1))))] (CW dA u2)) H := hP
    replace hD : va_D A (HAppend.hAppend (α := va_W) (β := va_W) (γ := va_W) [(o, .inl (dA 3, 1, .inr (.inl (vp_updL g 0 r1))))] (CW dA u2)) := hD
    refine lv_goto (tgt := 18) hx hb dL_scoreAlone_11 (by decide) ?_
    refine lv_iconst (v := 0) hx hb dL_scoreAlone_18 (by decide) ?_
    refine W.widen (k := 3) (n := 18) (Nat.le_of_ble_eq_true rfl) (Nat.le_of_ble_eq_true rfl) ?_
    refine vx_ret ?_
    have hP9 := va_P.part (X := [(o, .inl (dA 3, 1, .inr (.inl (vp_updL g 0 r1))))]) (cx := [(o, .inl (dA 3, 1, .inr (.inl (vp_updL g 0 r1))))]) (pl := (CW dA u2)) hP [0] rfl
    have hD9 := va_D.part (X := [(o, .inl (dA 3, 1, .inr (.inl (vp_updL g 0 r1))))]) (cx := [(o, .inl (dA 3, 1, .inr (.inl (vp_updL g 0 r1))))]) (pl := (CW dA u2)) hD [0] (by decide) rfl
    exact W.iret (v := 0) hx hb hr (fun t ht hW => ⟨⟨0, (u2, vp_updL g 0 r1), rfl, ⟨hw3.1, hw3.2.1, (hw3.2.2.2.2)⟩, ⟨by rw [ht]; exact hP9, hD9⟩⟩, hS.F ht⟩) hS.2.2 dL_scoreAlone_19

set_option maxHeartbeats 4000000 in
set_option maxRecDepth 100000 in
theorem c_L_tagged (l : Launch) (hlt : l.stackTraces = false) (D : va_G) (dA : Nat → ClassId) (E : Nat) (c9 : CS) (tn o : Nat) (g : Nat → Int64) (p0 : Int32) (p1 : Int32) (p2 : Int32) (sz : Nat) (hI : CI E tn c9) (htn : tn ≤ 600) : vx_Met l yL_tagged (wq (.codeWith yL_tagged cL_tagged 6 (some .int) [(0, 12, 15, 21), (0, 12, 19, 13)])) { frames := 9, cells := 3, slots := 18, locals := 172 } (va_Pc [.ref (c9.xa 0), .int p0, .int p1, .int p2, .ref o] (PcB D dA E (HAppend.hAppend (α := va_W) (β := va_W) (γ := va_W) [(o, .inl (dA 3, 1, .inr (.inl g)))] (CW dA c9)) sz)) (va_Qi (fun (r : Int32) (u : CS × (Nat → Int64)) => CI E (tn + 1) u.1 ∧ u.1.xa = c9.xa ∧ ((u.1.vs = c9.vs) ∧ (u.1.nv = c9.nv) ∧ (u.1.VN = c9.VN))) (fun u t => va_P D vwCl ([(o, .inl (dA 3, 1, .inr (.inl u.2)))] ++ (CW dA u.1)) t.heap ∧ va_D (va_A (HAppend.hAppend (α := va_W) (β := va_W) (γ := va_W) [(o, .inl (dA 3, 1, .inr (.inl g)))] (CW dA c9)) sz) ([(o, .inl (dA 3, 1, .inr (.inl u.2)))] ++ (CW dA u.1))) (va_A (HAppend.hAppend (α := va_W) (β := va_W) (γ := va_W) [(o, .inl (dA 3, 1, .inr (.inl g)))] (CW dA c9)) sz)) (vx_X (fun (k : Nat) => False) (fun E9 k t => E9 = xN k) (va_A (HAppend.hAppend (α := va_W) (β := va_W) (γ := va_W) [(o, .inl (dA 3, 1, .inr (.inl g)))] (CW dA c9)) sz)) 3 18 (va_A (HAppend.hAppend (α := va_W) (β := va_W) (γ := va_W) [(o, .inl (dA 3, 1, .inr (.inl g)))] (CW dA c9)) sz) := by
  refine mh_of (y := yL_tagged) (av := [.ref (c9.xa 0), .int p0, .int p1, .int p2, .ref o]) (maxL := 6) (Qc := fun A => va_Qi (fun (r : Int32) (u : CS × (Nat → Int64)) => CI E (tn + 1) u.1 ∧ u.1.xa = c9.xa ∧ ((u.1.vs = c9.vs) ∧ (u.1.nv = c9.nv) ∧ (u.1.VN = c9.VN))) (fun u t => va_P D vwCl ([(o, .inl (dA 3, 1, .inr (.inl u.2)))] ++ (CW dA u.1)) t.heap ∧ va_D A ([(o, .inl (dA 3, 1, .inr (.inl u.2)))] ++ (CW dA u.1))) A) (XC := fun A => vx_X (fun (k : Nat) => False) (fun E9 k t => E9 = xN k) A) RL rfl (by decide) (Nat.le_of_ble_eq_true rfl) ?_
  intro p e s m args below meth c hae hx hb hr hts hown hlocks hml hnm htb hP hK A hAe hD hZ hS hA ls hl
  replace hl : lv_has ls 6 [(0, .ref (c9.xa 0)), (1, .int p0), (2, .int p1), (3, .int p2), (4, .ref o)] := hl
  refine lv_aload hx hb dL_tagged_0 (lv_at hl 4 rfl) ?_
  refine lv_iconst (v := 0) hx hb dL_tagged_2 (by decide) ?_
  refine lv_aload_n hx hb dL_tagged_3 rfl (lv_at hl 0 rfl) ?_
  refine lv_iload_n hx hb dL_tagged_4 rfl (lv_at hl 1 rfl) ?_
  refine lv_iload_n hx hb dL_tagged_5 rfl (lv_at hl 2 rfl) ?_
  refine lv_iload_n hx hb dL_tagged_6 rfl (lv_at hl 3 rfl) ?_
  replace hPc := va_P.part (X := [(o, .inl (dA 3, 1, .inr (.inl g)))]) (cx := []) (pl := (CW dA c9)) hP [] rfl
  replace hDc := va_D.part (X := [(o, .inl (dA 3, 1, .inr (.inl g)))]) (cx := []) (pl := (CW dA c9)) hD [] (by decide) rfl
  replace hFc := va_freeP (X := [(o, .inl (dA 3, 1, .inr (.inl g)))]) (cx := []) (pl := (CW dA c9)) hD hS hA [] rfl
  refine vx_calli (vx_runV (As := [.int p0, .int p1, .int p2]) (rest := [.int 0, .ref o]) ⟨hx, hb, hml, hown, hts⟩ (y8_tagged l hlt D dA E c9 tn p0 p1 p2 s.heap.size  hI htn) (cwV 3 hts (ga_V q787 q788 q785 q346 q786) rfl rfl rfl (by decide +kernel) ⟨(Nat.le_of_ble_eq_true rfl), (Nat.le_of_ble_eq_true rfl)⟩) ⟨pb_blind, va_recv hK hPc (ci := 11) (q0 := 0) rfl rfl, pb_pre hK hPc hDc hZ hS hFc _⟩ rfl rfl hl.1 rfl (lv_room (Nat.le_of_ble_eq_true rfl)) dL_tagged_7 ⟨(Nat.le_of_ble_eq_true rfl), (Nat.le_of_ble_eq_true rfl)⟩) hS (fun q _ h => hFc q h) hFc (fun q _ h => hFc q h) (fun E9 ce q9 k t H1 locs ht hvm hpx hBX hz1 hk1 hS hce hcv hcl => ?_) (fun r u t H1 locs ht hvm hw hB hz1 hk1 hS => ?_)
  · obtain ⟨k1, kx⟩ := k
    obtain ⟨hBE, hP1, hD1⟩ := hBX
    rw [ht] at hP1
    dsimp only at hpx hBE hP1 hD1
    obtain ⟨hP, hD⟩ := va_joinP (X := [(o, .inl (dA 3, 1, .inr (.inl g)))]) (cx := []) (wr := [(o, .inl (dA 3, 1, .inr (.inl g)))]) (rx := []) (pl := (CW dA c9)) (pl1 := (CW dA kx)) hP hD [] [0] rfl rfl (by decide) (by decide) hk1 hFc hP1 hD1
    generalize H1 = H at hP hS hce ⊢
    replace hP : va_P D vwCl (HAppend.hAppend (α := va_W) (β := va_W) (γ := va_W) [(o, .inl (dA 3, 1, .inr (.inl g)))] (CW dA kx)) H := hP
    replace hD : va_D A (HAppend.hAppend (α := va_W) (β := va_W) (γ := va_W) [(o, .inl (dA 3, 1, .inr (.inl g)))] (CW dA kx)) := hD
    obtain ⟨hcx, hxx, hkx, hrx⟩ := hpx
    refine vx_widen (k := 3) (n := 18) (Nat.le_of_ble_eq_true rfl) (Nat.le_of_ble_eq_true rfl) ?_
    rcases hkx with rfl | rfl
    · subst hBE
      refine vx_catch (own := RL) (name := "java/lang/IndexOutOfBoundsException") (E := "java/lang/IndexOutOfBoundsException") hown [] ⟨0, 12, 15, 21⟩ [⟨0, 12, 19, 13⟩] htb (fun _ h9 => absurd h9 List.not_mem_nil) rfl (by decide) (hts _ q702) (va_Nw.use rfl (znC_3 hZ.1)) hce hcv hcl ?_
      refine W.eq (g2 := F0 m 15 ls [.ref q9]) rfl ?_
      refine lv_astore (lv' := [(5, .ref q9), (0, .ref (c9.xa 0)), (1, .int p0), (2, .int p1), (3, .int p2), (4, .ref o)]) hx hb dL_tagged_15 hl (by decide) rfl (fun ls hl => ?_)
      refine lv_iconst (v := 1) hx hb dL_tagged_17 (by decide) ?_
      refine W.widen (k := 3) (n := 18) (Nat.le_of_ble_eq_true rfl) (Nat.le_of_ble_eq_true rfl) ?_
      refine vx_ret ?_
      have hP9 := va_P.part (X := [(o, .inl (dA 3, 1, .inr (.inl g)))]) (cx := [(o, .inl (dA 3, 1, .inr (.inl g)))]) (pl := (CW dA kx)) hP [0] rfl
      have hD9 := va_D.part (X := [(o, .inl (dA 3, 1, .inr (.inl g)))]) (cx := [(o, .inl (dA 3, 1, .inr (.inl g)))]) (pl := (CW dA kx)) hD [0] (by decide) rfl
      exact W.iret (v := 1) hx hb hr (fun t ht hW => ⟨⟨1, (kx, g), rfl, ⟨hcx, hxx, (hrx.2)⟩, ⟨by rw [ht]; exact hP9, hD9⟩⟩, hS.F ht⟩) hS.2.2 dL_tagged_18
    · subst hBE
      refine vx_catch (own := RL) (name := "java/lang/IllegalArgumentException") (E := "java/lang/IllegalArgumentException") hown [⟨0, 12, 15, 21⟩] ⟨0, 12, 19, 13⟩ [] htb (List.forall_mem_cons.mpr ⟨Or.inr ⟨by decide, "java/lang/IndexOutOfBoundsException", hts _ q702, (znN_8 hZ.1)⟩, (fun _ h9 => absurd h9 List.not_mem_nil)⟩) rfl (by decide) (hts _ q697) (va_Nw.use rfl (znC_0 hZ.1)) hce hcv hcl ?_
      refine W.eq (g2 := F0 m 19 ls [.ref q9]) rfl ?_
      refine lv_astore (lv' := [(5, .ref q9), (0, .ref (c9.xa 0)), (1, .int p0), (2, .int p1), (3, .int p2), (4, .ref o)]) hx hb dL_tagged_19 hl (by decide) rfl (fun ls hl => ?_)
      refine lv_iconst (v := 2) hx hb dL_tagged_21 (by decide) ?_
      refine W.widen (k := 3) (n := 18) (Nat.le_of_ble_eq_true rfl) (Nat.le_of_ble_eq_true rfl) ?_
      refine vx_ret ?_
      have hP9 := va_P.part (X := [(o, .inl (dA 3, 1, .inr (.inl g)))]) (cx := [(o, .inl (dA 3, 1, .inr (.inl g)))]) (pl := (CW dA kx)) hP [0] rfl
      have hD9 := va_D.part (X := [(o, .inl (dA 3, 1, .inr (.inl g)))]) (cx := [(o, .inl (dA 3, 1, .inr (.inl g)))]) (pl := (CW dA kx)) hD [0] (by decide) rfl
      exact W.iret (v := 2) hx hb hr (fun t ht hW => ⟨⟨2, (kx, g), rfl, ⟨hcx, hxx, (hrx.2)⟩, ⟨by rw [ht]; exact hP9, hD9⟩⟩, hS.F ht⟩) hS.2.2 dL_tagged_22
  · refine W.widen (k := 3) (n := 18) (Nat.le_of_ble_eq_true rfl) (Nat.le_of_ble_eq_true rfl) ?_
    obtain ⟨r1, rfl⟩ : ∃ z, z = r := ⟨_, rfl⟩
    obtain ⟨u2, rfl⟩ : ∃ z, z = u := ⟨_, rfl⟩
    have hw3 := hw
    clear hw
    obtain ⟨hP1, hD1⟩ := hB
    rw [ht] at hP1
    obtain ⟨hP, hD⟩ := va_joinP (X := [(o, .inl (dA 3, 1, .inr (.inl g)))]) (cx := []) (wr := [(o, .inl (dA 3, 1, .inr (.inl g)))]) (rx := []) (pl := (CW dA c9)) (pl1 := (CW dA u2)) hP hD [] [0] rfl rfl (by decide) (by decide) hk1 hFc hP1 hD1
    generalize H1 = H at hP hS ⊢
    replace hP : va_P D vwCl (HAppend.hAppend (α := va_W) (β := va_W) (γ := va_W) [(o, .inl (dA 3, 1, .inr (.inl g)))] (CW dA u2)) H := hP
    replace hD : va_D A (HAppend.hAppend (α := va_W) (β := va_W) (γ := va_W) [(o, .inl (dA 3, 1, .inr (.inl g)))] (CW dA u2)) := hD
    refine lv_i2l (v := r1.toInt64) hx hb dL_tagged_10 rfl ?_
    refine va_last hx hb hK hP hD hS 0 3 rfl rfl (vi_c (by decide)) dL_tagged_11 (fun H locs hP hD hS => ?_)
    replace hP : va_P D vwCl (HAppend.hAppend (α := va_W) (β := va_W) (γ := va_W) [(o, .inl (dA 3, 1, .inr (.inl (vp_updL g 0 r1.toInt64))))] (CW dA u2)) H := hP
    replace hD : va_D A (HAppend.hAppend (α := va_W) (β := va_W) (γ := va_W) [(o, .inl (dA 3, 1, .inr (.inl (vp_updL g 0 r1.toInt64))))] (CW dA u2)) := hD
    refine lv_goto (tgt := 23) hx hb dL_tagged_12 (by decide) ?_
    refine lv_iconst (v := 0) hx hb dL_tagged_23 (by decide) ?_
    refine W.widen (k := 3) (n := 18) (Nat.le_of_ble_eq_true rfl) (Nat.le_of_ble_eq_true rfl) ?_
    refine vx_ret ?_
    have hP9 := va_P.part (X := [(o, .inl (dA 3, 1, .inr (.inl (vp_updL g 0 r1.toInt64))))]) (cx := [(o, .inl (dA 3, 1, .inr (.inl (vp_updL g 0 r1.toInt64))))]) (pl := (CW dA u2)) hP [0] rfl
    have hD9 := va_D.part (X := [(o, .inl (dA 3, 1, .inr (.inl (vp_updL g 0 r1.toInt64))))]) (cx := [(o, .inl (dA 3, 1, .inr (.inl (vp_updL g 0 r1.toInt64))))]) (pl := (CW dA u2)) hD [0] (by decide) rfl
    exact W.iret (v := 0) hx hb hr (fun t ht hW => ⟨⟨0, (u2, vp_updL g 0 r1.toInt64), rfl, ⟨hw3.1, hw3.2.1, (hw3.2.2.2.2)⟩, ⟨by rw [ht]; exact hP9, hD9⟩⟩, hS.F ht⟩) hS.2.2 dL_tagged_24

set_option maxHeartbeats 4000000 in
set_option maxRecDepth 100000 in
theorem c_L_firstTagged (l : Launch) (hlt : l.stackTraces = false) (D : va_G) (dA : Nat → ClassId) (E : Nat) (c9 : CS) (tn o : Nat) (g : Nat → Int64) (p0 : Int32) (p1 : Int32) (p2 : Int32) (sz : Nat) (hI : CI E tn c9) (htn : tn ≤ 600) : vx_Met l yL_firstTagged (wq (.codeWith yL_firstTagged cL_firstTagged 6 (some .int) [(0, 12, 15, 21), (0, 12, 19, 13), (0, 12, 23, 80)])) { frames := 9, cells := 4, slots := 24, locals := 171 } (va_Pc [.ref (c9.xa 0), .int p0, .int p1, .int p2, .ref o] (PcB D dA E (HAppend.hAppend (α := va_W) (β := va_W) (γ := va_W) [(o, .inl (dA 3, 1, .inr (.inl g)))] (CW dA c9)) sz)) (va_Qi (fun (r : Int32) (u : CS × (Nat → Int64)) => CI E (tn + 1) u.1 ∧ u.1.xa = c9.xa ∧ ((u.1.vs = c9.vs) ∧ (u.1.nv = c9.nv) ∧ (u.1.VN = c9.VN))) (fun u t => va_P D vwCl ([(o, .inl (dA 3, 1, .inr (.inl u.2)))] ++ (CW dA u.1)) t.heap ∧ va_D (va_A (HAppend.hAppend (α := va_W) (β := va_W) (γ := va_W) [(o, .inl (dA 3, 1, .inr (.inl g)))] (CW dA c9)) sz) ([(o, .inl (dA 3, 1, .inr (.inl u.2)))] ++ (CW dA u.1))) (va_A (HAppend.hAppend (α := va_W) (β := va_W) (γ := va_W) [(o, .inl (dA 3, 1, .inr (.inl g)))] (CW dA c9)) sz)) (vx_X (fun (k : Nat) => False) (fun E9 k t => E9 = xN k) (va_A (HAppend.hAppend (α := va_W) (β := va_W) (γ := va_W) [(o, .inl (dA 3, 1, .inr (.inl g)))] (CW dA c9)) sz)) 4 24 (va_A (HAppend.hAppend (α := va_W) (β := va_W) (γ := va_W) [(o, .inl (dA 3, 1, .inr (.inl g)))] (CW dA c9)) sz) := by
  refine mh_of (y := yL_firstTagged) (av := [.ref (c9.xa 0), .int p0, .int p1, .int p2, .ref o]) (maxL := 6) (Qc := fun A => va_Qi (fun (r : Int32) (u : CS × (Nat → Int64)) => CI E (tn + 1) u.1 ∧ u.1.xa = c9.xa ∧ ((u.1.vs = c9.vs) ∧ (u.1.nv = c9.nv) ∧ (u.1.VN = c9.VN))) (fun u t => va_P D vwCl ([(o, .inl (dA 3, 1, .inr (.inl u.2)))] ++ (CW dA u.1)) t.heap ∧ va_D A ([(o, .inl (dA 3, 1, .inr (.inl u.2)))] ++ (CW dA u.1))) A) (XC := fun A => vx_X (fun (k : Nat) => False) (fun E9 k t => E9 = xN k) A) RL rfl (by decide) (Nat.le_of_ble_eq_true rfl) ?_
  intro p e s m args below meth c hae hx hb hr hts hown hlocks hml hnm htb hP hK A hAe hD hZ hS hA ls hl
  replace hl : lv_has ls 6 [(0, .ref (c9.xa 0)), (1, .int p0), (2, .int p1), (3, .int p2), (4, .ref o)] := hl
  refine lv_aload hx hb dL_firstTagged_0 (lv_at hl 4 rfl) ?_
  refine lv_iconst (v := 0) hx hb dL_firstTagged_2 (by decide) ?_
  refine lv_aload_n hx hb dL_firstTagged_3 rfl (lv_at hl 0 rfl) ?_
  refine lv_iload_n hx hb dL_firstTagged_4 rfl (lv_at hl 1 rfl) ?_
  refine lv_iload_n hx hb dL_firstTagged_5 rfl (lv_at hl 2 rfl) ?_
  refine lv_iload_n hx hb dL_firstTagged_6 rfl (lv_at hl 3 rfl) ?_
  replace hPc := va_P.part (X := [(o, .inl (dA 3, 1, .inr (.inl g)))]) (cx := []) (pl := (CW dA c9)) hP [] rfl
  replace hDc := va_D.part (X := [(o, .inl (dA 3, 1, .inr (.inl g)))]) (cx := []) (pl := (CW dA c9)) hD [] (by decide) rfl
  replace hFc := va_freeP (X := [(o, .inl (dA 3, 1, .inr (.inl g)))]) (cx := []) (pl := (CW dA c9)) hD hS hA [] rfl
  refine vx_calli (vx_runV (As := [.int p0, .int p1, .int p2]) (rest := [.int 0, .ref o]) ⟨hx, hb, hml, hown, hts⟩ (y8_firstTagged l hlt D dA E c9 tn p0 p1 p2 s.heap.size  hI htn) (cwV 3 hts (ga_V q791 q792 q789 q346 q790) rfl rfl rfl (by decide +kernel) ⟨(Nat.le_of_ble_eq_true rfl), (Nat.le_of_ble_eq_true rfl)⟩) ⟨pb_blind, va_recv hK hPc (ci := 11) (q0 := 0) rfl rfl, pb_pre hK hPc hDc hZ hS hFc _⟩ rfl rfl hl.1 rfl (lv_room (Nat.le_of_ble_eq_true rfl)) dL_firstTagged_7 ⟨(Nat.le_of_ble_eq_true rfl), (Nat.le_of_ble_eq_true rfl)⟩) hS (fun q _ h => hFc q h) hFc (fun q _ h => hFc q h) (fun E9 ce q9 k t H1 locs ht hvm hpx hBX hz1 hk1 hS hce hcv hcl => ?_) (fun r u t H1 locs ht hvm hw hB hz1 hk1 hS => ?_)
  · obtain ⟨k1, kx⟩ := k
    obtain ⟨hBE, hP1, hD1⟩ := hBX
    rw [ht] at hP1
    dsimp only at hpx hBE hP1 hD1
    obtain ⟨hP, hD⟩ := va_joinP (X := [(o, .inl (dA 3, 1, .inr (.inl g)))]) (cx := []) (wr := [(o, .inl (dA 3, 1, .inr (.inl g)))]) (rx := []) (pl := (CW dA c9)) (pl1 := (CW dA kx)) hP hD [] [0] rfl rfl (by decide) (by decide) hk1 hFc hP1 hD1
    generalize H1 = H at hP hS hce ⊢
    replace hP : va_P D vwCl (HAppend.hAppend (α := va_W) (β := va_W) (γ := va_W) [(o, .inl (dA 3, 1, .inr (.inl g)))] (CW dA kx)) H := hP
    replace hD : va_D A (HAppend.hAppend (α := va_W) (β := va_W) (γ := va_W) [(o, .inl (dA 3, 1, .inr (.inl g)))] (CW dA kx)) := hD
    obtain ⟨hcx, hxx, hkx, hrx⟩ := hpx
    refine vx_widen (k := 4) (n := 24) (Nat.le_of_ble_eq_true rfl) (Nat.le_of_ble_eq_true rfl) ?_
    rcases hkx with rfl | rfl | rfl
    · subst hBE
      refine vx_catch (own := RL) (name := "java/lang/IndexOutOfBoundsException") (E := "java/lang/IndexOutOfBoundsException") hown [] ⟨0, 12, 15, 21⟩ [⟨0, 12, 19, 13⟩, ⟨0, 12, 23, 80⟩] htb (fun _ h9 => absurd h9 List.not_mem_nil) rfl (by decide) (hts _ q702) (va_Nw.use rfl (znC_3 hZ.1)) hce hcv hcl ?_
      refine W.eq (g2 := F0 m 15 ls [.ref q9]) rfl ?_
      refine lv_astore (lv' := [(5, .ref q9), (0, .ref (c9.xa 0)), (1, .int p0), (2, .int p1), (3, .int p2), (4, .ref o)]) hx hb dL_firstTagged_15 hl (by decide) rfl (fun ls hl => ?_)
      refine lv_iconst (v := 1) hx hb dL_firstTagged_17 (by decide) ?_
      refine W.widen (k := 4) (n := 24) (Nat.le_of_ble_eq_true rfl) (Nat.le_of_ble_eq_true rfl) ?_
      refine vx_ret ?_
      have hP9 := va_P.part (X := [(o, .inl (dA 3, 1, .inr (.inl g)))]) (cx := [(o, .inl (dA 3, 1, .inr (.inl g)))]) (pl := (CW dA kx)) hP [0] rfl
      have hD9 := va_D.part (X := [(o, .inl (dA 3, 1, .inr (.inl g)))]) (cx := [(o, .inl (dA 3, 1, .inr (.inl g)))]) (pl := (CW dA kx)) hD [0] (by decide) rfl
      exact W.iret (v := 1) hx hb hr (fun t ht hW => ⟨⟨1, (kx, g), rfl, ⟨hcx, hxx, (hrx.2)⟩, ⟨by rw [ht]; exact hP9, hD9⟩⟩, hS.F ht⟩) hS.2.2 dL_firstTagged_18
    · subst hBE
      refine vx_catch (own := RL) (name := "java/lang/IllegalArgumentException") (E := "java/lang/IllegalArgumentException") hown [⟨0, 12, 15, 21⟩] ⟨0, 12, 19, 13⟩ [⟨0, 12, 23, 80⟩] htb (List.forall_mem_cons.mpr ⟨Or.inr ⟨by decide, "java/lang/IndexOutOfBoundsException", hts _ q702, (znN_8 hZ.1)⟩, (fun _ h9 => absurd h9 List.not_mem_nil)⟩) rfl (by decide) (hts _ q697) (va_Nw.use rfl (znC_0 hZ.1)) hce hcv hcl ?_
      refine W.eq (g2 := F0 m 19 ls [.ref q9]) rfl ?_
      refine lv_astore (lv' := [(5, .ref q9), (0, .ref (c9.xa 0)), (1, .int p0), (2, .int p1), (3, .int p2), (4, .ref o)]) hx hb dL_firstTagged_19 hl (by decide) rfl (fun ls hl => ?_)
      refine lv_iconst (v := 2) hx hb dL_firstTagged_21 (by decide) ?_
      refine W.widen (k := 4) (n := 24) (Nat.le_of_ble_eq_true rfl) (Nat.le_of_ble_eq_true rfl) ?_
      refine vx_ret ?_
      have hP9 := va_P.part (X := [(o, .inl (dA 3, 1, .inr (.inl g)))]) (cx := [(o, .inl (dA 3, 1, .inr (.inl g)))]) (pl := (CW dA kx)) hP [0] rfl
      have hD9 := va_D.part (X := [(o, .inl (dA 3, 1, .inr (.inl g)))]) (cx := [(o, .inl (dA 3, 1, .inr (.inl g)))]) (pl := (CW dA kx)) hD [0] (by decide) rfl
      exact W.iret (v := 2) hx hb hr (fun t ht hW => ⟨⟨2, (kx, g), rfl, ⟨hcx, hxx, (hrx.2)⟩, ⟨by rw [ht]; exact hP9, hD9⟩⟩, hS.F ht⟩) hS.2.2 dL_firstTagged_22
    · subst hBE
      refine vx_catch (own := RL) (name := "java/util/NoSuchElementException") (E := "java/util/NoSuchElementException") hown [⟨0, 12, 15, 21⟩, ⟨0, 12, 19, 13⟩] ⟨0, 12, 23, 80⟩ [] htb (List.forall_mem_cons.mpr ⟨Or.inr ⟨by decide, "java/lang/IndexOutOfBoundsException", hts _ q702, (znN_10 hZ.1)⟩, (List.forall_mem_cons.mpr ⟨Or.inr ⟨by decide, "java/lang/IllegalArgumentException", hts _ q697, (znN_2 hZ.1)⟩, (fun _ h9 => absurd h9 List.not_mem_nil)⟩)⟩) rfl (by decide) (hts _ q776) (va_Nw.use rfl (znC_4 hZ.1)) hce hcv hcl ?_
      refine W.eq (g2 := F0 m 23 ls [.ref q9]) rfl ?_
      refine lv_astore (lv' := [(5, .ref q9), (0, .ref (c9.xa 0)), (1, .int p0), (2, .int p1), (3, .int p2), (4, .ref o)]) hx hb dL_firstTagged_23 hl (by decide) rfl (fun ls hl => ?_)
      refine lv_iconst (v := 3) hx hb dL_firstTagged_25 (by decide) ?_
      refine W.widen (k := 4) (n := 24) (Nat.le_of_ble_eq_true rfl) (Nat.le_of_ble_eq_true rfl) ?_
      refine vx_ret ?_
      have hP9 := va_P.part (X := [(o, .inl (dA 3, 1, .inr (.inl g)))]) (cx := [(o, .inl (dA 3, 1, .inr (.inl g)))]) (pl := (CW dA kx)) hP [0] rfl
      have hD9 := va_D.part (X := [(o, .inl (dA 3, 1, .inr (.inl g)))]) (cx := [(o, .inl (dA 3, 1, .inr (.inl g)))]) (pl := (CW dA kx)) hD [0] (by decide) rfl
      exact W.iret (v := 3) hx hb hr (fun t ht hW => ⟨⟨3, (kx, g), rfl, ⟨hcx, hxx, (hrx.2)⟩, ⟨by rw [ht]; exact hP9, hD9⟩⟩, hS.F ht⟩) hS.2.2 dL_firstTagged_26
  · refine W.widen (k := 4) (n := 24) (Nat.le_of_ble_eq_true rfl) (Nat.le_of_ble_eq_true rfl) ?_
    obtain ⟨r1, rfl⟩ : ∃ z, z = r := ⟨_, rfl⟩
    obtain ⟨u2, rfl⟩ : ∃ z, z = u := ⟨_, rfl⟩
    have hw3 := hw
    clear hw
    obtain ⟨hP1, hD1⟩ := hB
    rw [ht] at hP1
    obtain ⟨hP, hD⟩ := va_joinP (X := [(o, .inl (dA 3, 1, .inr (.inl g)))]) (cx := []) (wr := [(o, .inl (dA 3, 1, .inr (.inl g)))]) (rx := []) (pl := (CW dA c9)) (pl1 := (CW dA u2)) hP hD [] [0] rfl rfl (by decide) (by decide) hk1 hFc hP1 hD1
    generalize H1 = H at hP hS ⊢
    replace hP : va_P D vwCl (HAppend.hAppend (α := va_W) (β := va_W) (γ := va_W) [(o, .inl (dA 3, 1, .inr (.inl g)))] (CW dA u2)) H := hP
    replace hD : va_D A (HAppend.hAppend (α := va_W) (β := va_W) (γ := va_W) [(o, .inl (dA 3, 1, .inr (.inl g)))] (CW dA u2)) := hD
    refine lv_i2l (v := r1.toInt64) hx hb dL_firstTagged_10 rfl ?_
    refine va_last hx hb hK hP hD hS 0 3 rfl rfl (vi_c (by decide)) dL_firstTagged_11 (fun H locs hP hD hS => ?_)
    replace hP : va_P D vwCl (HAppend.hAppend (α := va_W) (β := va_W) (γ := va_W) [(o, .inl (dA 3, 1, .inr (.inl (vp_updL g 0 r1.toInt64))))] (CW dA u2)) H := hP
    replace hD : va_D A (HAppend.hAppend (α := va_W) (β := va_W) (γ := va_W) [(o, .inl (dA 3, 1, .inr (.inl (vp_updL g 0 r1.toInt64))))] (CW dA u2)) := hD
    refine lv_goto (tgt := 27) hx hb dL_firstTagged_12 (by decide) ?_
    refine lv_iconst (v := 0) hx hb dL_firstTagged_27 (by decide) ?_
    refine W.widen (k := 4) (n := 24) (Nat.le_of_ble_eq_true rfl) (Nat.le_of_ble_eq_true rfl) ?_
    refine vx_ret ?_
    have hP9 := va_P.part (X := [(o, .inl (dA 3, 1, .inr (.inl (vp_updL g 0 r1.toInt64))))]) (cx := [(o, .inl (dA 3, 1, .inr (.inl (vp_updL g 0 r1.toInt64))))]) (pl := (CW dA u2)) hP [0] rfl
    have hD9 := va_D.part (X := [(o, .inl (dA 3, 1, .inr (.inl (vp_updL g 0 r1.toInt64))))]) (cx := [(o, .inl (dA 3, 1, .inr (.inl (vp_updL g 0 r1.toInt64))))]) (pl := (CW dA u2)) hD [0] (by decide) rfl
    exact W.iret (v := 0) hx hb hr (fun t ht hW => ⟨⟨0, (u2, vp_updL g 0 r1.toInt64), rfl, ⟨hw3.1, hw3.2.1, (hw3.2.2.2.2)⟩, ⟨by rw [ht]; exact hP9, hD9⟩⟩, hS.F ht⟩) hS.2.2 dL_firstTagged_28

set_option maxHeartbeats 4000000 in
set_option maxRecDepth 100000 in
theorem c_L_wholes (l : Launch) (hlt : l.stackTraces = false) (D : va_G) (dA : Nat → ClassId) (E : Nat) (c9 : CS) (tn o : Nat) (g : Nat → Int64) (p0 : Int32) (p1 : Int32) (sz : Nat) (hI : CI E tn c9) (htn : tn ≤ 600) : vx_Met l yL_wholes (wq (.codeWith yL_wholes cL_wholes 5 (some .int) [(0, 10, 13, 21)])) { frames := 9, cells := 2, slots := 12, locals := 172 } (va_Pc [.ref (c9.xa 0), .int p0, .int p1, .ref o] (PcB D dA E (HAppend.hAppend (α := va_W) (β := va_W) (γ := va_W) [(o, .inl (dA 3, 1, .inr (.inl g)))] (CW dA c9)) sz)) (va_Qi (fun (r : Int32) (u : CS × (Nat → Int64)) => CI E (tn + 1) u.1 ∧ u.1.xa = c9.xa ∧ ((u.1.vs = c9.vs) ∧ (u.1.nv = c9.nv) ∧ (u.1.VN = c9.VN))) (fun u t => va_P D vwCl ([(o, .inl (dA 3, 1, .inr (.inl u.2)))] ++ (CW dA u.1)) t.heap ∧ va_D (va_A (HAppend.hAppend (α := va_W) (β := va_W) (γ := va_W) [(o, .inl (dA 3, 1, .inr (.inl g)))] (CW dA c9)) sz) ([(o, .inl (dA 3, 1, .inr (.inl u.2)))] ++ (CW dA u.1))) (va_A (HAppend.hAppend (α := va_W) (β := va_W) (γ := va_W) [(o, .inl (dA 3, 1, .inr (.inl g)))] (CW dA c9)) sz)) (vx_X (fun (k : Nat) => False) (fun E9 k t => E9 = xN k) (va_A (HAppend.hAppend (α := va_W) (β := va_W) (γ := va_W) [(o, .inl (dA 3, 1, .inr (.inl g)))] (CW dA c9)) sz)) 2 12 (va_A (HAppend.hAppend (α := va_W) (β := va_W) (γ := va_W) [(o, .inl (dA 3, 1, .inr (.inl g)))] (CW dA c9)) sz) := by
  refine mh_of (y := yL_wholes) (av := [.ref (c9.xa 0), .int p0, .int p1, .ref o]) (maxL := 5) (Qc := fun A => va_Qi (fun (r : Int32) (u : CS × (Nat → Int64)) => CI E (tn + 1) u.1 ∧ u.1.xa = c9.xa ∧ ((u.1.vs = c9.vs) ∧ (u.1.nv = c9.nv) ∧ (u.1.VN = c9.VN))) (fun u t => va_P D vwCl ([(o, .inl (dA 3, 1, .inr (.inl u.2)))] ++ (CW dA u.1)) t.heap ∧ va_D A ([(o, .inl (dA 3, 1, .inr (.inl u.2)))] ++ (CW dA u.1))) A) (XC := fun A => vx_X (fun (k : Nat) => False) (fun E9 k t => E9 = xN k) A) RL rfl (by decide) (Nat.le_of_ble_eq_true rfl) ?_
  intro p e s m args below meth c hae hx hb hr hts hown hlocks hml hnm htb hP hK A hAe hD hZ hS hA ls hl
  replace hl : lv_has ls 5 [(0, .ref (c9.xa 0)), (1, .int p0), (2, .int p1), (3, .ref o)] := hl
  refine lv_aload_n hx hb dL_wholes_0 rfl (lv_at hl 3 rfl) ?_
  refine lv_iconst (v := 0) hx hb dL_wholes_1 (by decide) ?_
  refine lv_aload_n hx hb dL_wholes_2 rfl (lv_at hl 0 rfl) ?_
  refine lv_iload_n hx hb dL_wholes_3 rfl (lv_at hl 1 rfl) ?_
  refine lv_iload_n hx hb dL_wholes_4 rfl (lv_at hl 2 rfl) ?_
  replace hPc := va_P.part (X := [(o, .inl (dA 3, 1, .inr (.inl g)))]) (cx := []) (pl := (CW dA c9)) hP [] rfl
  replace hDc := va_D.part (X := [(o, .inl (dA 3, 1, .inr (.inl g)))]) (cx := []) (pl := (CW dA c9)) hD [] (by decide) rfl
  replace hFc := va_freeP (X := [(o, .inl (dA 3, 1, .inr (.inl g)))]) (cx := []) (pl := (CW dA c9)) hD hS hA [] rfl
  refine vx_calli (vx_runV (As := [.int p0, .int p1]) (rest := [.int 0, .ref o]) ⟨hx, hb, hml, hown, hts⟩ (y8_wholes l hlt D dA E c9 tn p0 p1 s.heap.size  hI htn) (cwV 2 hts (ga_V q795 q796 q793 q346 q794) rfl rfl rfl (by decide +kernel) ⟨(Nat.le_of_ble_eq_true rfl), (Nat.le_of_ble_eq_true rfl)⟩) ⟨pb_blind, va_recv hK hPc (ci := 11) (q0 := 0) rfl rfl, pb_pre hK hPc hDc hZ hS hFc _⟩ rfl rfl hl.1 rfl (lv_room (Nat.le_of_ble_eq_true rfl)) dL_wholes_5 ⟨(Nat.le_of_ble_eq_true rfl), (Nat.le_of_ble_eq_true rfl)⟩) hS (fun q _ h => hFc q h) hFc (fun q _ h => hFc q h) (fun E9 ce q9 k t H1 locs ht hvm hpx hBX hz1 hk1 hS hce hcv hcl => ?_) (fun r u t H1 locs ht hvm hw hB hz1 hk1 hS => ?_)
  · obtain ⟨k1, kx⟩ := k
    obtain ⟨hBE, hP1, hD1⟩ := hBX
    rw [ht] at hP1
    dsimp only at hpx hBE hP1 hD1
    obtain ⟨hP, hD⟩ := va_joinP (X := [(o, .inl (dA 3, 1, .inr (.inl g)))]) (cx := []) (wr := [(o, .inl (dA 3, 1, .inr (.inl g)))]) (rx := []) (pl := (CW dA c9)) (pl1 := (CW dA kx)) hP hD [] [0] rfl rfl (by decide) (by decide) hk1 hFc hP1 hD1
    generalize H1 = H at hP hS hce ⊢
    replace hP : va_P D vwCl (HAppend.hAppend (α := va_W) (β := va_W) (γ := va_W) [(o, .inl (dA 3, 1, .inr (.inl g)))] (CW dA kx)) H := hP
    replace hD : va_D A (HAppend.hAppend (α := va_W) (β := va_W) (γ := va_W) [(o, .inl (dA 3, 1, .inr (.inl g)))] (CW dA kx)) := hD
    obtain ⟨hcx, hxx, hkx, hrx⟩ := hpx
    refine vx_widen (k := 2) (n := 12) (Nat.le_of_ble_eq_true rfl) (Nat.le_of_ble_eq_true rfl) ?_
    subst hkx
    subst hBE
    refine vx_catch (own := RL) (name := "java/lang/IndexOutOfBoundsException") (E := "java/lang/IndexOutOfBoundsException") hown [] ⟨0, 10, 13, 21⟩ [] htb (fun _ h9 => absurd h9 List.not_mem_nil) rfl (by decide) (hts _ q702) (va_Nw.use rfl (znC_3 hZ.1)) hce hcv hcl ?_
    refine W.eq (g2 := F0 m 13 ls [.ref q9]) rfl ?_
    refine lv_astore (lv' := [(4, .ref q9), (0, .ref (c9.xa 0)), (1, .int p0), (2, .int p1), (3, .ref o)]) hx hb dL_wholes_13 hl (by decide) rfl (fun ls hl => ?_)
    refine lv_iconst (v := 1) hx hb dL_wholes_15 (by decide) ?_
    refine W.widen (k := 2) (n := 12) (Nat.le_of_ble_eq_true rfl) (Nat.le_of_ble_eq_true rfl) ?_
    refine vx_ret ?_
    have hP9 := va_P.part (X := [(o, .inl (dA 3, 1, .inr (.inl g)))]) (cx := [(o, .inl (dA 3, 1, .inr (.inl g)))]) (pl := (CW dA kx)) hP [0] rfl
    have hD9 := va_D.part (X := [(o, .inl (dA 3, 1, .inr (.inl g)))]) (cx := [(o, .inl (dA 3, 1, .inr (.inl g)))]) (pl := (CW dA kx)) hD [0] (by decide) rfl
    exact W.iret (v := 1) hx hb hr (fun t ht hW => ⟨⟨1, (kx, g), rfl, ⟨hcx, hxx, (hrx.2)⟩, ⟨by rw [ht]; exact hP9, hD9⟩⟩, hS.F ht⟩) hS.2.2 dL_wholes_16
  · refine W.widen (k := 2) (n := 12) (Nat.le_of_ble_eq_true rfl) (Nat.le_of_ble_eq_true rfl) ?_
    obtain ⟨r1, rfl⟩ : ∃ z, z = r := ⟨_, rfl⟩
    obtain ⟨u2, rfl⟩ : ∃ z, z = u := ⟨_, rfl⟩
    have hw3 := hw
    clear hw
    obtain ⟨hP1, hD1⟩ := hB
    rw [ht] at hP1
    obtain ⟨hP, hD⟩ := va_joinP (X := [(o, .inl (dA 3, 1, .inr (.inl g)))]) (cx := []) (wr := [(o, .inl (dA 3, 1, .inr (.inl g)))]) (rx := []) (pl := (CW dA c9)) (pl1 := (CW dA u2)) hP hD [] [0] rfl rfl (by decide) (by decide) hk1 hFc hP1 hD1
    generalize H1 = H at hP hS ⊢
    replace hP : va_P D vwCl (HAppend.hAppend (α := va_W) (β := va_W) (γ := va_W) [(o, .inl (dA 3, 1, .inr (.inl g)))] (CW dA u2)) H := hP
    replace hD : va_D A (HAppend.hAppend (α := va_W) (β := va_W) (γ := va_W) [(o, .inl (dA 3, 1, .inr (.inl g)))] (CW dA u2)) := hD
    refine lv_i2l (v := r1.toInt64) hx hb dL_wholes_8 rfl ?_
    refine va_last hx hb hK hP hD hS 0 3 rfl rfl (vi_c (by decide)) dL_wholes_9 (fun H locs hP hD hS => ?_)
    replace hP : va_P D vwCl (HAppend.hAppend (α := va_W) (β := va_W) (γ := va_W) [(o, .inl (dA 3, 1, .inr (.inl (vp_updL g 0 r1.toInt64))))] (CW dA u2)) H := hP
    replace hD : va_D A (HAppend.hAppend (α := va_W) (β := va_W) (γ := va_W) [(o, .inl (dA 3, 1, .inr (.inl (vp_updL g 0 r1.toInt64))))] (CW dA u2)) := hD
    refine lv_goto (tgt := 17) hx hb dL_wholes_10 (by decide) ?_
    refine lv_iconst (v := 0) hx hb dL_wholes_17 (by decide) ?_
    refine W.widen (k := 2) (n := 12) (Nat.le_of_ble_eq_true rfl) (Nat.le_of_ble_eq_true rfl) ?_
    refine vx_ret ?_
    have hP9 := va_P.part (X := [(o, .inl (dA 3, 1, .inr (.inl (vp_updL g 0 r1.toInt64))))]) (cx := [(o, .inl (dA 3, 1, .inr (.inl (vp_updL g 0 r1.toInt64))))]) (pl := (CW dA u2)) hP [0] rfl
    have hD9 := va_D.part (X := [(o, .inl (dA 3, 1, .inr (.inl (vp_updL g 0 r1.toInt64))))]) (cx := [(o, .inl (dA 3, 1, .inr (.inl (vp_updL g 0 r1.toInt64))))]) (pl := (CW dA u2)) hD [0] (by decide) rfl
    exact W.iret (v := 0) hx hb hr (fun t ht hW => ⟨⟨0, (u2, vp_updL g 0 r1.toInt64), rfl, ⟨hw3.1, hw3.2.1, (hw3.2.2.2.2)⟩, ⟨by rw [ht]; exact hP9, hD9⟩⟩, hS.F ht⟩) hS.2.2 dL_wholes_18

set_option maxHeartbeats 4000000 in
set_option maxRecDepth 100000 in
theorem c_L_wholeScore (l : Launch) (hlt : l.stackTraces = false) (D : va_G) (dA : Nat → ClassId) (E : Nat) (c9 : CS) (tn o : Nat) (g : Nat → Int64) (p0 : Int32) (p1 : Int32) (p2 : Int32) (sz : Nat) (hI : CI E tn c9) (htn : tn ≤ 600) : vx_Met l yL_wholeScore (wq (.codeWith yL_wholeScore cL_wholeScore 6 (some .int) [(0, 11, 14, 21), (0, 11, 18, 80)])) { frames := 9, cells := 4, slots := 24, locals := 171 } (va_Pc [.ref (c9.xa 0), .int p0, .int p1, .int p2, .ref o] (PcB D dA E (HAppend.hAppend (α := va_W) (β := va_W) (γ := va_W) [(o, .inl (dA 3, 1, .inr (.inl g)))] (CW dA c9)) sz)) (va_Qi (fun (r : Int32) (u : CS × (Nat → Int64)) => CI E (tn + 1) u.1 ∧ u.1.xa = c9.xa ∧ ((u.1.vs = c9.vs) ∧ (u.1.nv = c9.nv) ∧ (u.1.VN = c9.VN))) (fun u t => va_P D vwCl ([(o, .inl (dA 3, 1, .inr (.inl u.2)))] ++ (CW dA u.1)) t.heap ∧ va_D (va_A (HAppend.hAppend (α := va_W) (β := va_W) (γ := va_W) [(o, .inl (dA 3, 1, .inr (.inl g)))] (CW dA c9)) sz) ([(o, .inl (dA 3, 1, .inr (.inl u.2)))] ++ (CW dA u.1))) (va_A (HAppend.hAppend (α := va_W) (β := va_W) (γ := va_W) [(o, .inl (dA 3, 1, .inr (.inl g)))] (CW dA c9)) sz)) (vx_X (fun (k : Nat) => False) (fun E9 k t => E9 = xN k) (va_A (HAppend.hAppend (α := va_W) (β := va_W) (γ := va_W) [(o, .inl (dA 3, 1, .inr (.inl g)))] (CW dA c9)) sz)) 4 24 (va_A (HAppend.hAppend (α := va_W) (β := va_W) (γ := va_W) [(o, .inl (dA 3, 1, .inr (.inl g)))] (CW dA c9)) sz) := by
  refine mh_of (y := yL_wholeScore) (av := [.ref (c9.xa 0), .int p0, .int p1, .int p2, .ref o]) (maxL := 6) (Qc := fun A => va_Qi (fun (r : Int32) (u : CS × (Nat → Int64)) => CI E (tn + 1) u.1 ∧ u.1.xa = c9.xa ∧ ((u.1.vs = c9.vs) ∧ (u.1.nv = c9.nv) ∧ (u.1.VN = c9.VN))) (fun u t => va_P D vwCl ([(o, .inl (dA 3, 1, .inr (.inl u.2)))] ++ (CW dA u.1)) t.heap ∧ va_D A ([(o, .inl (dA 3, 1, .inr (.inl u.2)))] ++ (CW dA u.1))) A) (XC := fun A => vx_X (fun (k : Nat) => False) (fun E9 k t => E9 = xN k) A) RL rfl (by decide) (Nat.le_of_ble_eq_true rfl) ?_
  intro p e s m args below meth c hae hx hb hr hts hown hlocks hml hnm htb hP hK A hAe hD hZ hS hA ls hl
  replace hl : lv_has ls 6 [(0, .ref (c9.xa 0)), (1, .int p0), (2, .int p1), (3, .int p2), (4, .ref o)] := hl
  refine lv_aload hx hb dL_wholeScore_0 (lv_at hl 4 rfl) ?_
  refine lv_iconst (v := 0) hx hb dL_wholeScore_2 (by decide) ?_
  refine lv_aload_n hx hb dL_wholeScore_3 rfl (lv_at hl 0 rfl) ?_
  refine lv_iload_n hx hb dL_wholeScore_4 rfl (lv_at hl 1 rfl) ?_
  refine lv_iload_n hx hb dL_wholeScore_5 rfl (lv_at hl 2 rfl) ?_
  refine lv_iload_n hx hb dL_wholeScore_6 rfl (lv_at hl 3 rfl) ?_
  replace hPc := va_P.part (X := [(o, .inl (dA 3, 1, .inr (.inl g)))]) (cx := []) (pl := (CW dA c9)) hP [] rfl
  replace hDc := va_D.part (X := [(o, .inl (dA 3, 1, .inr (.inl g)))]) (cx := []) (pl := (CW dA c9)) hD [] (by decide) rfl
  replace hFc := va_freeP (X := [(o, .inl (dA 3, 1, .inr (.inl g)))]) (cx := []) (pl := (CW dA c9)) hD hS hA [] rfl
  refine vx_calll (vx_runV (As := [.int p0, .int p1, .int p2]) (rest := [.int 0, .ref o]) ⟨hx, hb, hml, hown, hts⟩ (y8_wholeScore l hlt D dA E c9 tn p0 p1 p2 s.heap.size  hI htn) (cwV 3 hts (ga_V q799 q800 q797 q346 q798) rfl rfl rfl (by decide +kernel) ⟨(Nat.le_of_ble_eq_true rfl), (Nat.le_of_ble_eq_true rfl)⟩) ⟨pb_blind, va_recv hK hPc (ci := 11) (q0 := 0) rfl rfl, pb_pre hK hPc hDc hZ hS hFc _⟩ rfl rfl hl.1 rfl (lv_room (Nat.le_of_ble_eq_true rfl)) dL_wholeScore_7 ⟨(Nat.le_of_ble_eq_true rfl), (Nat.le_of_ble_eq_true rfl)⟩) hS (fun q _ h => hFc q h) hFc (fun q _ h => hFc q h) (fun E9 ce q9 k t H1 locs ht hvm hpx hBX hz1 hk1 hS hce hcv hcl => ?_) (fun r u t H1 locs ht hvm hw hB hz1 hk1 hS => ?_)
  · obtain ⟨k1, kx⟩ := k
    obtain ⟨hBE, hP1, hD1⟩ := hBX
    rw [ht] at hP1
    dsimp only at hpx hBE hP1 hD1
    obtain ⟨hP, hD⟩ := va_joinP (X := [(o, .inl (dA 3, 1, .inr (.inl g)))]) (cx := []) (wr := [(o, .inl (dA 3, 1, .inr (.inl g)))]) (rx := []) (pl := (CW dA c9)) (pl1 := (CW dA kx)) hP hD [] [0] rfl rfl (by decide) (by decide) hk1 hFc hP1 hD1
    generalize H1 = H at hP hS hce ⊢
    replace hP : va_P D vwCl (HAppend.hAppend (α := va_W) (β := va_W) (γ := va_W) [(o, .inl (dA 3, 1, .inr (.inl g)))] (CW dA kx)) H := hP
    replace hD : va_D A (HAppend.hAppend (α := va_W) (β := va_W) (γ := va_W) [(o, .inl (dA 3, 1, .inr (.inl g)))] (CW dA kx)) := hD
    obtain ⟨hcx, hxx, hkx, hrx⟩ := hpx
    refine vx_widen (k := 4) (n := 24) (Nat.le_of_ble_eq_true rfl) (Nat.le_of_ble_eq_true rfl) ?_
    rcases hkx with rfl | rfl
    · subst hBE
      refine vx_catch (own := RL) (name := "java/lang/IndexOutOfBoundsException") (E := "java/lang/IndexOutOfBoundsException") hown [] ⟨0, 11, 14, 21⟩ [⟨0, 11, 18, 80⟩] htb (fun _ h9 => absurd h9 List.not_mem_nil) rfl (by decide) (hts _ q702) (va_Nw.use rfl (znC_3 hZ.1)) hce hcv hcl ?_
      refine W.eq (g2 := F0 m 14 ls [.ref q9]) rfl ?_
      refine lv_astore (lv' := [(5, .ref q9), (0, .ref (c9.xa 0)), (1, .int p0), (2, .int p1), (3, .int p2), (4, .ref o)]) hx hb dL_wholeScore_14 hl (by decide) rfl (fun ls hl => ?_)
      refine lv_iconst (v := 1) hx hb dL_wholeScore_16 (by decide) ?_
      refine W.widen (k := 4) (n := 24) (Nat.le_of_ble_eq_true rfl) (Nat.le_of_ble_eq_true rfl) ?_
      refine vx_ret ?_
      have hP9 := va_P.part (X := [(o, .inl (dA 3, 1, .inr (.inl g)))]) (cx := [(o, .inl (dA 3, 1, .inr (.inl g)))]) (pl := (CW dA kx)) hP [0] rfl
      have hD9 := va_D.part (X := [(o, .inl (dA 3, 1, .inr (.inl g)))]) (cx := [(o, .inl (dA 3, 1, .inr (.inl g)))]) (pl := (CW dA kx)) hD [0] (by decide) rfl
      exact W.iret (v := 1) hx hb hr (fun t ht hW => ⟨⟨1, (kx, g), rfl, ⟨hcx, hxx, (hrx.2)⟩, ⟨by rw [ht]; exact hP9, hD9⟩⟩, hS.F ht⟩) hS.2.2 dL_wholeScore_17
    · subst hBE
      refine vx_catch (own := RL) (name := "java/util/NoSuchElementException") (E := "java/util/NoSuchElementException") hown [⟨0, 11, 14, 21⟩] ⟨0, 11, 18, 80⟩ [] htb (List.forall_mem_cons.mpr ⟨Or.inr ⟨by decide, "java/lang/IndexOutOfBoundsException", hts _ q702, (znN_10 hZ.1)⟩, (fun _ h9 => absurd h9 List.not_mem_nil)⟩) rfl (by decide) (hts _ q776) (va_Nw.use rfl (znC_4 hZ.1)) hce hcv hcl ?_
      refine W.eq (g2 := F0 m 18 ls [.ref q9]) rfl ?_
      refine lv_astore (lv' := [(5, .ref q9), (0, .ref (c9.xa 0)), (1, .int p0), (2, .int p1), (3, .int p2), (4, .ref o)]) hx hb dL_wholeScore_18 hl (by decide) rfl (fun ls hl => ?_)
      refine lv_iconst (v := 2) hx hb dL_wholeScore_20 (by decide) ?_
      refine W.widen (k := 4) (n := 24) (Nat.le_of_ble_eq_true rfl) (Nat.le_of_ble_eq_true rfl) ?_
      refine vx_ret ?_
      have hP9 := va_P.part (X := [(o, .inl (dA 3, 1, .inr (.inl g)))]) (cx := [(o, .inl (dA 3, 1, .inr (.inl g)))]) (pl := (CW dA kx)) hP [0] rfl
      have hD9 := va_D.part (X := [(o, .inl (dA 3, 1, .inr (.inl g)))]) (cx := [(o, .inl (dA 3, 1, .inr (.inl g)))]) (pl := (CW dA kx)) hD [0] (by decide) rfl
      exact W.iret (v := 2) hx hb hr (fun t ht hW => ⟨⟨2, (kx, g), rfl, ⟨hcx, hxx, (hrx.2)⟩, ⟨by rw [ht]; exact hP9, hD9⟩⟩, hS.F ht⟩) hS.2.2 dL_wholeScore_21
  · refine W.widen (k := 4) (n := 24) (Nat.le_of_ble_eq_true rfl) (Nat.le_of_ble_eq_true rfl) ?_
    obtain ⟨r1, rfl⟩ : ∃ z, z = r := ⟨_, rfl⟩
    obtain ⟨u2, rfl⟩ : ∃ z, z = u := ⟨_, rfl⟩
    have hw3 := hw
    clear hw
    obtain ⟨hP1, hD1⟩ := hB
    rw [ht] at hP1
    obtain ⟨hP, hD⟩ := va_joinP (X := [(o, .inl (dA 3, 1, .inr (.inl g)))]) (cx := []) (wr := [(o, .inl (dA 3, 1, .inr (.inl g)))]) (rx := []) (pl := (CW dA c9)) (pl1 := (CW dA u2)) hP hD [] [0] rfl rfl (by decide) (by decide) hk1 hFc hP1 hD1
    generalize H1 = H at hP hS ⊢
    replace hP : va_P D vwCl (HAppend.hAppend (α := va_W) (β := va_W) (γ := va_W) [(o, .inl (dA 3, 1, .inr (.inl g)))] (CW dA u2)) H := hP
    replace hD : va_D A (HAppend.hAppend (α := va_W) (β := va_W) (γ := va_W) [(o, .inl (dA 3, 1, .inr (.inl g)))] (CW dA u2)) := hD
    refine va_last hx hb hK hP hD hS 0 3 rfl rfl (vi_c (by decide)) dL_wholeScore_10 (fun H locs hP hD hS => ?_)
    replace hP : va_P D vwCl (HAppend.hAppend (α := va_W) (β := va_W) (γ := va_W) [(o, .inl (dA 3, 1, .inr (.inl (vp_updL g 0 r1))))] (CW dA u2)) H := hP
    replace hD : va_D A (HAppend.hAppend (α := va_W) (β := va_W) (γ := va_W) [(o, .inl (dA 3, 1, .inr (.inl (vp_updL g 0 r1))))] (CW dA u2)) := hD
    refine lv_goto (tgt := 22) hx hb dL_wholeScore_11 (by decide) ?_
    refine lv_iconst (v := 0) hx hb dL_wholeScore_22 (by decide) ?_
    refine W.widen (k := 4) (n := 24) (Nat.le_of_ble_eq_true rfl) (Nat.le_of_ble_eq_true rfl) ?_
    refine vx_ret ?_
    have hP9 := va_P.part (X := [(o, .inl (dA 3, 1, .inr (.inl (vp_updL g 0 r1))))]) (cx := [(o, .inl (dA 3, 1, .inr (.inl (vp_updL g 0 r1))))]) (pl := (CW dA u2)) hP [0] rfl
    have hD9 := va_D.part (X := [(o, .inl (dA 3, 1, .inr (.inl (vp_updL g 0 r1))))]) (cx := [(o, .inl (dA 3, 1, .inr (.inl (vp_updL g 0 r1))))]) (pl := (CW dA u2)) hD [0] (by decide) rfl
    exact W.iret (v := 0) hx hb hr (fun t ht hW => ⟨⟨0, (u2, vp_updL g 0 r1), rfl, ⟨hw3.1, hw3.2.1, (hw3.2.2.2.2)⟩, ⟨by rw [ht]; exact hP9, hD9⟩⟩, hS.F ht⟩) hS.2.2 dL_wholeScore_23

set_option maxHeartbeats 4000000 in
set_option maxRecDepth 100000 in
theorem c_L_marked (l : Launch) (hlt : l.stackTraces = false) (D : va_G) (dA : Nat → ClassId) (E : Nat) (c9 : CS) (tn o : Nat) (g : Nat → Int64) (p0 : Int32) (p1 : Int32) (p2 : Int32) (sz : Nat) (hI : CI E tn c9) (htn : tn ≤ 600) : vx_Met l yL_marked (wq (.codeWith yL_marked cL_marked 6 (some .int) [(0, 12, 15, 21), (0, 12, 19, 80)])) { frames := 9, cells := 3, slots := 18, locals := 148 } (va_Pc [.ref (c9.xa 0), .int p0, .int p1, .int p2, .ref o] (PcB D dA E (HAppend.hAppend (α := va_W) (β := va_W) (γ := va_W) [(o, .inl (dA 3, 1, .inr (.inl g)))] (CW dA c9)) sz)) (va_Qi (fun (r : Int32) (u : CS × (Nat → Int64)) => CI E (tn + 1) u.1 ∧ u.1.xa = c9.xa ∧ ((u.1.vs = c9.vs) ∧ (u.1.nv = c9.nv) ∧ (u.1.VN = c9.VN))) (fun u t => va_P D vwCl ([(o, .inl (dA 3, 1, .inr (.inl u.2)))] ++ (CW dA u.1)) t.heap ∧ va_D (va_A (HAppend.hAppend (α := va_W) (β := va_W) (γ := va_W) [(o, .inl (dA 3, 1, .inr (.inl g)))] (CW dA c9)) sz) ([(o, .inl (dA 3, 1, .inr (.inl u.2)))] ++ (CW dA u.1))) (va_A (HAppend.hAppend (α := va_W) (β := va_W) (γ := va_W) [(o, .inl (dA 3, 1, .inr (.inl g)))] (CW dA c9)) sz)) (vx_X (fun (k : Nat) => False) (fun E9 k t => E9 = xN k) (va_A (HAppend.hAppend (α := va_W) (β := va_W) (γ := va_W) [(o, .inl (dA 3, 1, .inr (.inl g)))] (CW dA c9)) sz)) 3 18 (va_A (HAppend.hAppend (α := va_W) (β := va_W) (γ := va_W) [(o, .inl (dA 3, 1, .inr (.inl g)))] (CW dA c9)) sz) := by
  refine mh_of (y := yL_marked) (av := [.ref (c9.xa 0), .int p0, .int p1, .int p2, .ref o]) (maxL := 6) (Qc := fun A => va_Qi (fun (r : Int32) (u : CS × (Nat → Int64)) => CI E (tn + 1) u.1 ∧ u.1.xa = c9.xa ∧ ((u.1.vs = c9.vs) ∧ (u.1.nv = c9.nv) ∧ (u.1.VN = c9.VN))) (fun u t => va_P D vwCl ([(o, .inl (dA 3, 1, .inr (.inl u.2)))] ++ (CW dA u.1)) t.heap ∧ va_D A ([(o, .inl (dA 3, 1, .inr (.inl u.2)))] ++ (CW dA u.1))) A) (XC := fun A => vx_X (fun (k : Nat) => False) (fun E9 k t => E9 = xN k) A) RL rfl (by decide) (Nat.le_of_ble_eq_true rfl) ?_
  intro p e s m args below meth c hae hx hb hr hts hown hlocks hml hnm htb hP hK A hAe hD hZ hS hA ls hl
  replace hl : lv_has ls 6 [(0, .ref (c9.xa 0)), (1, .int p0), (2, .int p1), (3, .int p2), (4, .ref o)] := hl
  refine lv_aload hx hb dL_marked_0 (lv_at hl 4 rfl) ?_
  refine lv_iconst (v := 0) hx hb dL_marked_2 (by decide) ?_
  refine lv_aload_n hx hb dL_marked_3 rfl (lv_at hl 0 rfl) ?_
  refine lv_iload_n hx hb dL_marked_4 rfl (lv_at hl 1 rfl) ?_
  refine lv_iload_n hx hb dL_marked_5 rfl (lv_at hl 2 rfl) ?_
  refine lv_iload_n hx hb dL_marked_6 rfl (lv_at hl 3 rfl) ?_
  replace hPc := va_P.part (X := [(o, .inl (dA 3, 1, .inr (.inl g)))]) (cx := []) (pl := (CW dA c9)) hP [] rfl
  replace hDc := va_D.part (X := [(o, .inl (dA 3, 1, .inr (.inl g)))]) (cx := []) (pl := (CW dA c9)) hD [] (by decide) rfl
  replace hFc := va_freeP (X := [(o, .inl (dA 3, 1, .inr (.inl g)))]) (cx := []) (pl := (CW dA c9)) hD hS hA [] rfl
  refine vx_calli (vx_runV (As := [.int p0, .int p1, .int p2]) (rest := [.int 0, .ref o]) ⟨hx, hb, hml, hown, hts⟩ (y8_marked l hlt D dA E c9 tn p0 p1 p2 s.heap.size  hI htn) (cwV 3 hts (ga_V q803 q804 q801 q346 q802) rfl rfl rfl (by decide +kernel) ⟨(Nat.le_of_ble_eq_true rfl), (Nat.le_of_ble_eq_true rfl)⟩) ⟨pb_blind, va_recv hK hPc (ci := 11) (q0 := 0) rfl rfl, pb_pre hK hPc hDc hZ hS hFc _⟩ rfl rfl hl.1 rfl (lv_room (Nat.le_of_ble_eq_true rfl)) dL_marked_7 ⟨(Nat.le_of_ble_eq_true rfl), (Nat.le_of_ble_eq_true rfl)⟩) hS (fun q _ h => hFc q h) hFc (fun q _ h => hFc q h) (fun E9 ce q9 k t H1 locs ht hvm hpx hBX hz1 hk1 hS hce hcv hcl => ?_) (fun r u t H1 locs ht hvm hw hB hz1 hk1 hS => ?_)
  · obtain ⟨k1, kx⟩ := k
    obtain ⟨hBE, hP1, hD1⟩ := hBX
    rw [ht] at hP1
    dsimp only at hpx hBE hP1 hD1
    obtain ⟨hP, hD⟩ := va_joinP (X := [(o, .inl (dA 3, 1, .inr (.inl g)))]) (cx := []) (wr := [(o, .inl (dA 3, 1, .inr (.inl g)))]) (rx := []) (pl := (CW dA c9)) (pl1 := (CW dA kx)) hP hD [] [0] rfl rfl (by decide) (by decide) hk1 hFc hP1 hD1
    generalize H1 = H at hP hS hce ⊢
    replace hP : va_P D vwCl (HAppend.hAppend (α := va_W) (β := va_W) (γ := va_W) [(o, .inl (dA 3, 1, .inr (.inl g)))] (CW dA kx)) H := hP
    replace hD : va_D A (HAppend.hAppend (α := va_W) (β := va_W) (γ := va_W) [(o, .inl (dA 3, 1, .inr (.inl g)))] (CW dA kx)) := hD
    obtain ⟨hcx, hxx, hkx, hrx⟩ := hpx
    refine vx_widen (k := 3) (n := 18) (Nat.le_of_ble_eq_true rfl) (Nat.le_of_ble_eq_true rfl) ?_
    rcases hkx with rfl | rfl
    · subst hBE
      refine vx_catch (own := RL) (name := "java/lang/IndexOutOfBoundsException") (E := "java/lang/IndexOutOfBoundsException") hown [] ⟨0, 12, 15, 21⟩ [⟨0, 12, 19, 80⟩] htb (fun _ h9 => absurd h9 List.not_mem_nil) rfl (by decide) (hts _ q702) (va_Nw.use rfl (znC_3 hZ.1)) hce hcv hcl ?_
      refine W.eq (g2 := F0 m 15 ls [.ref q9]) rfl ?_
      refine lv_astore (lv' := [(5, .ref q9), (0, .ref (c9.xa 0)), (1, .int p0), (2, .int p1), (3, .int p2), (4, .ref o)]) hx hb dL_marked_15 hl (by decide) rfl (fun ls hl => ?_)
      refine lv_iconst (v := 1) hx hb dL_marked_17 (by decide) ?_
      refine W.widen (k := 3) (n := 18) (Nat.le_of_ble_eq_true rfl) (Nat.le_of_ble_eq_true rfl) ?_
      refine vx_ret ?_
      have hP9 := va_P.part (X := [(o, .inl (dA 3, 1, .inr (.inl g)))]) (cx := [(o, .inl (dA 3, 1, .inr (.inl g)))]) (pl := (CW dA kx)) hP [0] rfl
      have hD9 := va_D.part (X := [(o, .inl (dA 3, 1, .inr (.inl g)))]) (cx := [(o, .inl (dA 3, 1, .inr (.inl g)))]) (pl := (CW dA kx)) hD [0] (by decide) rfl
      exact W.iret (v := 1) hx hb hr (fun t ht hW => ⟨⟨1, (kx, g), rfl, ⟨hcx, hxx, (hrx.2)⟩, ⟨by rw [ht]; exact hP9, hD9⟩⟩, hS.F ht⟩) hS.2.2 dL_marked_18
    · subst hBE
      refine vx_catch (own := RL) (name := "java/util/NoSuchElementException") (E := "java/util/NoSuchElementException") hown [⟨0, 12, 15, 21⟩] ⟨0, 12, 19, 80⟩ [] htb (List.forall_mem_cons.mpr ⟨Or.inr ⟨by decide, "java/lang/IndexOutOfBoundsException", hts _ q702, (znN_10 hZ.1)⟩, (fun _ h9 => absurd h9 List.not_mem_nil)⟩) rfl (by decide) (hts _ q776) (va_Nw.use rfl (znC_4 hZ.1)) hce hcv hcl ?_
      refine W.eq (g2 := F0 m 19 ls [.ref q9]) rfl ?_
      refine lv_astore (lv' := [(5, .ref q9), (0, .ref (c9.xa 0)), (1, .int p0), (2, .int p1), (3, .int p2), (4, .ref o)]) hx hb dL_marked_19 hl (by decide) rfl (fun ls hl => ?_)
      refine lv_iconst (v := 2) hx hb dL_marked_21 (by decide) ?_
      refine W.widen (k := 3) (n := 18) (Nat.le_of_ble_eq_true rfl) (Nat.le_of_ble_eq_true rfl) ?_
      refine vx_ret ?_
      have hP9 := va_P.part (X := [(o, .inl (dA 3, 1, .inr (.inl g)))]) (cx := [(o, .inl (dA 3, 1, .inr (.inl g)))]) (pl := (CW dA kx)) hP [0] rfl
      have hD9 := va_D.part (X := [(o, .inl (dA 3, 1, .inr (.inl g)))]) (cx := [(o, .inl (dA 3, 1, .inr (.inl g)))]) (pl := (CW dA kx)) hD [0] (by decide) rfl
      exact W.iret (v := 2) hx hb hr (fun t ht hW => ⟨⟨2, (kx, g), rfl, ⟨hcx, hxx, (hrx.2)⟩, ⟨by rw [ht]; exact hP9, hD9⟩⟩, hS.F ht⟩) hS.2.2 dL_marked_22
  · refine W.widen (k := 3) (n := 18) (Nat.le_of_ble_eq_true rfl) (Nat.le_of_ble_eq_true rfl) ?_
    obtain ⟨r1, rfl⟩ : ∃ z, z = r := ⟨_, rfl⟩
    obtain ⟨u2, rfl⟩ : ∃ z, z = u := ⟨_, rfl⟩
    have hw3 := hw
    clear hw
    obtain ⟨hP1, hD1⟩ := hB
    rw [ht] at hP1
    obtain ⟨hP, hD⟩ := va_joinP (X := [(o, .inl (dA 3, 1, .inr (.inl g)))]) (cx := []) (wr := [(o, .inl (dA 3, 1, .inr (.inl g)))]) (rx := []) (pl := (CW dA c9)) (pl1 := (CW dA u2)) hP hD [] [0] rfl rfl (by decide) (by decide) hk1 hFc hP1 hD1
    generalize H1 = H at hP hS ⊢
    replace hP : va_P D vwCl (HAppend.hAppend (α := va_W) (β := va_W) (γ := va_W) [(o, .inl (dA 3, 1, .inr (.inl g)))] (CW dA u2)) H := hP
    replace hD : va_D A (HAppend.hAppend (α := va_W) (β := va_W) (γ := va_W) [(o, .inl (dA 3, 1, .inr (.inl g)))] (CW dA u2)) := hD
    refine lv_i2l (v := r1.toInt64) hx hb dL_marked_10 rfl ?_
    refine va_last hx hb hK hP hD hS 0 3 rfl rfl (vi_c (by decide)) dL_marked_11 (fun H locs hP hD hS => ?_)
    replace hP : va_P D vwCl (HAppend.hAppend (α := va_W) (β := va_W) (γ := va_W) [(o, .inl (dA 3, 1, .inr (.inl (vp_updL g 0 r1.toInt64))))] (CW dA u2)) H := hP
    replace hD : va_D A (HAppend.hAppend (α := va_W) (β := va_W) (γ := va_W) [(o, .inl (dA 3, 1, .inr (.inl (vp_updL g 0 r1.toInt64))))] (CW dA u2)) := hD
    refine lv_goto (tgt := 23) hx hb dL_marked_12 (by decide) ?_
    refine lv_iconst (v := 0) hx hb dL_marked_23 (by decide) ?_
    refine W.widen (k := 3) (n := 18) (Nat.le_of_ble_eq_true rfl) (Nat.le_of_ble_eq_true rfl) ?_
    refine vx_ret ?_
    have hP9 := va_P.part (X := [(o, .inl (dA 3, 1, .inr (.inl (vp_updL g 0 r1.toInt64))))]) (cx := [(o, .inl (dA 3, 1, .inr (.inl (vp_updL g 0 r1.toInt64))))]) (pl := (CW dA u2)) hP [0] rfl
    have hD9 := va_D.part (X := [(o, .inl (dA 3, 1, .inr (.inl (vp_updL g 0 r1.toInt64))))]) (cx := [(o, .inl (dA 3, 1, .inr (.inl (vp_updL g 0 r1.toInt64))))]) (pl := (CW dA u2)) hD [0] (by decide) rfl
    exact W.iret (v := 0) hx hb hr (fun t ht hW => ⟨⟨0, (u2, vp_updL g 0 r1.toInt64), rfl, ⟨hw3.1, hw3.2.1, (hw3.2.2.2.2)⟩, ⟨by rw [ht]; exact hP9, hD9⟩⟩, hS.F ht⟩) hS.2.2 dL_marked_24
