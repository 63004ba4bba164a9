set_option maxHeartbeats 4000000 in
set_option maxRecDepth 100000 in
/-- the law at wholeScore -/
theorem law_29 {p : Program} {e : Env} {s : State} {m : MethodId} {below : List Frame} {meth : Method} {c : Code} (l : Launch) (hlt : l.stackTraces = false) {bs L : Nat} {xs : Nat → Int32} (C0 : lw_At p s m meth c bs L xs) (hL6 : L = 6) (D : va_G) (dA : Nat → ClassId) (E : Nat) (A : Nat → Prop) (hAe : (fun q : Nat => s.heap.size ≤ q) = A) (a b : Nat → Nat) (o od : Nat) (hK : va_K D vwCl (TY dA) s) (hZ : ZZ dA E A s s.heap) (H : Heap) (locs : List Loc) (hP : va_P D vwCl [(a 0, .inr (11, [.ref (a 1), .ref (a 2), .ref (a 3), .ref (a 4), .ref (a 5), .ref (a 10), .ref (a 15), .ref (a 17), .null, .int 0, .int 0, .int 0])), (a 3, .inr (2, [.int 0, .ref E, .int 0])), (o, .inl (dA 3, 1, .inr (.inl (fun _ => 0)))), (b 0, .inr (12, [.int 0, .int 0, .ref (b 2), .ref (b 3), .ref (b 4), .int 0, .int 0, .int 0, .int 0, .ref (b 9), .int 0, .ref (b 11), .ref (b 12), .ref (b 13), .ref (b 14), .ref (b 15), .ref (b 16), .ref (b 17), .ref (b 18), .int 0, .ref (b 20), .int 0, .int 0, .int 0, .ref (b 24), .ref (b 25), .ref (b 26), .int 0, .int 0, .ref (b 29), .ref (b 30), .int 0, .ref (b 32), .ref (b 33), .ref (b 34), .ref (b 35), .ref (b 36), .ref (b 37), .int 0, .int 0, .ref (b 40), .ref (b 41), .ref (b 42), .ref (b 43), .ref (b 44), .int 0, .ref (b 46), .ref (b 47), .ref (b 48)]))] H) (hD : va_D A [(a 0, .inr (11, [.ref (a 1), .ref (a 2), .ref (a 3), .ref (a 4), .ref (a 5), .ref (a 10), .ref (a 15), .ref (a 17), .null, .int 0, .int 0, .int 0])), (a 3, .inr (2, [.int 0, .ref E, .int 0])), (o, .inl (dA 3, 1, .inr (.inl (fun _ => 0)))), (b 0, .inr (12, [.int 0, .int 0, .ref (b 2), .ref (b 3), .ref (b 4), .int 0, .int 0, .int 0, .int 0, .ref (b 9), .int 0, .ref (b 11), .ref (b 12), .ref (b 13), .ref (b 14), .ref (b 15), .ref (b 16), .ref (b 17), .ref (b 18), .int 0, .ref (b 20), .int 0, .int 0, .int 0, .ref (b 24), .ref (b 25), .ref (b 26), .int 0, .int 0, .ref (b 29), .ref (b 30), .int 0, .ref (b 32), .ref (b 33), .ref (b 34), .ref (b 35), .ref (b 36), .ref (b 37), .int 0, .int 0, .ref (b 40), .ref (b 41), .ref (b 42), .ref (b 43), .ref (b 44), .int 0, .ref (b 46), .ref (b 47), .ref (b 48)]))]) (hS : va_S A s.heap H locs) (ls : Array Slot) (hl : lv_has ls 9 [(5, .int 0), (4, .ref od), (3, .ref o), (2, .ref (b 0)), (1, .ref (a 0)), (0, .ref bs)]) : W p l e room_1 s m #[Value.ref bs] below meth c H locs 65 11778 (lw_Z below #[Value.ref bs] s) (F0 m 1864 ls []) := by
  subst hL6
  obtain ⟨hx, hb, hr, hml, hown, hts0, hX, hbl, hlocks, hgv⟩ := id C0
  have hts : ∀ w ∈ WA, w.before #[Value.ref bs] s = true := fun w h => hts0 w (WA_tbl h)
  have hA : ∀ q : Nat, s.heap.size ≤ q → A q := fun q h => by rw [← hAe]; exact h
  have hbA : ¬ A bs := by rw [← hAe]; exact Nat.not_le.mpr hbl
  refine lv_aload_n hx hb dL_law_1864 rfl (lv_at hl 4 rfl) ?_
  refine lv_aload_n hx hb dL_law_1865 rfl (lv_at hl 5 rfl) ?_
  refine lv_iload hx hb dL_law_1866 (lv_at hl 0 rfl) ?_
  refine lv_iconst (v := 1) hx hb dL_law_1868 (by decide) ?_
  refine lv_iadd hx hb dL_law_1869 ?_
  refine lv_topi (fun x1 ex1 => ?_)
  replace ex1 : x1 = 1 := ex1.trans (by decide)
  subst ex1
  refine va_sld hx hb hX hbl hbA hS (vi_c (by decide)) dL_law_1870 ?_
  refine lv_topi (fun x2 ex2 => ?_)
  refine lv_aload_n hx hb dL_law_1871 rfl (lv_at hl 5 rfl) ?_
  refine lv_iload hx hb dL_law_1872 (lv_at hl 0 rfl) ?_
  refine lv_iconst (v := 2) hx hb dL_law_1874 (by decide) ?_
  refine lv_iadd hx hb dL_law_1875 ?_
  refine lv_topi (fun x3 ex3 => ?_)
  replace ex3 : x3 = 2 := ex3.trans (by decide)
  subst ex3
  refine va_sld hx hb hX hbl hbA hS (vi_c (by decide)) dL_law_1876 ?_
  refine lv_topi (fun x4 ex4 => ?_)
  refine lv_aload_n hx hb dL_law_1877 rfl (lv_at hl 5 rfl) ?_
  refine lv_iload hx hb dL_law_1878 (lv_at hl 0 rfl) ?_
  refine lv_iconst (v := 3) hx hb dL_law_1880 (by decide) ?_
  refine lv_iadd hx hb dL_law_1881 ?_
  refine lv_topi (fun x5 ex5 => ?_)
  replace ex5 : x5 = 3 := ex5.trans (by decide)
  subst ex5
  refine va_sld hx hb hX hbl hbA hS (vi_c (by decide)) dL_law_1882 ?_
  refine lv_topi (fun x6 ex6 => ?_)
  refine lv_aload_n hx hb dL_law_1883 rfl (lv_at hl 2 rfl) ?_
  have hPc := hP.sub (ws' := [(a 0, .inr (11, [.ref (a 1), .ref (a 2), .ref (a 3), .ref (a 4), .ref (a 5), .ref (a 10), .ref (a 15), .ref (a 17), .null, .int 0, .int 0, .int 0])), (a 3, .inr (2, [.int 0, .ref E, .int 0])), (o, .inl (dA 3, 1, .inr (.inl (fun _ => 0))))]) [0, 1, 2] rfl
  have hDc := hD.sub (ws' := [(a 0, .inr (11, [.ref (a 1), .ref (a 2), .ref (a 3), .ref (a 4), .ref (a 5), .ref (a 10), .ref (a 15), .ref (a 17), .null, .int 0, .int 0, .int 0])), (a 3, .inr (2, [.int 0, .ref E, .int 0])), (o, .inl (dA 3, 1, .inr (.inl (fun _ => 0))))]) [0, 1, 2] (by decide) rfl
  have hFc := va_free (wc := [(a 0, .inr (11, [.ref (a 1), .ref (a 2), .ref (a 3), .ref (a 4), .ref (a 5), .ref (a 10), .ref (a 15), .ref (a 17), .null, .int 0, .int 0, .int 0])), (a 3, .inr (2, [.int 0, .ref E, .int 0])), (o, .inl (dA 3, 1, .inr (.inl (fun _ => 0))))]) hD hS hA [0, 1, 2] rfl
  refine vx_calli (vx_runSX (As := [.ref (a 0), .int x2, .int x4, .int x6, .ref o]) (rest := []) ⟨hx, hb, hml, hown, hts⟩ (c_L_wholeScore l hlt D dA E a o (fun _ => 0) x2 x4 x6 H.size ) (vx_cwSW 5 hts (ga_S q674 q675 q463 q673) rfl rfl rfl (by decide +kernel) ⟨(Nat.le_of_ble_eq_true rfl), (Nat.le_of_ble_eq_true rfl)⟩) ⟨pb_blind, pb_pre hK hPc hDc hZ hS hFc _⟩ rfl rfl hl.1 rfl (lv_room (Nat.le_of_ble_eq_true rfl)) dL_law_1884 ⟨(Nat.le_of_ble_eq_true rfl), (Nat.le_of_ble_eq_true rfl)⟩) hS (fun q _ h => hFc q h) hFc (fun q _ h => hFc q h) (fun E9 ce q9 k t H1 locs ht hvm hpx hBX hz1 hk1 hS hce hcv hcl => ?_) (fun r u t H1 locs ht hvm hw hB hz1 hk1 hS => ?_)
  · exact hpx.elim
  · refine W.widen (k := 66) (n := 11784) (Nat.le_of_ble_eq_true rfl) (Nat.le_of_ble_eq_true rfl) ?_
    obtain ⟨r7, rfl⟩ : ∃ z, z = r := ⟨_, rfl⟩
    obtain ⟨u8, rfl⟩ : ∃ z, z = u := ⟨_, rfl⟩
    have hw9 := hw
    clear hw
    obtain ⟨hP1, hD1⟩ := hB
    rw [ht] at hP1
    obtain ⟨hP, hD⟩ := va_join (wr := [(b 0, .inr (12, [.int 0, .int 0, .ref (b 2), .ref (b 3), .ref (b 4), .int 0, .int 0, .int 0, .int 0, .ref (b 9), .int 0, .ref (b 11), .ref (b 12), .ref (b 13), .ref (b 14), .ref (b 15), .ref (b 16), .ref (b 17), .ref (b 18), .int 0, .ref (b 20), .int 0, .int 0, .int 0, .ref (b 24), .ref (b 25), .ref (b 26), .int 0, .int 0, .ref (b 29), .ref (b 30), .int 0, .ref (b 32), .ref (b 33), .ref (b 34), .ref (b 35), .ref (b 36), .ref (b 37), .int 0, .int 0, .ref (b 40), .ref (b 41), .ref (b 42), .ref (b 43), .ref (b 44), .int 0, .ref (b 46), .ref (b 47), .ref (b 48)]))]) (w1 := [(o, .inl (dA 3, 1, .inr (.inl u8)))]) hP hD [0, 1, 2] [3] rfl rfl (by decide) (by decide) hk1 hFc hP1 hD1
    generalize H1 = H at hP hS ⊢
    have hP : va_P D vwCl [(b 0, .inr (12, [.int 0, .int 0, .ref (b 2), .ref (b 3), .ref (b 4), .int 0, .int 0, .int 0, .int 0, .ref (b 9), .int 0, .ref (b 11), .ref (b 12), .ref (b 13), .ref (b 14), .ref (b 15), .ref (b 16), .ref (b 17), .ref (b 18), .int 0, .ref (b 20), .int 0, .int 0, .int 0, .ref (b 24), .ref (b 25), .ref (b 26), .int 0, .int 0, .ref (b 29), .ref (b 30), .int 0, .ref (b 32), .ref (b 33), .ref (b 34), .ref (b 35), .ref (b 36), .ref (b 37), .int 0, .int 0, .ref (b 40), .ref (b 41), .ref (b 42), .ref (b 43), .ref (b 44), .int 0, .ref (b 46), .ref (b 47), .ref (b 48)])), (o, .inl (dA 3, 1, .inr (.inl u8)))] H := hP
    have hD : va_D A [(b 0, .inr (12, [.int 0, .int 0, .ref (b 2), .ref (b 3), .ref (b 4), .int 0, .int 0, .int 0, .int 0, .ref (b 9), .int 0, .ref (b 11), .ref (b 12), .ref (b 13), .ref (b 14), .ref (b 15), .ref (b 16), .ref (b 17), .ref (b 18), .int 0, .ref (b 20), .int 0, .int 0, .int 0, .ref (b 24), .ref (b 25), .ref (b 26), .int 0, .int 0, .ref (b 29), .ref (b 30), .int 0, .ref (b 32), .ref (b 33), .ref (b 34), .ref (b 35), .ref (b 36), .ref (b 37), .int 0, .int 0, .ref (b 40), .ref (b 41), .ref (b 42), .ref (b 43), .ref (b 44), .int 0, .ref (b 46), .ref (b 47), .ref (b 48)])), (o, .inl (dA 3, 1, .inr (.inl u8)))] := hD
    have hP := hP.sub (ws' := [(o, .inl (dA 3, 1, .inr (.inl u8))), (b 0, .inr (12, [.int 0, .int 0, .ref (b 2), .ref (b 3), .ref (b 4), .int 0, .int 0, .int 0, .int 0, .ref (b 9), .int 0, .ref (b 11), .ref (b 12), .ref (b 13), .ref (b 14), .ref (b 15), .ref (b 16), .ref (b 17), .ref (b 18), .int 0, .ref (b 20), .int 0, .int 0, .int 0, .ref (b 24), .ref (b 25), .ref (b 26), .int 0, .int 0, .ref (b 29), .ref (b 30), .int 0, .ref (b 32), .ref (b 33), .ref (b 34), .ref (b 35), .ref (b 36), .ref (b 37), .int 0, .int 0, .ref (b 40), .ref (b 41), .ref (b 42), .ref (b 43), .ref (b 44), .int 0, .ref (b 46), .ref (b 47), .ref (b 48)]))]) [1, 0] rfl
    have hD := hD.sub (ws' := [(o, .inl (dA 3, 1, .inr (.inl u8))), (b 0, .inr (12, [.int 0, .int 0, .ref (b 2), .ref (b 3), .ref (b 4), .int 0, .int 0, .int 0, .int 0, .ref (b 9), .int 0, .ref (b 11), .ref (b 12), .ref (b 13), .ref (b 14), .ref (b 15), .ref (b 16), .ref (b 17), .ref (b 18), .int 0, .ref (b 20), .int 0, .int 0, .int 0, .ref (b 24), .ref (b 25), .ref (b 26), .int 0, .int 0, .ref (b 29), .ref (b 30), .int 0, .ref (b 32), .ref (b 33), .ref (b 34), .ref (b 35), .ref (b 36), .ref (b 37), .int 0, .int 0, .ref (b 40), .ref (b 41), .ref (b 42), .ref (b 43), .ref (b 44), .int 0, .ref (b 46), .ref (b 47), .ref (b 48)]))]) [1, 0] (by decide) rfl
    have hk := hw9
    obtain rfl : r7 = 1 := hk
    refine lv_istore (lv' := [(6, .int 1), (5, .int 0), (4, .ref od), (3, .ref o), (2, .ref (b 0)), (1, .ref (a 0)), (0, .ref bs)]) hx hb dL_law_1887 hl (by decide) rfl (fun ls hl => ?_)
    refine lv_aload_n hx hb dL_law_1889 rfl (lv_at hl 4 rfl) ?_
    refine lv_aload_n hx hb dL_law_1890 rfl (lv_at hl 6 rfl) ?_
    refine lv_iload hx hb dL_law_1891 (lv_at hl 1 rfl) ?_
    refine lv_iconst (v := 1) hx hb dL_law_1893 (by decide) ?_
    refine lv_iadd hx hb dL_law_1894 ?_
    refine lv_topi (fun x10 ex10 => ?_)
    replace ex10 : x10 = 1 := ex10.trans (by decide)
    subst ex10
    refine va_sld hx hb hX hbl hbA hS (vi_c (by decide)) dL_law_1895 ?_
    refine lv_topi (fun x11 ex11 => ?_)
    obtain rfl : x2 = x11 := ex2.trans ex11.symm
    refine lv_aload_n hx hb dL_law_1896 rfl (lv_at hl 6 rfl) ?_
    refine lv_iload hx hb dL_law_1897 (lv_at hl 1 rfl) ?_
    refine lv_iconst (v := 2) hx hb dL_law_1899 (by decide) ?_
    refine lv_iadd hx hb dL_law_1900 ?_
    refine lv_topi (fun x12 ex12 => ?_)
    replace ex12 : x12 = 2 := ex12.trans (by decide)
    subst ex12
    refine va_sld hx hb hX hbl hbA hS (vi_c (by decide)) dL_law_1901 ?_
    refine lv_topi (fun x13 ex13 => ?_)
    obtain rfl : x4 = x13 := ex4.trans ex13.symm
    refine lv_aload_n hx hb dL_law_1902 rfl (lv_at hl 6 rfl) ?_
    refine lv_iload hx hb dL_law_1903 (lv_at hl 1 rfl) ?_
    refine lv_iconst (v := 3) hx hb dL_law_1905 (by decide) ?_
    refine lv_iadd hx hb dL_law_1906 ?_
    refine lv_topi (fun x14 ex14 => ?_)
    replace ex14 : x14 = 3 := ex14.trans (by decide)
    subst ex14
    refine va_sld hx hb hX hbl hbA hS (vi_c (by decide)) dL_law_1907 ?_
    refine lv_topi (fun x15 ex15 => ?_)
    obtain rfl : x6 = x15 := ex6.trans ex15.symm
    have hPc := hP.sub (ws' := [(b 0, .inr (12, [.int 0, .int 0, .ref (b 2), .ref (b 3), .ref (b 4), .int 0, .int 0, .int 0, .int 0, .ref (b 9), .int 0, .ref (b 11), .ref (b 12), .ref (b 13), .ref (b 14), .ref (b 15), .ref (b 16), .ref (b 17), .ref (b 18), .int 0, .ref (b 20), .int 0, .int 0, .int 0, .ref (b 24), .ref (b 25), .ref (b 26), .int 0, .int 0, .ref (b 29), .ref (b 30), .int 0, .ref (b 32), .ref (b 33), .ref (b 34), .ref (b 35), .ref (b 36), .ref (b 37), .int 0, .int 0, .ref (b 40), .ref (b 41), .ref (b 42), .ref (b 43), .ref (b 44), .int 0, .ref (b 46), .ref (b 47), .ref (b 48)]))]) [1] rfl
    have hDc := hD.sub (ws' := [(b 0, .inr (12, [.int 0, .int 0, .ref (b 2), .ref (b 3), .ref (b 4), .int 0, .int 0, .int 0, .int 0, .ref (b 9), .int 0, .ref (b 11), .ref (b 12), .ref (b 13), .ref (b 14), .ref (b 15), .ref (b 16), .ref (b 17), .ref (b 18), .int 0, .ref (b 20), .int 0, .int 0, .int 0, .ref (b 24), .ref (b 25), .ref (b 26), .int 0, .int 0, .ref (b 29), .ref (b 30), .int 0, .ref (b 32), .ref (b 33), .ref (b 34), .ref (b 35), .ref (b 36), .ref (b 37), .int 0, .int 0, .ref (b 40), .ref (b 41), .ref (b 42), .ref (b 43), .ref (b 44), .int 0, .ref (b 46), .ref (b 47), .ref (b 48)]))]) [1] (by decide) rfl
    have hFc := va_free (wc := [(b 0, .inr (12, [.int 0, .int 0, .ref (b 2), .ref (b 3), .ref (b 4), .int 0, .int 0, .int 0, .int 0, .ref (b 9), .int 0, .ref (b 11), .ref (b 12), .ref (b 13), .ref (b 14), .ref (b 15), .ref (b 16), .ref (b 17), .ref (b 18), .int 0, .ref (b 20), .int 0, .int 0, .int 0, .ref (b 24), .ref (b 25), .ref (b 26), .int 0, .int 0, .ref (b 29), .ref (b 30), .int 0, .ref (b 32), .ref (b 33), .ref (b 34), .ref (b 35), .ref (b 36), .ref (b 37), .int 0, .int 0, .ref (b 40), .ref (b 41), .ref (b 42), .ref (b 43), .ref (b 44), .int 0, .ref (b 46), .ref (b 47), .ref (b 48)]))]) hD hS hA [1] rfl
    refine va_calll (va_runV (As := [.int x2, .int x4, .int x6]) (rest := []) ⟨hx, hb, hml, hown, hts⟩ (c_M_wholeScore l D dA E b x2 x4 x6 H.size ) (cwV 3 hts (ga_V q678 q679 q676 q278 q677) rfl rfl rfl (by decide +kernel) ⟨(Nat.le_of_ble_eq_true rfl), (Nat.le_of_ble_eq_true rfl)⟩) ⟨pb_blind, va_recv hK hPc (ci := 12) (q0 := 0) rfl rfl, pb_pre hK hPc hDc hZ hS hFc _⟩ rfl rfl hl.1 rfl (lv_room (Nat.le_of_ble_eq_true rfl)) dL_law_1908 ⟨(Nat.le_of_ble_eq_true rfl), (Nat.le_of_ble_eq_true rfl)⟩) hS (fun q _ h => hFc q h) hFc (fun r u t H1 locs ht hvm hw hB hz1 hk1 hS => ?_)
    refine W.widen (k := 66) (n := 11784) (Nat.le_of_ble_eq_true rfl) (Nat.le_of_ble_eq_true rfl) ?_
    obtain ⟨r16, rfl⟩ : ∃ z, z = r := ⟨_, rfl⟩
    obtain ⟨u17, rfl⟩ : ∃ z, z = u := ⟨_, rfl⟩
    have hw18 := hw
    clear hw
    obtain ⟨hP1, hD1⟩ := hB
    rw [ht] at hP1
    obtain ⟨hP, hD⟩ := va_join (wr := [(o, .inl (dA 3, 1, .inr (.inl u8)))]) (w1 := [(b 0, .inr (12, .int u17.1 :: u17.2))]) hP hD [1] [0] rfl rfl (by decide) (by decide) hk1 hFc hP1 hD1
    generalize H1 = H at hP hS ⊢
    have hP : va_P D vwCl [(o, .inl (dA 3, 1, .inr (.inl u8))), (b 0, .inr (12, .int u17.1 :: u17.2))] H := hP
    have hD : va_D A [(o, .inl (dA 3, 1, .inr (.inl u8))), (b 0, .inr (12, .int u17.1 :: u17.2))] := hD
    have hP := hP.sub (ws' := [(b 0, .inr (12, .int u17.1 :: u17.2)), (o, .inl (dA 3, 1, .inr (.inl u8)))]) [1, 0] rfl
    have hD := hD.sub (ws' := [(b 0, .inr (12, .int u17.1 :: u17.2)), (o, .inl (dA 3, 1, .inr (.inl u8)))]) [1, 0] (by decide) rfl
    have hm : u17.1 = 1 := hw18
    rw [hm] at hP hD
    have hP : va_P D vwCl [(b 0, .inr (12, .int 1 :: u17.2)), (o, .inl (dA 3, 1, .inr (.inl u8)))] H := hP
    have hD : va_D A [(b 0, .inr (12, .int 1 :: u17.2)), (o, .inl (dA 3, 1, .inr (.inl u8)))] := hD
    refine lv_lstore (lv' := [(7, .long r16), (6, .int 1), (5, .int 0), (4, .ref od), (3, .ref o), (2, .ref (b 0)), (1, .ref (a 0)), (0, .ref bs)]) hx hb dL_law_1911 hl (by decide) rfl (fun ls hl => ?_)
    refine lv_aload_n hx hb dL_law_1913 rfl (lv_at hl 5 rfl) ?_
    have hPc := hP.sub (ws' := [(b 0, .inr (12, .int 1 :: u17.2))]) [0] rfl
    have hDc := hD.sub (ws' := [(b 0, .inr (12, .int 1 :: u17.2))]) [0] (by decide) rfl
    have hFc := va_free (wc := [(b 0, .inr (12, .int 1 :: u17.2))]) hD hS hA [0] rfl
    refine va_calli (va_runV (As := []) (rest := []) ⟨hx, hb, hml, hown, hts⟩ (c_M_thrown l D dA E (b 0) 1 u17.2 H.size ) (cwV 0 hts (ga_V q470 q471 q468 q278 q469) rfl rfl rfl (by decide +kernel) ⟨(Nat.le_of_ble_eq_true rfl), (Nat.le_of_ble_eq_true rfl)⟩) ⟨pb_blind, va_recv hK hPc (ci := 12) (q0 := 0) rfl rfl, pb_pre hK hPc hDc hZ hS hFc _⟩ rfl rfl hl.1 rfl (lv_room (Nat.le_of_ble_eq_true rfl)) dL_law_1914 ⟨(Nat.le_of_ble_eq_true rfl), (Nat.le_of_ble_eq_true rfl)⟩) hS (fun q _ h => hFc q h) hFc (fun r u t H1 locs ht hvm hw hB hz1 hk1 hS => ?_)
    refine W.widen (k := 66) (n := 11784) (Nat.le_of_ble_eq_true rfl) (Nat.le_of_ble_eq_true rfl) ?_
    obtain ⟨r19, rfl⟩ : ∃ z, z = r := ⟨_, rfl⟩
    obtain ⟨u20, rfl⟩ : ∃ z, z = u := ⟨_, rfl⟩
    have hw21 := hw
    clear hw
    obtain ⟨hP, hD⟩ := jn_drop (wr := [(o, .inl (dA 3, 1, .inr (.inl u8)))]) hP hD [0] [1] rfl rfl (by decide) (by decide) hk1 hFc
    generalize H1 = H at hP hS ⊢
    have hP : va_P D vwCl [(o, .inl (dA 3, 1, .inr (.inl u8)))] H := hP
    have hD : va_D A [(o, .inl (dA 3, 1, .inr (.inl u8)))] := hD
    obtain rfl : r19 = 1 := hw21
    refine lv_iload hx hb dL_law_1917 (lv_at hl 1 rfl) ?_
    refine lv_icmp_eq (tgt := 1924) hx hb dL_law_1919 (by decide) (fun _ => ?_) (fun c22 => absurd (by decide) c22)
    refine lv_iload hx hb dL_law_1924 (lv_at hl 1 rfl) ?_
    refine lv_if_ne (tgt := 1940) hx hb dL_law_1926 (by decide) (fun _ => ?_) (fun c23 => absurd c23 (by decide))
    refine lv_goto (tgt := 2346) hx hb dL_law_1940 (by decide) ?_
    exact law_tail l C0 rfl (by rw [hAe]; exact hS) (Nat.le_of_ble_eq_true rfl) (Nat.le_of_ble_eq_true rfl) ls (lv_sub hl [7, 2] rfl)

set_option maxHeartbeats 4000000 in
set_option maxRecDepth 100000 in
/-- the law at marked -/
theorem law_30 {p : Program} {e : Env} {s : State} {m : MethodId} {below : List Frame} {meth : Method} {c : Code} (l : Launch) (hlt : l.stackTraces = false) {bs L : Nat} {xs : Nat → Int32} (C0 : lw_At p s m meth c bs L xs) (hL6 : L = 6) (D : va_G) (dA : Nat → ClassId) (E : Nat) (A : Nat → Prop) (hAe : (fun q : Nat => s.heap.size ≤ q) = A) (a b : Nat → Nat) (o od : Nat) (hK : va_K D vwCl (TY dA) s) (hZ : ZZ dA E A s s.heap) (H : Heap) (locs : List Loc) (hP : va_P D vwCl [(a 0, .inr (11, [.ref (a 1), .ref (a 2), .ref (a 3), .ref (a 4), .ref (a 5), .ref (a 10), .ref (a 15), .ref (a 17), .null, .int 0, .int 0, .int 0])), (a 4, .inr (2, [.int 0, .ref E, .int 0])), (o, .inl (dA 3, 1, .inr (.inl (fun _ => 0)))), (b 0, .inr (12, [.int 0, .int 0, .ref (b 2), .ref (b 3), .ref (b 4), .int 0, .int 0, .int 0, .int 0, .ref (b 9), .int 0, .ref (b 11), .ref (b 12), .ref (b 13), .ref (b 14), .ref (b 15), .ref (b 16), .ref (b 17), .ref (b 18), .int 0, .ref (b 20), .int 0, .int 0, .int 0, .ref (b 24), .ref (b 25), .ref (b 26), .int 0, .int 0, .ref (b 29), .ref (b 30), .int 0, .ref (b 32), .ref (b 33), .ref (b 34), .ref (b 35), .ref (b 36), .ref (b 37), .int 0, .int 0, .ref (b 40), .ref (b 41), .ref (b 42), .ref (b 43), .ref (b 44), .int 0, .ref (b 46), .ref (b 47), .ref (b 48)])), (b 48, .inl (dA 2, 12, .inl (fun _ => 0)))] H) (hD : va_D A [(a 0, .inr (11, [.ref (a 1), .ref (a 2), .ref (a 3), .ref (a 4), .ref (a 5), .ref (a 10), .ref (a 15), .ref (a 17), .null, .int 0, .int 0, .int 0])), (a 4, .inr (2, [.int 0, .ref E, .int 0])), (o, .inl (dA 3, 1, .inr (.inl (fun _ => 0)))), (b 0, .inr (12, [.int 0, .int 0, .ref (b 2), .ref (b 3), .ref (b 4), .int 0, .int 0, .int 0, .int 0, .ref (b 9), .int 0, .ref (b 11), .ref (b 12), .ref (b 13), .ref (b 14), .ref (b 15), .ref (b 16), .ref (b 17), .ref (b 18), .int 0, .ref (b 20), .int 0, .int 0, .int 0, .ref (b 24), .ref (b 25), .ref (b 26), .int 0, .int 0, .ref (b 29), .ref (b 30), .int 0, .ref (b 32), .ref (b 33), .ref (b 34), .ref (b 35), .ref (b 36), .ref (b 37), .int 0, .int 0, .ref (b 40), .ref (b 41), .ref (b 42), .ref (b 43), .ref (b 44), .int 0, .ref (b 46), .ref (b 47), .ref (b 48)])), (b 48, .inl (dA 2, 12, .inl (fun _ => 0)))]) (hS : va_S A s.heap H locs) (ls : Array Slot) (hl : lv_has ls 9 [(5, .int 0), (4, .ref od), (3, .ref o), (2, .ref (b 0)), (1, .ref (a 0)), (0, .ref bs)]) : W p l e room_1 s m #[Value.ref bs] below meth c H locs 65 11778 (lw_Z below #[Value.ref bs] s) (F0 m 1943 ls []) := by
  subst hL6
  obtain ⟨hx, hb, hr, hml, hown, hts0, hX, hbl, hlocks, hgv⟩ := id C0
  have hts : ∀ w ∈ WA, w.before #[Value.ref bs] s = true := fun w h => hts0 w (WA_tbl h)
  have hA : ∀ q : Nat, s.heap.size ≤ q → A q := fun q h => by rw [← hAe]; exact h
  have hbA : ¬ A bs := by rw [← hAe]; exact Nat.not_le.mpr hbl
  refine lv_aload_n hx hb dL_law_1943 rfl (lv_at hl 4 rfl) ?_
  refine lv_aload_n hx hb dL_law_1944 rfl (lv_at hl 5 rfl) ?_
  refine lv_iload hx hb dL_law_1945 (lv_at hl 0 rfl) ?_
  refine lv_iconst (v := 1) hx hb dL_law_1947 (by decide) ?_
  refine lv_iadd hx hb dL_law_1948 ?_
  refine lv_topi (fun x1 ex1 => ?_)
  replace ex1 : x1 = 1 := ex1.trans (by decide)
  subst ex1
  refine va_sld hx hb hX hbl hbA hS (vi_c (by decide)) dL_law_1949 ?_
  refine lv_topi (fun x2 ex2 => ?_)
  refine lv_aload_n hx hb dL_law_1950 rfl (lv_at hl 5 rfl) ?_
  refine lv_iload hx hb dL_law_1951 (lv_at hl 0 rfl) ?_
  refine lv_iconst (v := 2) hx hb dL_law_1953 (by decide) ?_
  refine lv_iadd hx hb dL_law_1954 ?_
  refine lv_topi (fun x3 ex3 => ?_)
  replace ex3 : x3 = 2 := ex3.trans (by decide)
  subst ex3
  refine va_sld hx hb hX hbl hbA hS (vi_c (by decide)) dL_law_1955 ?_
  refine lv_topi (fun x4 ex4 => ?_)
  refine lv_aload_n hx hb dL_law_1956 rfl (lv_at hl 5 rfl) ?_
  refine lv_iload hx hb dL_law_1957 (lv_at hl 0 rfl) ?_
  refine lv_iconst (v := 3) hx hb dL_law_1959 (by decide) ?_
  refine lv_iadd hx hb dL_law_1960 ?_
  refine lv_topi (fun x5 ex5 => ?_)
  replace ex5 : x5 = 3 := ex5.trans (by decide)
  subst ex5
  refine va_sld hx hb hX hbl hbA hS (vi_c (by decide)) dL_law_1961 ?_
  refine lv_topi (fun x6 ex6 => ?_)
  refine lv_aload_n hx hb dL_law_1962 rfl (lv_at hl 2 rfl) ?_
  have hPc := hP.sub (ws' := [(a 0, .inr (11, [.ref (a 1), .ref (a 2), .ref (a 3), .ref (a 4), .ref (a 5), .ref (a 10), .ref (a 15), .ref (a 17), .null, .int 0, .int 0, .int 0])), (a 4, .inr (2, [.int 0, .ref E, .int 0])), (o, .inl (dA 3, 1, .inr (.inl (fun _ => 0))))]) [0, 1, 2] rfl
  have hDc := hD.sub (ws' := [(a 0, .inr (11, [.ref (a 1), .ref (a 2), .ref (a 3), .ref (a 4), .ref (a 5), .ref (a 10), .ref (a 15), .ref (a 17), .null, .int 0, .int 0, .int 0])), (a 4, .inr (2, [.int 0, .ref E, .int 0])), (o, .inl (dA 3, 1, .inr (.inl (fun _ => 0))))]) [0, 1, 2] (by decide) rfl
  have hFc := va_free (wc := [(a 0, .inr (11, [.ref (a 1), .ref (a 2), .ref (a 3), .ref (a 4), .ref (a 5), .ref (a 10), .ref (a 15), .ref (a 17), .null, .int 0, .int 0, .int 0])), (a 4, .inr (2, [.int 0, .ref E, .int 0])), (o, .inl (dA 3, 1, .inr (.inl (fun _ => 0))))]) hD hS hA [0, 1, 2] rfl
  refine vx_calli (vx_runSX (As := [.ref (a 0), .int x2, .int x4, .int x6, .ref o]) (rest := []) ⟨hx, hb, hml, hown, hts⟩ (c_L_marked l hlt D dA E a o (fun _ => 0) x2 x4 x6 H.size ) (vx_cwSW 5 hts (ga_S q681 q682 q463 q680) rfl rfl rfl (by decide +kernel) ⟨(Nat.le_of_ble_eq_true rfl), (Nat.le_of_ble_eq_true rfl)⟩) ⟨pb_blind, pb_pre hK hPc hDc hZ hS hFc _⟩ rfl rfl hl.1 rfl (lv_room (Nat.le_of_ble_eq_true rfl)) dL_law_1963 ⟨(Nat.le_of_ble_eq_true rfl), (Nat.le_of_ble_eq_true rfl)⟩) hS (fun q _ h => hFc q h) hFc (fun q _ h => hFc q h) (fun E9 ce q9 k t H1 locs ht hvm hpx hBX hz1 hk1 hS hce hcv hcl => ?_) (fun r u t H1 locs ht hvm hw hB hz1 hk1 hS => ?_)
  · exact hpx.elim
  · refine W.widen (k := 66) (n := 11784) (Nat.le_of_ble_eq_true rfl) (Nat.le_of_ble_eq_true rfl) ?_
    obtain ⟨r7, rfl⟩ : ∃ z, z = r := ⟨_, rfl⟩
    obtain ⟨u8, rfl⟩ : ∃ z, z = u := ⟨_, rfl⟩
    have hw9 := hw
    clear hw
    obtain ⟨hP1, hD1⟩ := hB
    rw [ht] at hP1
    obtain ⟨hP, hD⟩ := va_join (wr := [(b 0, .inr (12, [.int 0, .int 0, .ref (b 2), .ref (b 3), .ref (b 4), .int 0, .int 0, .int 0, .int 0, .ref (b 9), .int 0, .ref (b 11), .ref (b 12), .ref (b 13), .ref (b 14), .ref (b 15), .ref (b 16), .ref (b 17), .ref (b 18), .int 0, .ref (b 20), .int 0, .int 0, .int 0, .ref (b 24), .ref (b 25), .ref (b 26), .int 0, .int 0, .ref (b 29), .ref (b 30), .int 0, .ref (b 32), .ref (b 33), .ref (b 34), .ref (b 35), .ref (b 36), .ref (b 37), .int 0, .int 0, .ref (b 40), .ref (b 41), .ref (b 42), .ref (b 43), .ref (b 44), .int 0, .ref (b 46), .ref (b 47), .ref (b 48)])), (b 48, .inl (dA 2, 12, .inl (fun _ => 0)))]) (w1 := [(o, .inl (dA 3, 1, .inr (.inl u8)))]) hP hD [0, 1, 2] [3, 4] rfl rfl (by decide) (by decide) hk1 hFc hP1 hD1
    generalize H1 = H at hP hS ⊢
    have hP : va_P D vwCl [(b 0, .inr (12, [.int 0, .int 0, .ref (b 2), .ref (b 3), .ref (b 4), .int 0, .int 0, .int 0, .int 0, .ref (b 9), .int 0, .ref (b 11), .ref (b 12), .ref (b 13), .ref (b 14), .ref (b 15), .ref (b 16), .ref (b 17), .ref (b 18), .int 0, .ref (b 20), .int 0, .int 0, .int 0, .ref (b 24), .ref (b 25), .ref (b 26), .int 0, .int 0, .ref (b 29), .ref (b 30), .int 0, .ref (b 32), .ref (b 33), .ref (b 34), .ref (b 35), .ref (b 36), .ref (b 37), .int 0, .int 0, .ref (b 40), .ref (b 41), .ref (b 42), .ref (b 43), .ref (b 44), .int 0, .ref (b 46), .ref (b 47), .ref (b 48)])), (b 48, .inl (dA 2, 12, .inl (fun _ => 0))), (o, .inl (dA 3, 1, .inr (.inl u8)))] H := hP
    have hD : va_D A [(b 0, .inr (12, [.int 0, .int 0, .ref (b 2), .ref (b 3), .ref (b 4), .int 0, .int 0, .int 0, .int 0, .ref (b 9), .int 0, .ref (b 11), .ref (b 12), .ref (b 13), .ref (b 14), .ref (b 15), .ref (b 16), .ref (b 17), .ref (b 18), .int 0, .ref (b 20), .int 0, .int 0, .int 0, .ref (b 24), .ref (b 25), .ref (b 26), .int 0, .int 0, .ref (b 29), .ref (b 30), .int 0, .ref (b 32), .ref (b 33), .ref (b 34), .ref (b 35), .ref (b 36), .ref (b 37), .int 0, .int 0, .ref (b 40), .ref (b 41), .ref (b 42), .ref (b 43), .ref (b 44), .int 0, .ref (b 46), .ref (b 47), .ref (b 48)])), (b 48, .inl (dA 2, 12, .inl (fun _ => 0))), (o, .inl (dA 3, 1, .inr (.inl u8)))] := hD
    have hP := hP.sub (ws' := [(o, .inl (dA 3, 1, .inr (.inl u8))), (b 0, .inr (12, [.int 0, .int 0, .ref (b 2), .ref (b 3), .ref (b 4), .int 0, .int 0, .int 0, .int 0, .ref (b 9), .int 0, .ref (b 11), .ref (b 12), .ref (b 13), .ref (b 14), .ref (b 15), .ref (b 16), .ref (b 17), .ref (b 18), .int 0, .ref (b 20), .int 0, .int 0, .int 0, .ref (b 24), .ref (b 25), .ref (b 26), .int 0, .int 0, .ref (b 29), .ref (b 30), .int 0, .ref (b 32), .ref (b 33), .ref (b 34), .ref (b 35), .ref (b 36), .ref (b 37), .int 0, .int 0, .ref (b 40), .ref (b 41), .ref (b 42), .ref (b 43), .ref (b 44), .int 0, .ref (b 46), .ref (b 47), .ref (b 48)])), (b 48, .inl (dA 2, 12, .inl (fun _ => 0)))]) [2, 0, 1] rfl
    have hD := hD.sub (ws' := [(o, .inl (dA 3, 1, .inr (.inl u8))), (b 0, .inr (12, [.int 0, .int 0, .ref (b 2), .ref (b 3), .ref (b 4), .int 0, .int 0, .int 0, .int 0, .ref (b 9), .int 0, .ref (b 11), .ref (b 12), .ref (b 13), .ref (b 14), .ref (b 15), .ref (b 16), .ref (b 17), .ref (b 18), .int 0, .ref (b 20), .int 0, .int 0, .int 0, .ref (b 24), .ref (b 25), .ref (b 26), .int 0, .int 0, .ref (b 29), .ref (b 30), .int 0, .ref (b 32), .ref (b 33), .ref (b 34), .ref (b 35), .ref (b 36), .ref (b 37), .int 0, .int 0, .ref (b 40), .ref (b 41), .ref (b 42), .ref (b 43), .ref (b 44), .int 0, .ref (b 46), .ref (b 47), .ref (b 48)])), (b 48, .inl (dA 2, 12, .inl (fun _ => 0)))]) [2, 0, 1] (by decide) rfl
    have hk := hw9
    obtain rfl : r7 = 1 := hk
    refine lv_istore (lv' := [(6, .int 1), (5, .int 0), (4, .ref od), (3, .ref o), (2, .ref (b 0)), (1, .ref (a 0)), (0, .ref bs)]) hx hb dL_law_1966 hl (by decide) rfl (fun ls hl => ?_)
    refine lv_aload_n hx hb dL_law_1968 rfl (lv_at hl 4 rfl) ?_
    refine lv_aload_n hx hb dL_law_1969 rfl (lv_at hl 6 rfl) ?_
    refine lv_iload hx hb dL_law_1970 (lv_at hl 1 rfl) ?_
    refine lv_iconst (v := 1) hx hb dL_law_1972 (by decide) ?_
    refine lv_iadd hx hb dL_law_1973 ?_
    refine lv_topi (fun x10 ex10 => ?_)
    replace ex10 : x10 = 1 := ex10.trans (by decide)
    subst ex10
    refine va_sld hx hb hX hbl hbA hS (vi_c (by decide)) dL_law_1974 ?_
    refine lv_topi (fun x11 ex11 => ?_)
    obtain rfl : x2 = x11 := ex2.trans ex11.symm
    refine lv_aload_n hx hb dL_law_1975 rfl (lv_at hl 6 rfl) ?_
    refine lv_iload hx hb dL_law_1976 (lv_at hl 1 rfl) ?_
    refine lv_iconst (v := 2) hx hb dL_law_1978 (by decide) ?_
    refine lv_iadd hx hb dL_law_1979 ?_
    refine lv_topi (fun x12 ex12 => ?_)
    replace ex12 : x12 = 2 := ex12.trans (by decide)
    subst ex12
    refine va_sld hx hb hX hbl hbA hS (vi_c (by decide)) dL_law_1980 ?_
    refine lv_topi (fun x13 ex13 => ?_)
    obtain rfl : x4 = x13 := ex4.trans ex13.symm
    refine lv_aload_n hx hb dL_law_1981 rfl (lv_at hl 6 rfl) ?_
    refine lv_iload hx hb dL_law_1982 (lv_at hl 1 rfl) ?_
    refine lv_iconst (v := 3) hx hb dL_law_1984 (by decide) ?_
    refine lv_iadd hx hb dL_law_1985 ?_
    refine lv_topi (fun x14 ex14 => ?_)
    replace ex14 : x14 = 3 := ex14.trans (by decide)
    subst ex14
    refine va_sld hx hb hX hbl hbA hS (vi_c (by decide)) dL_law_1986 ?_
    refine lv_topi (fun x15 ex15 => ?_)
    obtain rfl : x6 = x15 := ex6.trans ex15.symm
    have hPc := hP.sub (ws' := [(b 0, .inr (12, [.int 0, .int 0, .ref (b 2), .ref (b 3), .ref (b 4), .int 0, .int 0, .int 0, .int 0, .ref (b 9), .int 0, .ref (b 11), .ref (b 12), .ref (b 13), .ref (b 14), .ref (b 15), .ref (b 16), .ref (b 17), .ref (b 18), .int 0, .ref (b 20), .int 0, .int 0, .int 0, .ref (b 24), .ref (b 25), .ref (b 26), .int 0, .int 0, .ref (b 29), .ref (b 30), .int 0, .ref (b 32), .ref (b 33), .ref (b 34), .ref (b 35), .ref (b 36), .ref (b 37), .int 0, .int 0, .ref (b 40), .ref (b 41), .ref (b 42), .ref (b 43), .ref (b 44), .int 0, .ref (b 46), .ref (b 47), .ref (b 48)])), (b 48, .inl (dA 2, 12, .inl (fun _ => 0)))]) [1, 2] rfl
    have hDc := hD.sub (ws' := [(b 0, .inr (12, [.int 0, .int 0, .ref (b 2), .ref (b 3), .ref (b 4), .int 0, .int 0, .int 0, .int 0, .ref (b 9), .int 0, .ref (b 11), .ref (b 12), .ref (b 13), .ref (b 14), .ref (b 15), .ref (b 16), .ref (b 17), .ref (b 18), .int 0, .ref (b 20), .int 0, .int 0, .int 0, .ref (b 24), .ref (b 25), .ref (b 26), .int 0, .int 0, .ref (b 29), .ref (b 30), .int 0, .ref (b 32), .ref (b 33), .ref (b 34), .ref (b 35), .ref (b 36), .ref (b 37), .int 0, .int 0, .ref (b 40), .ref (b 41), .ref (b 42), .ref (b 43), .ref (b 44), .int 0, .ref (b 46), .ref (b 47), .ref (b 48)])), (b 48, .inl (dA 2, 12, .inl (fun _ => 0)))]) [1, 2] (by decide) rfl
    have hFc := va_free (wc := [(b 0, .inr (12, [.int 0, .int 0, .ref (b 2), .ref (b 3), .ref (b 4), .int 0, .int 0, .int 0, .int 0, .ref (b 9), .int 0, .ref (b 11), .ref (b 12), .ref (b 13), .ref (b 14), .ref (b 15), .ref (b 16), .ref (b 17), .ref (b 18), .int 0, .ref (b 20), .int 0, .int 0, .int 0, .ref (b 24), .ref (b 25), .ref (b 26), .int 0, .int 0, .ref (b 29), .ref (b 30), .int 0, .ref (b 32), .ref (b 33), .ref (b 34), .ref (b 35), .ref (b 36), .ref (b 37), .int 0, .int 0, .ref (b 40), .ref (b 41), .ref (b 42), .ref (b 43), .ref (b 44), .int 0, .ref (b 46), .ref (b 47), .ref (b 48)])), (b 48, .inl (dA 2, 12, .inl (fun _ => 0)))]) hD hS hA [1, 2] rfl
    refine va_calli (va_runV (As := [.int x2, .int x4, .int x6]) (rest := []) ⟨hx, hb, hml, hown, hts⟩ (c_M_marked l D dA E b x2 x4 x6 H.size ) (cwV 3 hts (ga_V q685 q686 q683 q278 q684) rfl rfl rfl (by decide +kernel) ⟨(Nat.le_of_ble_eq_true rfl), (Nat.le_of_ble_eq_true rfl)⟩) ⟨pb_blind, va_recv hK hPc (ci := 12) (q0 := 0) rfl rfl, pb_pre hK hPc hDc hZ hS hFc _⟩ rfl rfl hl.1 rfl (lv_room (Nat.le_of_ble_eq_true rfl)) dL_law_1987 ⟨(Nat.le_of_ble_eq_true rfl), (Nat.le_of_ble_eq_true rfl)⟩) hS (fun q _ h => hFc q h) hFc (fun r u t H1 locs ht hvm hw hB hz1 hk1 hS => ?_)
    refine W.widen (k := 66) (n := 11784) (Nat.le_of_ble_eq_true rfl) (Nat.le_of_ble_eq_true rfl) ?_
    obtain ⟨r16, rfl⟩ : ∃ z, z = r := ⟨_, rfl⟩
    obtain ⟨u17, rfl⟩ : ∃ z, z = u := ⟨_, rfl⟩
    have hw18 := hw
    clear hw
    obtain ⟨hP1, hD1⟩ := hB
    rw [ht] at hP1
    obtain ⟨hP, hD⟩ := va_join (wr := [(o, .inl (dA 3, 1, .inr (.inl u8)))]) (w1 := [(b 0, .inr (12, .int u17.1 :: u17.2))]) hP hD [1, 2] [0] rfl rfl (by decide) (by decide) hk1 hFc hP1 hD1
    generalize H1 = H at hP hS ⊢
    have hP : va_P D vwCl [(o, .inl (dA 3, 1, .inr (.inl u8))), (b 0, .inr (12, .int u17.1 :: u17.2))] H := hP
    have hD : va_D A [(o, .inl (dA 3, 1, .inr (.inl u8))), (b 0, .inr (12, .int u17.1 :: u17.2))] := hD
    have hP := hP.sub (ws' := [(b 0, .inr (12, .int u17.1 :: u17.2)), (o, .inl (dA 3, 1, .inr (.inl u8)))]) [1, 0] rfl
    have hD := hD.sub (ws' := [(b 0, .inr (12, .int u17.1 :: u17.2)), (o, .inl (dA 3, 1, .inr (.inl u8)))]) [1, 0] (by decide) rfl
    have hm : u17.1 = 1 := hw18
    rw [hm] at hP hD
    have hP : va_P D vwCl [(b 0, .inr (12, .int 1 :: u17.2)), (o, .inl (dA 3, 1, .inr (.inl u8)))] H := hP
    have hD : va_D A [(b 0, .inr (12, .int 1 :: u17.2)), (o, .inl (dA 3, 1, .inr (.inl u8)))] := hD
    refine lv_istore (lv' := [(7, .int r16), (6, .int 1), (5, .int 0), (4, .ref od), (3, .ref o), (2, .ref (b 0)), (1, .ref (a 0)), (0, .ref bs)]) hx hb dL_law_1990 hl (by decide) rfl (fun ls hl => ?_)
    refine lv_aload_n hx hb dL_law_1992 rfl (lv_at hl 5 rfl) ?_
    have hPc := hP.sub (ws' := [(b 0, .inr (12, .int 1 :: u17.2))]) [0] rfl
    have hDc := hD.sub (ws' := [(b 0, .inr (12, .int 1 :: u17.2))]) [0] (by decide) rfl
    have hFc := va_free (wc := [(b 0, .inr (12, .int 1 :: u17.2))]) hD hS hA [0] rfl
    refine va_calli (va_runV (As := []) (rest := []) ⟨hx, hb, hml, hown, hts⟩ (c_M_thrown l D dA E (b 0) 1 u17.2 H.size ) (cwV 0 hts (ga_V q470 q471 q468 q278 q469) rfl rfl rfl (by decide +kernel) ⟨(Nat.le_of_ble_eq_true rfl), (Nat.le_of_ble_eq_true rfl)⟩) ⟨pb_blind, va_recv hK hPc (ci := 12) (q0 := 0) rfl rfl, pb_pre hK hPc hDc hZ hS hFc _⟩ rfl rfl hl.1 rfl (lv_room (Nat.le_of_ble_eq_true rfl)) dL_law_1993 ⟨(Nat.le_of_ble_eq_true rfl), (Nat.le_of_ble_eq_true rfl)⟩) hS (fun q _ h => hFc q h) hFc (fun r u t H1 locs ht hvm hw hB hz1 hk1 hS => ?_)
    refine W.widen (k := 66) (n := 11784) (Nat.le_of_ble_eq_true rfl) (Nat.le_of_ble_eq_true rfl) ?_
    obtain ⟨r19, rfl⟩ : ∃ z, z = r := ⟨_, rfl⟩
    obtain ⟨u20, rfl⟩ : ∃ z, z = u := ⟨_, rfl⟩
    have hw21 := hw
    clear hw
    obtain ⟨hP, hD⟩ := jn_drop (wr := [(o, .inl (dA 3, 1, .inr (.inl u8)))]) hP hD [0] [1] rfl rfl (by decide) (by decide) hk1 hFc
    generalize H1 = H at hP hS ⊢
    have hP : va_P D vwCl [(o, .inl (dA 3, 1, .inr (.inl u8)))] H := hP
    have hD : va_D A [(o, .inl (dA 3, 1, .inr (.inl u8)))] := hD
    obtain rfl : r19 = 1 := hw21
    refine lv_iload hx hb dL_law_1996 (lv_at hl 1 rfl) ?_
    refine lv_icmp_eq (tgt := 2003) hx hb dL_law_1998 (by decide) (fun _ => ?_) (fun c22 => absurd (by decide) c22)
    refine lv_iload hx hb dL_law_2003 (lv_at hl 1 rfl) ?_
    refine lv_if_ne (tgt := 2020) hx hb dL_law_2005 (by decide) (fun _ => ?_) (fun c23 => absurd c23 (by decide))
    refine lv_goto (tgt := 2346) hx hb dL_law_2020 (by decide) ?_
    exact law_tail l C0 rfl (by rw [hAe]; exact hS) (Nat.le_of_ble_eq_true rfl) (Nat.le_of_ble_eq_true rfl) ls (lv_sub hl [7, 2] rfl)

set_option maxHeartbeats 4000000 in
set_option maxRecDepth 100000 in
/-- the law at click -/
theorem law_31 {p : Program} {e : Env} {s : State} {m : MethodId} {below : List Frame} {meth : Method} {c : Code} (l : Launch) (hlt : l.stackTraces = false) {bs L : Nat} {xs : Nat → Int32} (C0 : lw_At p s m meth c bs L xs) (hL6 : L = 6) (D : va_G) (dA : Nat → ClassId) (E : Nat) (A : Nat → Prop) (hAe : (fun q : Nat => s.heap.size ≤ q) = A) (a b : Nat → Nat) (o od : Nat) (hK : va_K D vwCl (TY dA) s) (hZ : ZZ dA E A s s.heap) (H : Heap) (locs : List Loc) (hP : va_P D vwCl [(a 0, .inr (11, [.ref (a 1), .ref (a 2), .ref (a 3), .ref (a 4), .ref (a 5), .ref (a 10), .ref (a 15), .ref (a 17), .null, .int 0, .int 0, .int 0])), (a 2, .inr (2, [.int 0, .ref E, .int 0])), (o, .inl (dA 3, 1, .inr (.inl (fun _ => 0)))), (b 0, .inr (12, [.int 0, .int 0, .ref (b 2), .ref (b 3), .ref (b 4), .int 0, .int 0, .int 0, .int 0, .ref (b 9), .int 0, .ref (b 11), .ref (b 12), .ref (b 13), .ref (b 14), .ref (b 15), .ref (b 16), .ref (b 17), .ref (b 18), .int 0, .ref (b 20), .int 0, .int 0, .int 0, .ref (b 24), .ref (b 25), .ref (b 26), .int 0, .int 0, .ref (b 29), .ref (b 30), .int 0, .ref (b 32), .ref (b 33), .ref (b 34), .ref (b 35), .ref (b 36), .ref (b 37), .int 0, .int 0, .ref (b 40), .ref (b 41), .ref (b 42), .ref (b 43), .ref (b 44), .int 0, .ref (b 46), .ref (b 47), .ref (b 48)]))] H) (hD : va_D A [(a 0, .inr (11, [.ref (a 1), .ref (a 2), .ref (a 3), .ref (a 4), .ref (a 5), .ref (a 10), .ref (a 15), .ref (a 17), .null, .int 0, .int 0, .int 0])), (a 2, .inr (2, [.int 0, .ref E, .int 0])), (o, .inl (dA 3, 1, .inr (.inl (fun _ => 0)))), (b 0, .inr (12, [.int 0, .int 0, .ref (b 2), .ref (b 3), .ref (b 4), .int 0, .int 0, .int 0, .int 0, .ref (b 9), .int 0, .ref (b 11), .ref (b 12), .ref (b 13), .ref (b 14), .ref (b 15), .ref (b 16), .ref (b 17), .ref (b 18), .int 0, .ref (b 20), .int 0, .int 0, .int 0, .ref (b 24), .ref (b 25), .ref (b 26), .int 0, .int 0, .ref (b 29), .ref (b 30), .int 0, .ref (b 32), .ref (b 33), .ref (b 34), .ref (b 35), .ref (b 36), .ref (b 37), .int 0, .int 0, .ref (b 40), .ref (b 41), .ref (b 42), .ref (b 43), .ref (b 44), .int 0, .ref (b 46), .ref (b 47), .ref (b 48)]))]) (hS : va_S A s.heap H locs) (ls : Array Slot) (hl : lv_has ls 9 [(5, .int 0), (4, .ref od), (3, .ref o), (2, .ref (b 0)), (1, .ref (a 0)), (0, .ref bs)]) : W p l e room_1 s m #[Value.ref bs] below meth c H locs 65 11778 (lw_Z below #[Value.ref bs] s) (F0 m 2023 ls []) := by
  subst hL6
  obtain ⟨hx, hb, hr, hml, hown, hts0, hX, hbl, hlocks, hgv⟩ := id C0
  have hts : ∀ w ∈ WA, w.before #[Value.ref bs] s = true := fun w h => hts0 w (WA_tbl h)
  have hA : ∀ q : Nat, s.heap.size ≤ q → A q := fun q h => by rw [← hAe]; exact h
  have hbA : ¬ A bs := by rw [← hAe]; exact Nat.not_le.mpr hbl
  refine lv_aload_n hx hb dL_law_2023 rfl (lv_at hl 4 rfl) ?_
  refine lv_aload_n hx hb dL_law_2024 rfl (lv_at hl 5 rfl) ?_
  refine lv_iload hx hb dL_law_2025 (lv_at hl 0 rfl) ?_
  refine lv_iconst (v := 1) hx hb dL_law_2027 (by decide) ?_
  refine lv_iadd hx hb dL_law_2028 ?_
  refine lv_topi (fun x1 ex1 => ?_)
  replace ex1 : x1 = 1 := ex1.trans (by decide)
  subst ex1
  refine va_sld hx hb hX hbl hbA hS (vi_c (by decide)) dL_law_2029 ?_
  refine lv_topi (fun x2 ex2 => ?_)
  refine lv_aload_n hx hb dL_law_2030 rfl (lv_at hl 2 rfl) ?_
  have hPc := hP.sub (ws' := [(a 0, .inr (11, [.ref (a 1), .ref (a 2), .ref (a 3), .ref (a 4), .ref (a 5), .ref (a 10), .ref (a 15), .ref (a 17), .null, .int 0, .int 0, .int 0])), (a 2, .inr (2, [.int 0, .ref E, .int 0])), (o, .inl (dA 3, 1, .inr (.inl (fun _ => 0))))]) [0, 1, 2] rfl
  have hDc := hD.sub (ws' := [(a 0, .inr (11, [.ref (a 1), .ref (a 2), .ref (a 3), .ref (a 4), .ref (a 5), .ref (a 10), .ref (a 15), .ref (a 17), .null, .int 0, .int 0, .int 0])), (a 2, .inr (2, [.int 0, .ref E, .int 0])), (o, .inl (dA 3, 1, .inr (.inl (fun _ => 0))))]) [0, 1, 2] (by decide) rfl
  have hFc := va_free (wc := [(a 0, .inr (11, [.ref (a 1), .ref (a 2), .ref (a 3), .ref (a 4), .ref (a 5), .ref (a 10), .ref (a 15), .ref (a 17), .null, .int 0, .int 0, .int 0])), (a 2, .inr (2, [.int 0, .ref E, .int 0])), (o, .inl (dA 3, 1, .inr (.inl (fun _ => 0))))]) hD hS hA [0, 1, 2] rfl
  refine vx_calli (vx_runSX (As := [.ref (a 0), .int x2, .ref o]) (rest := []) ⟨hx, hb, hml, hown, hts⟩ (c_L_click l hlt D dA E a o (fun _ => 0) x2 H.size ) (vx_cwSW 3 hts (ga_S q688 q689 q463 q687) rfl rfl rfl (by decide +kernel) ⟨(Nat.le_of_ble_eq_true rfl), (Nat.le_of_ble_eq_true rfl)⟩) ⟨pb_blind, pb_pre hK hPc hDc hZ hS hFc _⟩ rfl rfl hl.1 rfl (lv_room (Nat.le_of_ble_eq_true rfl)) dL_law_2031 ⟨(Nat.le_of_ble_eq_true rfl), (Nat.le_of_ble_eq_true rfl)⟩) hS (fun q _ h => hFc q h) hFc (fun q _ h => hFc q h) (fun E9 ce q9 k t H1 locs ht hvm hpx hBX hz1 hk1 hS hce hcv hcl => ?_) (fun r u t H1 locs ht hvm hw hB hz1 hk1 hS => ?_)
  · exact hpx.elim
  · refine W.widen (k := 66) (n := 11784) (Nat.le_of_ble_eq_true rfl) (Nat.le_of_ble_eq_true rfl) ?_
    obtain ⟨r3, rfl⟩ : ∃ z, z = r := ⟨_, rfl⟩
    obtain ⟨u4, rfl⟩ : ∃ z, z = u := ⟨_, rfl⟩
    have hw5 := hw
    clear hw
    obtain ⟨hP1, hD1⟩ := hB
    rw [ht] at hP1
    obtain ⟨hP, hD⟩ := va_join (wr := [(b 0, .inr (12, [.int 0, .int 0, .ref (b 2), .ref (b 3), .ref (b 4), .int 0, .int 0, .int 0, .int 0, .ref (b 9), .int 0, .ref (b 11), .ref (b 12), .ref (b 13), .ref (b 14), .ref (b 15), .ref (b 16), .ref (b 17), .ref (b 18), .int 0, .ref (b 20), .int 0, .int 0, .int 0, .ref (b 24), .ref (b 25), .ref (b 26), .int 0, .int 0, .ref (b 29), .ref (b 30), .int 0, .ref (b 32), .ref (b 33), .ref (b 34), .ref (b 35), .ref (b 36), .ref (b 37), .int 0, .int 0, .ref (b 40), .ref (b 41), .ref (b 42), .ref (b 43), .ref (b 44), .int 0, .ref (b 46), .ref (b 47), .ref (b 48)]))]) (w1 := [(o, .inl (dA 3, 1, .inr (.inl u4)))]) hP hD [0, 1, 2] [3] rfl rfl (by decide) (by decide) hk1 hFc hP1 hD1
    generalize H1 = H at hP hS ⊢
    have hP : va_P D vwCl [(b 0, .inr (12, [.int 0, .int 0, .ref (b 2), .ref (b 3), .ref (b 4), .int 0, .int 0, .int 0, .int 0, .ref (b 9), .int 0, .ref (b 11), .ref (b 12), .ref (b 13), .ref (b 14), .ref (b 15), .ref (b 16), .ref (b 17), .ref (b 18), .int 0, .ref (b 20), .int 0, .int 0, .int 0, .ref (b 24), .ref (b 25), .ref (b 26), .int 0, .int 0, .ref (b 29), .ref (b 30), .int 0, .ref (b 32), .ref (b 33), .ref (b 34), .ref (b 35), .ref (b 36), .ref (b 37), .int 0, .int 0, .ref (b 40), .ref (b 41), .ref (b 42), .ref (b 43), .ref (b 44), .int 0, .ref (b 46), .ref (b 47), .ref (b 48)])), (o, .inl (dA 3, 1, .inr (.inl u4)))] H := hP
    have hD : va_D A [(b 0, .inr (12, [.int 0, .int 0, .ref (b 2), .ref (b 3), .ref (b 4), .int 0, .int 0, .int 0, .int 0, .ref (b 9), .int 0, .ref (b 11), .ref (b 12), .ref (b 13), .ref (b 14), .ref (b 15), .ref (b 16), .ref (b 17), .ref (b 18), .int 0, .ref (b 20), .int 0, .int 0, .int 0, .ref (b 24), .ref (b 25), .ref (b 26), .int 0, .int 0, .ref (b 29), .ref (b 30), .int 0, .ref (b 32), .ref (b 33), .ref (b 34), .ref (b 35), .ref (b 36), .ref (b 37), .int 0, .int 0, .ref (b 40), .ref (b 41), .ref (b 42), .ref (b 43), .ref (b 44), .int 0, .ref (b 46), .ref (b 47), .ref (b 48)])), (o, .inl (dA 3, 1, .inr (.inl u4)))] := hD
    have hP := hP.sub (ws' := [(o, .inl (dA 3, 1, .inr (.inl u4))), (b 0, .inr (12, [.int 0, .int 0, .ref (b 2), .ref (b 3), .ref (b 4), .int 0, .int 0, .int 0, .int 0, .ref (b 9), .int 0, .ref (b 11), .ref (b 12), .ref (b 13), .ref (b 14), .ref (b 15), .ref (b 16), .ref (b 17), .ref (b 18), .int 0, .ref (b 20), .int 0, .int 0, .int 0, .ref (b 24), .ref (b 25), .ref (b 26), .int 0, .int 0, .ref (b 29), .ref (b 30), .int 0, .ref (b 32), .ref (b 33), .ref (b 34), .ref (b 35), .ref (b 36), .ref (b 37), .int 0, .int 0, .ref (b 40), .ref (b 41), .ref (b 42), .ref (b 43), .ref (b 44), .int 0, .ref (b 46), .ref (b 47), .ref (b 48)]))]) [1, 0] rfl
    have hD := hD.sub (ws' := [(o, .inl (dA 3, 1, .inr (.inl u4))), (b 0, .inr (12, [.int 0, .int 0, .ref (b 2), .ref (b 3), .ref (b 4), .int 0, .int 0, .int 0, .int 0, .ref (b 9), .int 0, .ref (b 11), .ref (b 12), .ref (b 13), .ref (b 14), .ref (b 15), .ref (b 16), .ref (b 17), .ref (b 18), .int 0, .ref (b 20), .int 0, .int 0, .int 0, .ref (b 24), .ref (b 25), .ref (b 26), .int 0, .int 0, .ref (b 29), .ref (b 30), .int 0, .ref (b 32), .ref (b 33), .ref (b 34), .ref (b 35), .ref (b 36), .ref (b 37), .int 0, .int 0, .ref (b 40), .ref (b 41), .ref (b 42), .ref (b 43), .ref (b 44), .int 0, .ref (b 46), .ref (b 47), .ref (b 48)]))]) [1, 0] (by decide) rfl
    have hk := hw5
    obtain rfl : r3 = 1 := hk
    refine lv_istore (lv' := [(6, .int 1), (5, .int 0), (4, .ref od), (3, .ref o), (2, .ref (b 0)), (1, .ref (a 0)), (0, .ref bs)]) hx hb dL_law_2034 hl (by decide) rfl (fun ls hl => ?_)
    refine lv_aload_n hx hb dL_law_2036 rfl (lv_at hl 4 rfl) ?_
    refine lv_aload_n hx hb dL_law_2037 rfl (lv_at hl 6 rfl) ?_
    refine lv_iload hx hb dL_law_2038 (lv_at hl 1 rfl) ?_
    refine lv_iconst (v := 1) hx hb dL_law_2040 (by decide) ?_
    refine lv_iadd hx hb dL_law_2041 ?_
    refine lv_topi (fun x6 ex6 => ?_)
    replace ex6 : x6 = 1 := ex6.trans (by decide)
    subst ex6
    refine va_sld hx hb hX hbl hbA hS (vi_c (by decide)) dL_law_2042 ?_
    refine lv_topi (fun x7 ex7 => ?_)
    obtain rfl : x2 = x7 := ex2.trans ex7.symm
    have hPc := hP.sub (ws' := [(b 0, .inr (12, [.int 0, .int 0, .ref (b 2), .ref (b 3), .ref (b 4), .int 0, .int 0, .int 0, .int 0, .ref (b 9), .int 0, .ref (b 11), .ref (b 12), .ref (b 13), .ref (b 14), .ref (b 15), .ref (b 16), .ref (b 17), .ref (b 18), .int 0, .ref (b 20), .int 0, .int 0, .int 0, .ref (b 24), .ref (b 25), .ref (b 26), .int 0, .int 0, .ref (b 29), .ref (b 30), .int 0, .ref (b 32), .ref (b 33), .ref (b 34), .ref (b 35), .ref (b 36), .ref (b 37), .int 0, .int 0, .ref (b 40), .ref (b 41), .ref (b 42), .ref (b 43), .ref (b 44), .int 0, .ref (b 46), .ref (b 47), .ref (b 48)]))]) [1] rfl
    have hDc := hD.sub (ws' := [(b 0, .inr (12, [.int 0, .int 0, .ref (b 2), .ref (b 3), .ref (b 4), .int 0, .int 0, .int 0, .int 0, .ref (b 9), .int 0, .ref (b 11), .ref (b 12), .ref (b 13), .ref (b 14), .ref (b 15), .ref (b 16), .ref (b 17), .ref (b 18), .int 0, .ref (b 20), .int 0, .int 0, .int 0, .ref (b 24), .ref (b 25), .ref (b 26), .int 0, .int 0, .ref (b 29), .ref (b 30), .int 0, .ref (b 32), .ref (b 33), .ref (b 34), .ref (b 35), .ref (b 36), .ref (b 37), .int 0, .int 0, .ref (b 40), .ref (b 41), .ref (b 42), .ref (b 43), .ref (b 44), .int 0, .ref (b 46), .ref (b 47), .ref (b 48)]))]) [1] (by decide) rfl
    have hFc := va_free (wc := [(b 0, .inr (12, [.int 0, .int 0, .ref (b 2), .ref (b 3), .ref (b 4), .int 0, .int 0, .int 0, .int 0, .ref (b 9), .int 0, .ref (b 11), .ref (b 12), .ref (b 13), .ref (b 14), .ref (b 15), .ref (b 16), .ref (b 17), .ref (b 18), .int 0, .ref (b 20), .int 0, .int 0, .int 0, .ref (b 24), .ref (b 25), .ref (b 26), .int 0, .int 0, .ref (b 29), .ref (b 30), .int 0, .ref (b 32), .ref (b 33), .ref (b 34), .ref (b 35), .ref (b 36), .ref (b 37), .int 0, .int 0, .ref (b 40), .ref (b 41), .ref (b 42), .ref (b 43), .ref (b 44), .int 0, .ref (b 46), .ref (b 47), .ref (b 48)]))]) hD hS hA [1] rfl
    refine va_calli (va_runV (As := [.int x2]) (rest := []) ⟨hx, hb, hml, hown, hts⟩ (c_M_click l D dA E b x2 H.size ) (cwV 1 hts (ga_V q692 q693 q690 q278 q691) rfl rfl rfl (by decide +kernel) ⟨(Nat.le_of_ble_eq_true rfl), (Nat.le_of_ble_eq_true rfl)⟩) ⟨pb_blind, va_recv hK hPc (ci := 12) (q0 := 0) rfl rfl, pb_pre hK hPc hDc hZ hS hFc _⟩ rfl rfl hl.1 rfl (lv_room (Nat.le_of_ble_eq_true rfl)) dL_law_2043 ⟨(Nat.le_of_ble_eq_true rfl), (Nat.le_of_ble_eq_true rfl)⟩) hS (fun q _ h => hFc q h) hFc (fun r u t H1 locs ht hvm hw hB hz1 hk1 hS => ?_)
    refine W.widen (k := 66) (n := 11784) (Nat.le_of_ble_eq_true rfl) (Nat.le_of_ble_eq_true rfl) ?_
    obtain ⟨r8, rfl⟩ : ∃ z, z = r := ⟨_, rfl⟩
    obtain ⟨u9, rfl⟩ : ∃ z, z = u := ⟨_, rfl⟩
    have hw10 := hw
    clear hw
    obtain ⟨hP1, hD1⟩ := hB
    rw [ht] at hP1
    obtain ⟨hP, hD⟩ := va_join (wr := [(o, .inl (dA 3, 1, .inr (.inl u4)))]) (w1 := [(b 0, .inr (12, .int u9.1 :: u9.2))]) hP hD [1] [0] rfl rfl (by decide) (by decide) hk1 hFc hP1 hD1
    generalize H1 = H at hP hS ⊢
    have hP : va_P D vwCl [(o, .inl (dA 3, 1, .inr (.inl u4))), (b 0, .inr (12, .int u9.1 :: u9.2))] H := hP
    have hD : va_D A [(o, .inl (dA 3, 1, .inr (.inl u4))), (b 0, .inr (12, .int u9.1 :: u9.2))] := hD
    have hP := hP.sub (ws' := [(b 0, .inr (12, .int u9.1 :: u9.2)), (o, .inl (dA 3, 1, .inr (.inl u4)))]) [1, 0] rfl
    have hD := hD.sub (ws' := [(b 0, .inr (12, .int u9.1 :: u9.2)), (o, .inl (dA 3, 1, .inr (.inl u4)))]) [1, 0] (by decide) rfl
    have hm : u9.1 = 1 := hw10
    rw [hm] at hP hD
    have hP : va_P D vwCl [(b 0, .inr (12, .int 1 :: u9.2)), (o, .inl (dA 3, 1, .inr (.inl u4)))] H := hP
    have hD : va_D A [(b 0, .inr (12, .int 1 :: u9.2)), (o, .inl (dA 3, 1, .inr (.inl u4)))] := hD
    refine lv_istore (lv' := [(7, .int r8), (6, .int 1), (5, .int 0), (4, .ref od), (3, .ref o), (2, .ref (b 0)), (1, .ref (a 0)), (0, .ref bs)]) hx hb dL_law_2046 hl (by decide) rfl (fun ls hl => ?_)
    refine lv_aload_n hx hb dL_law_2048 rfl (lv_at hl 5 rfl) ?_
    have hPc := hP.sub (ws' := [(b 0, .inr (12, .int 1 :: u9.2))]) [0] rfl
    have hDc := hD.sub (ws' := [(b 0, .inr (12, .int 1 :: u9.2))]) [0] (by decide) rfl
    have hFc := va_free (wc := [(b 0, .inr (12, .int 1 :: u9.2))]) hD hS hA [0] rfl
    refine va_calli (va_runV (As := []) (rest := []) ⟨hx, hb, hml, hown, hts⟩ (c_M_thrown l D dA E (b 0) 1 u9.2 H.size ) (cwV 0 hts (ga_V q470 q471 q468 q278 q469) rfl rfl rfl (by decide +kernel) ⟨(Nat.le_of_ble_eq_true rfl), (Nat.le_of_ble_eq_true rfl)⟩) ⟨pb_blind, va_recv hK hPc (ci := 12) (q0 := 0) rfl rfl, pb_pre hK hPc hDc hZ hS hFc _⟩ rfl rfl hl.1 rfl (lv_room (Nat.le_of_ble_eq_true rfl)) dL_law_2049 ⟨(Nat.le_of_ble_eq_true rfl), (Nat.le_of_ble_eq_true rfl)⟩) hS (fun q _ h => hFc q h) hFc (fun r u t H1 locs ht hvm hw hB hz1 hk1 hS => ?_)
    refine W.widen (k := 66) (n := 11784) (Nat.le_of_ble_eq_true rfl) (Nat.le_of_ble_eq_true rfl) ?_
    obtain ⟨r11, rfl⟩ : ∃ z, z = r := ⟨_, rfl⟩
    obtain ⟨u12, rfl⟩ : ∃ z, z = u := ⟨_, rfl⟩
    have hw13 := hw
    clear hw
    obtain ⟨hP, hD⟩ := jn_drop (wr := [(o, .inl (dA 3, 1, .inr (.inl u4)))]) hP hD [0] [1] rfl rfl (by decide) (by decide) hk1 hFc
    generalize H1 = H at hP hS ⊢
    have hP : va_P D vwCl [(o, .inl (dA 3, 1, .inr (.inl u4)))] H := hP
    have hD : va_D A [(o, .inl (dA 3, 1, .inr (.inl u4)))] := hD
    obtain rfl : r11 = 1 := hw13
    refine lv_iload hx hb dL_law_2052 (lv_at hl 1 rfl) ?_
    refine lv_icmp_eq (tgt := 2059) hx hb dL_law_2054 (by decide) (fun _ => ?_) (fun c14 => absurd (by decide) c14)
    refine lv_iload hx hb dL_law_2059 (lv_at hl 1 rfl) ?_
    refine lv_if_ne (tgt := 2076) hx hb dL_law_2061 (by decide) (fun _ => ?_) (fun c15 => absurd c15 (by decide))
    refine lv_goto (tgt := 2346) hx hb dL_law_2076 (by decide) ?_
    exact law_tail l C0 rfl (by rw [hAe]; exact hS) (Nat.le_of_ble_eq_true rfl) (Nat.le_of_ble_eq_true rfl) ls (lv_sub hl [7, 2] rfl)

set_option maxHeartbeats 4000000 in
set_option maxRecDepth 100000 in
/-- the law at setBound -/
theorem law_32 {p : Program} {e : Env} {s : State} {m : MethodId} {below : List Frame} {meth : Method} {c : Code} (l : Launch) (hlt : l.stackTraces = false) {bs L : Nat} {xs : Nat → Int32} (C0 : lw_At p s m meth c bs L xs) (hL6 : L = 6) (D : va_G) (dA : Nat → ClassId) (E : Nat) (A : Nat → Prop) (hAe : (fun q : Nat => s.heap.size ≤ q) = A) (a b : Nat → Nat) (o od : Nat) (hK : va_K D vwCl (TY dA) s) (hZ : ZZ dA E A s s.heap) (H : Heap) (locs : List Loc) (hP : va_P D vwCl [(a 0, .inr (11, [.ref (a 1), .ref (a 2), .ref (a 3), .ref (a 4), .ref (a 5), .ref (a 10), .ref (a 15), .ref (a 17), .null, .int 0, .int 0, .int 0])), (o, .inl (dA 3, 1, .inr (.inl (fun _ => 0)))), (b 0, .inr (12, [.int 0, .int 0, .ref (b 2), .ref (b 3), .ref (b 4), .int 0, .int 0, .int 0, .int 0, .ref (b 9), .int 0, .ref (b 11), .ref (b 12), .ref (b 13), .ref (b 14), .ref (b 15), .ref (b 16), .ref (b 17), .ref (b 18), .int 0, .ref (b 20), .int 0, .int 0, .int 0, .ref (b 24), .ref (b 25), .ref (b 26), .int 0, .int 0, .ref (b 29), .ref (b 30), .int 0, .ref (b 32), .ref (b 33), .ref (b 34), .ref (b 35), .ref (b 36), .ref (b 37), .int 0, .int 0, .ref (b 40), .ref (b 41), .ref (b 42), .ref (b 43), .ref (b 44), .int 0, .ref (b 46), .ref (b 47), .ref (b 48)]))] H) (hD : va_D A [(a 0, .inr (11, [.ref (a 1), .ref (a 2), .ref (a 3), .ref (a 4), .ref (a 5), .ref (a 10), .ref (a 15), .ref (a 17), .null, .int 0, .int 0, .int 0])), (o, .inl (dA 3, 1, .inr (.inl (fun _ => 0)))), (b 0, .inr (12, [.int 0, .int 0, .ref (b 2), .ref (b 3), .ref (b 4), .int 0, .int 0, .int 0, .int 0, .ref (b 9), .int 0, .ref (b 11), .ref (b 12), .ref (b 13), .ref (b 14), .ref (b 15), .ref (b 16), .ref (b 17), .ref (b 18), .int 0, .ref (b 20), .int 0, .int 0, .int 0, .ref (b 24), .ref (b 25), .ref (b 26), .int 0, .int 0, .ref (b 29), .ref (b 30), .int 0, .ref (b 32), .ref (b 33), .ref (b 34), .ref (b 35), .ref (b 36), .ref (b 37), .int 0, .int 0, .ref (b 40), .ref (b 41), .ref (b 42), .ref (b 43), .ref (b 44), .int 0, .ref (b 46), .ref (b 47), .ref (b 48)]))]) (hS : va_S A s.heap H locs) (ls : Array Slot) (hl : lv_has ls 9 [(5, .int 0), (4, .ref od), (3, .ref o), (2, .ref (b 0)), (1, .ref (a 0)), (0, .ref bs)]) : W p l e room_1 s m #[Value.ref bs] below meth c H locs 65 11778 (lw_Z below #[Value.ref bs] s) (F0 m 2079 ls []) := by
  subst hL6
  obtain ⟨hx, hb, hr, hml, hown, hts0, hX, hbl, hlocks, hgv⟩ := id C0
  have hts : ∀ w ∈ WA, w.before #[Value.ref bs] s = true := fun w h => hts0 w (WA_tbl h)
  have hA : ∀ q : Nat, s.heap.size ≤ q → A q := fun q h => by rw [← hAe]; exact h
  have hbA : ¬ A bs := by rw [← hAe]; exact Nat.not_le.mpr hbl
  refine lv_aload_n hx hb dL_law_2079 rfl (lv_at hl 4 rfl) ?_
  refine lv_aload_n hx hb dL_law_2080 rfl (lv_at hl 5 rfl) ?_
  refine lv_iload hx hb dL_law_2081 (lv_at hl 0 rfl) ?_
  refine lv_iconst (v := 1) hx hb dL_law_2083 (by decide) ?_
  refine lv_iadd hx hb dL_law_2084 ?_
  refine lv_topi (fun x1 ex1 => ?_)
  replace ex1 : x1 = 1 := ex1.trans (by decide)
  subst ex1
  refine va_sld hx hb hX hbl hbA hS (vi_c (by decide)) dL_law_2085 ?_
  refine lv_topi (fun x2 ex2 => ?_)
  refine lv_aload_n hx hb dL_law_2086 rfl (lv_at hl 2 rfl) ?_
  have hPc := hP.sub (ws' := [(a 0, .inr (11, [.ref (a 1), .ref (a 2), .ref (a 3), .ref (a 4), .ref (a 5), .ref (a 10), .ref (a 15), .ref (a 17), .null, .int 0, .int 0, .int 0])), (o, .inl (dA 3, 1, .inr (.inl (fun _ => 0))))]) [0, 1] rfl
  have hDc := hD.sub (ws' := [(a 0, .inr (11, [.ref (a 1), .ref (a 2), .ref (a 3), .ref (a 4), .ref (a 5), .ref (a 10), .ref (a 15), .ref (a 17), .null, .int 0, .int 0, .int 0])), (o, .inl (dA 3, 1, .inr (.inl (fun _ => 0))))]) [0, 1] (by decide) rfl
  have hFc := va_free (wc := [(a 0, .inr (11, [.ref (a 1), .ref (a 2), .ref (a 3), .ref (a 4), .ref (a 5), .ref (a 10), .ref (a 15), .ref (a 17), .null, .int 0, .int 0, .int 0])), (o, .inl (dA 3, 1, .inr (.inl (fun _ => 0))))]) hD hS hA [0, 1] rfl
  refine vx_calli (vx_runSX (As := [.ref (a 0), .int x2, .ref o]) (rest := []) ⟨hx, hb, hml, hown, hts⟩ (c_L_setBound l hlt D dA E a o (fun _ => 0) x2 H.size ) (vx_cwSW 3 hts (ga_S q695 q696 q463 q694) rfl rfl rfl (by decide +kernel) ⟨(Nat.le_of_ble_eq_true rfl), (Nat.le_of_ble_eq_true rfl)⟩) ⟨pb_blind, pb_pre hK hPc hDc hZ hS hFc _⟩ rfl rfl hl.1 rfl (lv_room (Nat.le_of_ble_eq_true rfl)) dL_law_2087 ⟨(Nat.le_of_ble_eq_true rfl), (Nat.le_of_ble_eq_true rfl)⟩) hS (fun q _ h => hFc q h) hFc (fun q _ h => hFc q h) (fun E9 ce q9 k t H1 locs ht hvm hpx hBX hz1 hk1 hS hce hcv hcl => ?_) (fun r u t H1 locs ht hvm hw hB hz1 hk1 hS => ?_)
  · exact hpx.elim
  · refine W.widen (k := 66) (n := 11784) (Nat.le_of_ble_eq_true rfl) (Nat.le_of_ble_eq_true rfl) ?_
    obtain ⟨r3, rfl⟩ : ∃ z, z = r := ⟨_, rfl⟩
    obtain ⟨u4, rfl⟩ : ∃ z, z = u := ⟨_, rfl⟩
    have hw5 := hw
    clear hw
    obtain ⟨hP1, hD1⟩ := hB
    rw [ht] at hP1
    obtain ⟨hP, hD⟩ := va_join (wr := [(b 0, .inr (12, [.int 0, .int 0, .ref (b 2), .ref (b 3), .ref (b 4), .int 0, .int 0, .int 0, .int 0, .ref (b 9), .int 0, .ref (b 11), .ref (b 12), .ref (b 13), .ref (b 14), .ref (b 15), .ref (b 16), .ref (b 17), .ref (b 18), .int 0, .ref (b 20), .int 0, .int 0, .int 0, .ref (b 24), .ref (b 25), .ref (b 26), .int 0, .int 0, .ref (b 29), .ref (b 30), .int 0, .ref (b 32), .ref (b 33), .ref (b 34), .ref (b 35), .ref (b 36), .ref (b 37), .int 0, .int 0, .ref (b 40), .ref (b 41), .ref (b 42), .ref (b 43), .ref (b 44), .int 0, .ref (b 46), .ref (b 47), .ref (b 48)]))]) (w1 := [(o, .inl (dA 3, 1, .inr (.inl u4)))]) hP hD [0, 1] [2] rfl rfl (by decide) (by decide) hk1 hFc hP1 hD1
    generalize H1 = H at hP hS ⊢
    have hP : va_P D vwCl [(b 0, .inr (12, [.int 0, .int 0, .ref (b 2), .ref (b 3), .ref (b 4), .int 0, .int 0, .int 0, .int 0, .ref (b 9), .int 0, .ref (b 11), .ref (b 12), .ref (b 13), .ref (b 14), .ref (b 15), .ref (b 16), .ref (b 17), .ref (b 18), .int 0, .ref (b 20), .int 0, .int 0, .int 0, .ref (b 24), .ref (b 25), .ref (b 26), .int 0, .int 0, .ref (b 29), .ref (b 30), .int 0, .ref (b 32), .ref (b 33), .ref (b 34), .ref (b 35), .ref (b 36), .ref (b 37), .int 0, .int 0, .ref (b 40), .ref (b 41), .ref (b 42), .ref (b 43), .ref (b 44), .int 0, .ref (b 46), .ref (b 47), .ref (b 48)])), (o, .inl (dA 3, 1, .inr (.inl u4)))] H := hP
    have hD : va_D A [(b 0, .inr (12, [.int 0, .int 0, .ref (b 2), .ref (b 3), .ref (b 4), .int 0, .int 0, .int 0, .int 0, .ref (b 9), .int 0, .ref (b 11), .ref (b 12), .ref (b 13), .ref (b 14), .ref (b 15), .ref (b 16), .ref (b 17), .ref (b 18), .int 0, .ref (b 20), .int 0, .int 0, .int 0, .ref (b 24), .ref (b 25), .ref (b 26), .int 0, .int 0, .ref (b 29), .ref (b 30), .int 0, .ref (b 32), .ref (b 33), .ref (b 34), .ref (b 35), .ref (b 36), .ref (b 37), .int 0, .int 0, .ref (b 40), .ref (b 41), .ref (b 42), .ref (b 43), .ref (b 44), .int 0, .ref (b 46), .ref (b 47), .ref (b 48)])), (o, .inl (dA 3, 1, .inr (.inl u4)))] := hD
    have hP := hP.sub (ws' := [(o, .inl (dA 3, 1, .inr (.inl u4))), (b 0, .inr (12, [.int 0, .int 0, .ref (b 2), .ref (b 3), .ref (b 4), .int 0, .int 0, .int 0, .int 0, .ref (b 9), .int 0, .ref (b 11), .ref (b 12), .ref (b 13), .ref (b 14), .ref (b 15), .ref (b 16), .ref (b 17), .ref (b 18), .int 0, .ref (b 20), .int 0, .int 0, .int 0, .ref (b 24), .ref (b 25), .ref (b 26), .int 0, .int 0, .ref (b 29), .ref (b 30), .int 0, .ref (b 32), .ref (b 33), .ref (b 34), .ref (b 35), .ref (b 36), .ref (b 37), .int 0, .int 0, .ref (b 40), .ref (b 41), .ref (b 42), .ref (b 43), .ref (b 44), .int 0, .ref (b 46), .ref (b 47), .ref (b 48)]))]) [1, 0] rfl
    have hD := hD.sub (ws' := [(o, .inl (dA 3, 1, .inr (.inl u4))), (b 0, .inr (12, [.int 0, .int 0, .ref (b 2), .ref (b 3), .ref (b 4), .int 0, .int 0, .int 0, .int 0, .ref (b 9), .int 0, .ref (b 11), .ref (b 12), .ref (b 13), .ref (b 14), .ref (b 15), .ref (b 16), .ref (b 17), .ref (b 18), .int 0, .ref (b 20), .int 0, .int 0, .int 0, .ref (b 24), .ref (b 25), .ref (b 26), .int 0, .int 0, .ref (b 29), .ref (b 30), .int 0, .ref (b 32), .ref (b 33), .ref (b 34), .ref (b 35), .ref (b 36), .ref (b 37), .int 0, .int 0, .ref (b 40), .ref (b 41), .ref (b 42), .ref (b 43), .ref (b 44), .int 0, .ref (b 46), .ref (b 47), .ref (b 48)]))]) [1, 0] (by decide) rfl
    rcases hw5 with ⟨hq, hk, ho⟩ | ⟨hq, hk⟩
    · obtain rfl : r3 = 0 := hk
      refine lv_istore (lv' := [(6, .int 0), (5, .int 0), (4, .ref od), (3, .ref o), (2, .ref (b 0)), (1, .ref (a 0)), (0, .ref bs)]) hx hb dL_law_2090 hl (by decide) rfl (fun ls hl => ?_)
      refine lv_aload_n hx hb dL_law_2092 rfl (lv_at hl 4 rfl) ?_
      refine lv_aload_n hx hb dL_law_2093 rfl (lv_at hl 6 rfl) ?_
      refine lv_iload hx hb dL_law_2094 (lv_at hl 1 rfl) ?_
      refine lv_iconst (v := 1) hx hb dL_law_2096 (by decide) ?_
      refine lv_iadd hx hb dL_law_2097 ?_
      refine lv_topi (fun x6 ex6 => ?_)
      replace ex6 : x6 = 1 := ex6.trans (by decide)
      subst ex6
      refine va_sld hx hb hX hbl hbA hS (vi_c (by decide)) dL_law_2098 ?_
      refine lv_topi (fun x7 ex7 => ?_)
      obtain rfl : x2 = x7 := ex2.trans ex7.symm
      have hPc := hP.sub (ws' := [(b 0, .inr (12, [.int 0, .int 0, .ref (b 2), .ref (b 3), .ref (b 4), .int 0, .int 0, .int 0, .int 0, .ref (b 9), .int 0, .ref (b 11), .ref (b 12), .ref (b 13), .ref (b 14), .ref (b 15), .ref (b 16), .ref (b 17), .ref (b 18), .int 0, .ref (b 20), .int 0, .int 0, .int 0, .ref (b 24), .ref (b 25), .ref (b 26), .int 0, .int 0, .ref (b 29), .ref (b 30), .int 0, .ref (b 32), .ref (b 33), .ref (b 34), .ref (b 35), .ref (b 36), .ref (b 37), .int 0, .int 0, .ref (b 40), .ref (b 41), .ref (b 42), .ref (b 43), .ref (b 44), .int 0, .ref (b 46), .ref (b 47), .ref (b 48)]))]) [1] rfl
      have hDc := hD.sub (ws' := [(b 0, .inr (12, [.int 0, .int 0, .ref (b 2), .ref (b 3), .ref (b 4), .int 0, .int 0, .int 0, .int 0, .ref (b 9), .int 0, .ref (b 11), .ref (b 12), .ref (b 13), .ref (b 14), .ref (b 15), .ref (b 16), .ref (b 17), .ref (b 18), .int 0, .ref (b 20), .int 0, .int 0, .int 0, .ref (b 24), .ref (b 25), .ref (b 26), .int 0, .int 0, .ref (b 29), .ref (b 30), .int 0, .ref (b 32), .ref (b 33), .ref (b 34), .ref (b 35), .ref (b 36), .ref (b 37), .int 0, .int 0, .ref (b 40), .ref (b 41), .ref (b 42), .ref (b 43), .ref (b 44), .int 0, .ref (b 46), .ref (b 47), .ref (b 48)]))]) [1] (by decide) rfl
      have hFc := va_free (wc := [(b 0, .inr (12, [.int 0, .int 0, .ref (b 2), .ref (b 3), .ref (b 4), .int 0, .int 0, .int 0, .int 0, .ref (b 9), .int 0, .ref (b 11), .ref (b 12), .ref (b 13), .ref (b 14), .ref (b 15), .ref (b 16), .ref (b 17), .ref (b 18), .int 0, .ref (b 20), .int 0, .int 0, .int 0, .ref (b 24), .ref (b 25), .ref (b 26), .int 0, .int 0, .ref (b 29), .ref (b 30), .int 0, .ref (b 32), .ref (b 33), .ref (b 34), .ref (b 35), .ref (b 36), .ref (b 37), .int 0, .int 0, .ref (b 40), .ref (b 41), .ref (b 42), .ref (b 43), .ref (b 44), .int 0, .ref (b 46), .ref (b 47), .ref (b 48)]))]) hD hS hA [1] rfl
      refine va_calli (va_runV (As := [.int x2]) (rest := []) ⟨hx, hb, hml, hown, hts⟩ (c_M_setBound l D dA E b x2 H.size ) (cwV 1 hts (ga_V q699 q700 q697 q278 q698) rfl rfl rfl (by decide +kernel) ⟨(Nat.le_of_ble_eq_true rfl), (Nat.le_of_ble_eq_true rfl)⟩) ⟨pb_blind, va_recv hK hPc (ci := 12) (q0 := 0) rfl rfl, pb_pre hK hPc hDc hZ hS hFc _⟩ rfl rfl hl.1 rfl (lv_room (Nat.le_of_ble_eq_true rfl)) dL_law_2099 ⟨(Nat.le_of_ble_eq_true rfl), (Nat.le_of_ble_eq_true rfl)⟩) hS (fun q _ h => hFc q h) hFc (fun r u t H1 locs ht hvm hw hB hz1 hk1 hS => ?_)
      refine W.widen (k := 66) (n := 11784) (Nat.le_of_ble_eq_true rfl) (Nat.le_of_ble_eq_true rfl) ?_
      obtain ⟨r8, rfl⟩ : ∃ z, z = r := ⟨_, rfl⟩
      obtain ⟨u9, rfl⟩ : ∃ z, z = u := ⟨_, rfl⟩
      have hw10 := hw
      clear hw
      obtain ⟨hP1, hD1⟩ := hB
      rw [ht] at hP1
      obtain ⟨hP, hD⟩ := va_join (wr := [(o, .inl (dA 3, 1, .inr (.inl u4)))]) (w1 := [(b 0, .inr (12, .int u9.1 :: u9.2))]) hP hD [1] [0] rfl rfl (by decide) (by decide) hk1 hFc hP1 hD1
      generalize H1 = H at hP hS ⊢
      have hP : va_P D vwCl [(o, .inl (dA 3, 1, .inr (.inl u4))), (b 0, .inr (12, .int u9.1 :: u9.2))] H := hP
      have hD : va_D A [(o, .inl (dA 3, 1, .inr (.inl u4))), (b 0, .inr (12, .int u9.1 :: u9.2))] := hD
      have hP := hP.sub (ws' := [(b 0, .inr (12, .int u9.1 :: u9.2)), (o, .inl (dA 3, 1, .inr (.inl u4)))]) [1, 0] rfl
      have hD := hD.sub (ws' := [(b 0, .inr (12, .int u9.1 :: u9.2)), (o, .inl (dA 3, 1, .inr (.inl u4)))]) [1, 0] (by decide) rfl
      have hm : u9.1 = 0 ∧ r8 = 0 := by
        rcases hw10 with h9 | h9
        · exact h9.2
        · exact absurd (hq.symm.trans h9.1) (by decide)
      obtain ⟨hm, hv9⟩ := hm
      obtain rfl : r8 = 0 := hv9
      rw [hm] at hP hD
      have hP : va_P D vwCl [(b 0, .inr (12, .int 0 :: u9.2)), (o, .inl (dA 3, 1, .inr (.inl u4)))] H := hP
      have hD : va_D A [(b 0, .inr (12, .int 0 :: u9.2)), (o, .inl (dA 3, 1, .inr (.inl u4)))] := hD
      refine lv_istore (lv' := [(7, .int 0), (6, .int 0), (5, .int 0), (4, .ref od), (3, .ref o), (2, .ref (b 0)), (1, .ref (a 0)), (0, .ref bs)]) hx hb dL_law_2102 hl (by decide) rfl (fun ls hl => ?_)
      refine lv_aload_n hx hb dL_law_2104 rfl (lv_at hl 5 rfl) ?_
      have hPc := hP.sub (ws' := [(b 0, .inr (12, .int 0 :: u9.2))]) [0] rfl
      have hDc := hD.sub (ws' := [(b 0, .inr (12, .int 0 :: u9.2))]) [0] (by decide) rfl
      have hFc := va_free (wc := [(b 0, .inr (12, .int 0 :: u9.2))]) hD hS hA [0] rfl
      refine va_calli (va_runV (As := []) (rest := []) ⟨hx, hb, hml, hown, hts⟩ (c_M_thrown l D dA E (b 0) 0 u9.2 H.size ) (cwV 0 hts (ga_V q470 q471 q468 q278 q469) rfl rfl rfl (by decide +kernel) ⟨(Nat.le_of_ble_eq_true rfl), (Nat.le_of_ble_eq_true rfl)⟩) ⟨pb_blind, va_recv hK hPc (ci := 12) (q0 := 0) rfl rfl, pb_pre hK hPc hDc hZ hS hFc _⟩ rfl rfl hl.1 rfl (lv_room (Nat.le_of_ble_eq_true rfl)) dL_law_2105 ⟨(Nat.le_of_ble_eq_true rfl), (Nat.le_of_ble_eq_true rfl)⟩) hS (fun q _ h => hFc q h) hFc (fun r u t H1 locs ht hvm hw hB hz1 hk1 hS => ?_)
      refine W.widen (k := 66) (n := 11784) (Nat.le_of_ble_eq_true rfl) (Nat.le_of_ble_eq_true rfl) ?_
      obtain ⟨r11, rfl⟩ : ∃ z, z = r := ⟨_, rfl⟩
      obtain ⟨u12, rfl⟩ : ∃ z, z = u := ⟨_, rfl⟩
      have hw13 := hw
      clear hw
      obtain ⟨hP, hD⟩ := jn_drop (wr := [(o, .inl (dA 3, 1, .inr (.inl u4)))]) hP hD [0] [1] rfl rfl (by decide) (by decide) hk1 hFc
      generalize H1 = H at hP hS ⊢
      have hP : va_P D vwCl [(o, .inl (dA 3, 1, .inr (.inl u4)))] H := hP
      have hD : va_D A [(o, .inl (dA 3, 1, .inr (.inl u4)))] := hD
      obtain rfl : r11 = 0 := hw13
      refine lv_iload hx hb dL_law_2108 (lv_at hl 1 rfl) ?_
      refine lv_icmp_eq (tgt := 2115) hx hb dL_law_2110 (by decide) (fun _ => ?_) (fun c14 => absurd (by decide) c14)
      refine lv_iload hx hb dL_law_2115 (lv_at hl 1 rfl) ?_
      refine lv_if_ne (tgt := 2132) hx hb dL_law_2117 (by decide) (fun c15 => absurd (by decide) c15) (fun _ => ?_)
      refine lv_aload_n hx hb dL_law_2120 rfl (lv_at hl 4 rfl) ?_
      refine lv_iconst (v := 0) hx hb dL_law_2121 (by decide) ?_
      refine va_lald hx hb hK hP 0 3 rfl rfl (vi_c (by decide)) dL_law_2122 ?_
      refine lv_topl (fun x16 ex16 => ?_)
      obtain rfl : x16 = 0 := ex16.trans ho
      refine lv_iload hx hb dL_law_2123 (lv_at hl 0 rfl) ?_
      refine lv_i2l (v := 0) hx hb dL_law_2125 (by decide) ?_
      refine W.lcmp hx hb dL_law_2126 ?_
      refine lv_topi (fun x17 ex17 => ?_)
      replace ex17 : x17 = 0 := ex17.trans (by decide)
      subst ex17
      refine lv_if_eq (tgt := 2132) hx hb dL_law_2127 (by decide) (fun _ => ?_) (fun c18 => absurd (by decide) c18)
      refine lv_goto (tgt := 2346) hx hb dL_law_2132 (by decide) ?_
      exact law_tail l C0 rfl (by rw [hAe]; exact hS) (Nat.le_of_ble_eq_true rfl) (Nat.le_of_ble_eq_true rfl) ls (lv_sub hl [7, 2] rfl)
    · obtain rfl : r3 = 1 := hk
      refine lv_istore (lv' := [(6, .int 1), (5, .int 0), (4, .ref od), (3, .ref o), (2, .ref (b 0)), (1, .ref (a 0)), (0, .ref bs)]) hx hb dL_law_2090 hl (by decide) rfl (fun ls hl => ?_)
      refine lv_aload_n hx hb dL_law_2092 rfl (lv_at hl 4 rfl) ?_
      refine lv_aload_n hx hb dL_law_2093 rfl (lv_at hl 6 rfl) ?_
      refine lv_iload hx hb dL_law_2094 (lv_at hl 1 rfl) ?_
      refine lv_iconst (v := 1) hx hb dL_law_2096 (by decide) ?_
      refine lv_iadd hx hb dL_law_2097 ?_
      refine lv_topi (fun x19 ex19 => ?_)
      replace ex19 : x19 = 1 := ex19.trans (by decide)
      subst ex19
      refine va_sld hx hb hX hbl hbA hS (vi_c (by decide)) dL_law_2098 ?_
      refine lv_topi (fun x20 ex20 => ?_)
      obtain rfl : x2 = x20 := ex2.trans ex20.symm
      have hPc := hP.sub (ws' := [(b 0, .inr (12, [.int 0, .int 0, .ref (b 2), .ref (b 3), .ref (b 4), .int 0, .int 0, .int 0, .int 0, .ref (b 9), .int 0, .ref (b 11), .ref (b 12), .ref (b 13), .ref (b 14), .ref (b 15), .ref (b 16), .ref (b 17), .ref (b 18), .int 0, .ref (b 20), .int 0, .int 0, .int 0, .ref (b 24), .ref (b 25), .ref (b 26), .int 0, .int 0, .ref (b 29), .ref (b 30), .int 0, .ref (b 32), .ref (b 33), .ref (b 34), .ref (b 35), .ref (b 36), .ref (b 37), .int 0, .int 0, .ref (b 40), .ref (b 41), .ref (b 42), .ref (b 43), .ref (b 44), .int 0, .ref (b 46), .ref (b 47), .ref (b 48)]))]) [1] rfl
      have hDc := hD.sub (ws' := [(b 0, .inr (12, [.int 0, .int 0, .ref (b 2), .ref (b 3), .ref (b 4), .int 0, .int 0, .int 0, .int 0, .ref (b 9), .int 0, .ref (b 11), .ref (b 12), .ref (b 13), .ref (b 14), .ref (b 15), .ref (b 16), .ref (b 17), .ref (b 18), .int 0, .ref (b 20), .int 0, .int 0, .int 0, .ref (b 24), .ref (b 25), .ref (b 26), .int 0, .int 0, .ref (b 29), .ref (b 30), .int 0, .ref (b 32), .ref (b 33), .ref (b 34), .ref (b 35), .ref (b 36), .ref (b 37), .int 0, .int 0, .ref (b 40), .ref (b 41), .ref (b 42), .ref (b 43), .ref (b 44), .int 0, .ref (b 46), .ref (b 47), .ref (b 48)]))]) [1] (by decide) rfl
      have hFc := va_free (wc := [(b 0, .inr (12, [.int 0, .int 0, .ref (b 2), .ref (b 3), .ref (b 4), .int 0, .int 0, .int 0, .int 0, .ref (b 9), .int 0, .ref (b 11), .ref (b 12), .ref (b 13), .ref (b 14), .ref (b 15), .ref (b 16), .ref (b 17), .ref (b 18), .int 0, .ref (b 20), .int 0, .int 0, .int 0, .ref (b 24), .ref (b 25), .ref (b 26), .int 0, .int 0, .ref (b 29), .ref (b 30), .int 0, .ref (b 32), .ref (b 33), .ref (b 34), .ref (b 35), .ref (b 36), .ref (b 37), .int 0, .int 0, .ref (b 40), .ref (b 41), .ref (b 42), .ref (b 43), .ref (b 44), .int 0, .ref (b 46), .ref (b 47), .ref (b 48)]))]) hD hS hA [1] rfl
      refine va_calli (va_runV (As := [.int x2]) (rest := []) ⟨hx, hb, hml, hown, hts⟩ (c_M_setBound l D dA E b x2 H.size ) (cwV 1 hts (ga_V q699 q700 q697 q278 q698) rfl rfl rfl (by decide +kernel) ⟨(Nat.le_of_ble_eq_true rfl), (Nat.le_of_ble_eq_true rfl)⟩) ⟨pb_blind, va_recv hK hPc (ci := 12) (q0 := 0) rfl rfl, pb_pre hK hPc hDc hZ hS hFc _⟩ rfl rfl hl.1 rfl (lv_room (Nat.le_of_ble_eq_true rfl)) dL_law_2099 ⟨(Nat.le_of_ble_eq_true rfl), (Nat.le_of_ble_eq_true rfl)⟩) hS (fun q _ h => hFc q h) hFc (fun r u t H1 locs ht hvm hw hB hz1 hk1 hS => ?_)
      refine W.widen (k := 66) (n := 11784) (Nat.le_of_ble_eq_true rfl) (Nat.le_of_ble_eq_true rfl) ?_
      obtain ⟨r21, rfl⟩ : ∃ z, z = r := ⟨_, rfl⟩
      obtain ⟨u22, rfl⟩ : ∃ z, z = u := ⟨_, rfl⟩
      have hw23 := hw
      clear hw
      obtain ⟨hP1, hD1⟩ := hB
      rw [ht] at hP1
      obtain ⟨hP, hD⟩ := va_join (wr := [(o, .inl (dA 3, 1, .inr (.inl u4)))]) (w1 := [(b 0, .inr (12, .int u22.1 :: u22.2))]) hP hD [1] [0] rfl rfl (by decide) (by decide) hk1 hFc hP1 hD1
      generalize H1 = H at hP hS ⊢
      have hP : va_P D vwCl [(o, .inl (dA 3, 1, .inr (.inl u4))), (b 0, .inr (12, .int u22.1 :: u22.2))] H := hP
      have hD : va_D A [(o, .inl (dA 3, 1, .inr (.inl u4))), (b 0, .inr (12, .int u22.1 :: u22.2))] := hD
      have hP := hP.sub (ws' := [(b 0, .inr (12, .int u22.1 :: u22.2)), (o, .inl (dA 3, 1, .inr (.inl u4)))]) [1, 0] rfl
      have hD := hD.sub (ws' := [(b 0, .inr (12, .int u22.1 :: u22.2)), (o, .inl (dA 3, 1, .inr (.inl u4)))]) [1, 0] (by decide) rfl
      have hm : u22.1 = 1 := by
        rcases hw23 with h9 | h9
        · exact absurd (hq.symm.trans h9.1) (by decide)
        · exact h9.2
      rw [hm] at hP hD
      have hP : va_P D vwCl [(b 0, .inr (12, .int 1 :: u22.2)), (o, .inl (dA 3, 1, .inr (.inl u4)))] H := hP
      have hD : va_D A [(b 0, .inr (12, .int 1 :: u22.2)), (o, .inl (dA 3, 1, .inr (.inl u4)))] := hD
      refine lv_istore (lv' := [(7, .int r21), (6, .int 1), (5, .int 0), (4, .ref od), (3, .ref o), (2, .ref (b 0)), (1, .ref (a 0)), (0, .ref bs)]) hx hb dL_law_2102 hl (by decide) rfl (fun ls hl => ?_)
      refine lv_aload_n hx hb dL_law_2104 rfl (lv_at hl 5 rfl) ?_
      have hPc := hP.sub (ws' := [(b 0, .inr (12, .int 1 :: u22.2))]) [0] rfl
      have hDc := hD.sub (ws' := [(b 0, .inr (12, .int 1 :: u22.2))]) [0] (by decide) rfl
      have hFc := va_free (wc := [(b 0, .inr (12, .int 1 :: u22.2))]) hD hS hA [0] rfl
      refine va_calli (va_runV (As := []) (rest := []) ⟨hx, hb, hml, hown, hts⟩ (c_M_thrown l D dA E (b 0) 1 u22.2 H.size ) (cwV 0 hts (ga_V q470 q471 q468 q278 q469) rfl rfl rfl (by decide +kernel) ⟨(Nat.le_of_ble_eq_true rfl), (Nat.le_of_ble_eq_true rfl)⟩) ⟨pb_blind, va_recv hK hPc (ci := 12) (q0 := 0) rfl rfl, pb_pre hK hPc hDc hZ hS hFc _⟩ rfl rfl hl.1 rfl (lv_room (Nat.le_of_ble_eq_true rfl)) dL_law_2105 ⟨(Nat.le_of_ble_eq_true rfl), (Nat.le_of_ble_eq_true rfl)⟩) hS (fun q _ h => hFc q h) hFc (fun r u t H1 locs ht hvm hw hB hz1 hk1 hS => ?_)
      refine W.widen (k := 66) (n := 11784) (Nat.le_of_ble_eq_true rfl) (Nat.le_of_ble_eq_true rfl) ?_
      obtain ⟨r24, rfl⟩ : ∃ z, z = r := ⟨_, rfl⟩
      obtain ⟨u25, rfl⟩ : ∃ z, z = u := ⟨_, rfl⟩
      have hw26 := hw
      clear hw
      obtain ⟨hP, hD⟩ := jn_drop (wr := [(o, .inl (dA 3, 1, .inr (.inl u4)))]) hP hD [0] [1] rfl rfl (by decide) (by decide) hk1 hFc
      generalize H1 = H at hP hS ⊢
      have hP : va_P D vwCl [(o, .inl (dA 3, 1, .inr (.inl u4)))] H := hP
      have hD : va_D A [(o, .inl (dA 3, 1, .inr (.inl u4)))] := hD
      obtain rfl : r24 = 1 := hw26
      refine lv_iload hx hb dL_law_2108 (lv_at hl 1 rfl) ?_
      refine lv_icmp_eq (tgt := 2115) hx hb dL_law_2110 (by decide) (fun _ => ?_) (fun c27 => absurd (by decide) c27)
      refine lv_iload hx hb dL_law_2115 (lv_at hl 1 rfl) ?_
      refine lv_if_ne (tgt := 2132) hx hb dL_law_2117 (by decide) (fun _ => ?_) (fun c28 => absurd c28 (by decide))
      refine lv_goto (tgt := 2346) hx hb dL_law_2132 (by decide) ?_
      exact law_tail l C0 rfl (by rw [hAe]; exact hS) (Nat.le_of_ble_eq_true rfl) (Nat.le_of_ble_eq_true rfl) ls (lv_sub hl [7, 2] rfl)

set_option maxHeartbeats 4000000 in
set_option maxRecDepth 100000 in
/-- the law at turned -/
theorem law_33 {p : Program} {e : Env} {s : State} {m : MethodId} {below : List Frame} {meth : Method} {c : Code} (l : Launch) (hlt : l.stackTraces = false) {bs L : Nat} {xs : Nat → Int32} (C0 : lw_At p s m meth c bs L xs) (hL6 : L = 6) (D : va_G) (dA : Nat → ClassId) (E : Nat) (A : Nat → Prop) (hAe : (fun q : Nat => s.heap.size ≤ q) = A) (a b : Nat → Nat) (o od : Nat) (hK : va_K D vwCl (TY dA) s) (hZ : ZZ dA E A s s.heap) (H : Heap) (locs : List Loc) (hP : va_P D vwCl [(a 0, .inr (11, [.ref (a 1), .ref (a 2), .ref (a 3), .ref (a 4), .ref (a 5), .ref (a 10), .ref (a 15), .ref (a 17), .null, .int 0, .int 0, .int 0])), (a 3, .inr (2, [.int 0, .ref E, .int 0])), (o, .inl (dA 3, 1, .inr (.inl (fun _ => 0)))), (b 0, .inr (12, [.int 0, .int 0, .ref (b 2), .ref (b 3), .ref (b 4), .int 0, .int 0, .int 0, .int 0, .ref (b 9), .int 0, .ref (b 11), .ref (b 12), .ref (b 13), .ref (b 14), .ref (b 15), .ref (b 16), .ref (b 17), .ref (b 18), .int 0, .ref (b 20), .int 0, .int 0, .int 0, .ref (b 24), .ref (b 25), .ref (b 26), .int 0, .int 0, .ref (b 29), .ref (b 30), .int 0, .ref (b 32), .ref (b 33), .ref (b 34), .ref (b 35), .ref (b 36), .ref (b 37), .int 0, .int 0, .ref (b 40), .ref (b 41), .ref (b 42), .ref (b 43), .ref (b 44), .int 0, .ref (b 46), .ref (b 47), .ref (b 48)]))] H) (hD : va_D A [(a 0, .inr (11, [.ref (a 1), .ref (a 2), .ref (a 3), .ref (a 4), .ref (a 5), .ref (a 10), .ref (a 15), .ref (a 17), .null, .int 0, .int 0, .int 0])), (a 3, .inr (2, [.int 0, .ref E, .int 0])), (o, .inl (dA 3, 1, .inr (.inl (fun _ => 0)))), (b 0, .inr (12, [.int 0, .int 0, .ref (b 2), .ref (b 3), .ref (b 4), .int 0, .int 0, .int 0, .int 0, .ref (b 9), .int 0, .ref (b 11), .ref (b 12), .ref (b 13), .ref (b 14), .ref (b 15), .ref (b 16), .ref (b 17), .ref (b 18), .int 0, .ref (b 20), .int 0, .int 0, .int 0, .ref (b 24), .ref (b 25), .ref (b 26), .int 0, .int 0, .ref (b 29), .ref (b 30), .int 0, .ref (b 32), .ref (b 33), .ref (b 34), .ref (b 35), .ref (b 36), .ref (b 37), .int 0, .int 0, .ref (b 40), .ref (b 41), .ref (b 42), .ref (b 43), .ref (b 44), .int 0, .ref (b 46), .ref (b 47), .ref (b 48)]))]) (hS : va_S A s.heap H locs) (ls : Array Slot) (hl : lv_has ls 9 [(5, .int 0), (4, .ref od), (3, .ref o), (2, .ref (b 0)), (1, .ref (a 0)), (0, .ref bs)]) : W p l e room_1 s m #[Value.ref bs] below meth c H locs 65 11778 (lw_Z below #[Value.ref bs] s) (F0 m 2135 ls []) := by
  subst hL6
  obtain ⟨hx, hb, hr, hml, hown, hts0, hX, hbl, hlocks, hgv⟩ := id C0
  have hts : ∀ w ∈ WA, w.before #[Value.ref bs] s = true := fun w h => hts0 w (WA_tbl h)
  have hA : ∀ q : Nat, s.heap.size ≤ q → A q := fun q h => by rw [← hAe]; exact h
  have hbA : ¬ A bs := by rw [← hAe]; exact Nat.not_le.mpr hbl
  refine lv_aload_n hx hb dL_law_2135 rfl (lv_at hl 4 rfl) ?_
  refine lv_aload_n hx hb dL_law_2136 rfl (lv_at hl 5 rfl) ?_
  refine lv_iload hx hb dL_law_2137 (lv_at hl 0 rfl) ?_
  refine lv_iconst (v := 1) hx hb dL_law_2139 (by decide) ?_
  refine lv_iadd hx hb dL_law_2140 ?_
  refine lv_topi (fun x1 ex1 => ?_)
  replace ex1 : x1 = 1 := ex1.trans (by decide)
  subst ex1
  refine va_sld hx hb hX hbl hbA hS (vi_c (by decide)) dL_law_2141 ?_
  refine lv_topi (fun x2 ex2 => ?_)
  refine lv_aload_n hx hb dL_law_2142 rfl (lv_at hl 5 rfl) ?_
  refine lv_iload hx hb dL_law_2143 (lv_at hl 0 rfl) ?_
  refine lv_iconst (v := 2) hx hb dL_law_2145 (by decide) ?_
  refine lv_iadd hx hb dL_law_2146 ?_
  refine lv_topi (fun x3 ex3 => ?_)
  replace ex3 : x3 = 2 := ex3.trans (by decide)
  subst ex3
  refine va_sld hx hb hX hbl hbA hS (vi_c (by decide)) dL_law_2147 ?_
  refine lv_topi (fun x4 ex4 => ?_)
  refine lv_aload_n hx hb dL_law_2148 rfl (lv_at hl 2 rfl) ?_
  have hPc := hP.sub (ws' := [(a 0, .inr (11, [.ref (a 1), .ref (a 2), .ref (a 3), .ref (a 4), .ref (a 5), .ref (a 10), .ref (a 15), .ref (a 17), .null, .int 0, .int 0, .int 0])), (a 3, .inr (2, [.int 0, .ref E, .int 0])), (o, .inl (dA 3, 1, .inr (.inl (fun _ => 0))))]) [0, 1, 2] rfl
  have hDc := hD.sub (ws' := [(a 0, .inr (11, [.ref (a 1), .ref (a 2), .ref (a 3), .ref (a 4), .ref (a 5), .ref (a 10), .ref (a 15), .ref (a 17), .null, .int 0, .int 0, .int 0])), (a 3, .inr (2, [.int 0, .ref E, .int 0])), (o, .inl (dA 3, 1, .inr (.inl (fun _ => 0))))]) [0, 1, 2] (by decide) rfl
  have hFc := va_free (wc := [(a 0, .inr (11, [.ref (a 1), .ref (a 2), .ref (a 3), .ref (a 4), .ref (a 5), .ref (a 10), .ref (a 15), .ref (a 17), .null, .int 0, .int 0, .int 0])), (a 3, .inr (2, [.int 0, .ref E, .int 0])), (o, .inl (dA 3, 1, .inr (.inl (fun _ => 0))))]) hD hS hA [0, 1, 2] rfl
  refine vx_calli (vx_runSX (As := [.ref (a 0), .int x2, .int x4, .ref o]) (rest := []) ⟨hx, hb, hml, hown, hts⟩ (c_L_turned l hlt D dA E a o (fun _ => 0) x2 x4 H.size ) (vx_cwSW 4 hts (ga_S q702 q703 q463 q701) rfl rfl rfl (by decide +kernel) ⟨(Nat.le_of_ble_eq_true rfl), (Nat.le_of_ble_eq_true rfl)⟩) ⟨pb_blind, pb_pre hK hPc hDc hZ hS hFc _⟩ rfl rfl hl.1 rfl (lv_room (Nat.le_of_ble_eq_true rfl)) dL_law_2149 ⟨(Nat.le_of_ble_eq_true rfl), (Nat.le_of_ble_eq_true rfl)⟩) hS (fun q _ h => hFc q h) hFc (fun q _ h => hFc q h) (fun E9 ce q9 k t H1 locs ht hvm hpx hBX hz1 hk1 hS hce hcv hcl => ?_) (fun r u t H1 locs ht hvm hw hB hz1 hk1 hS => ?_)
  · exact hpx.elim
  · refine W.widen (k := 66) (n := 11784) (Nat.le_of_ble_eq_true rfl) (Nat.le_of_ble_eq_true rfl) ?_
    obtain ⟨r5, rfl⟩ : ∃ z, z = r := ⟨_, rfl⟩
    obtain ⟨u6, rfl⟩ : ∃ z, z = u := ⟨_, rfl⟩
    have hw7 := hw
    clear hw
    obtain ⟨hP1, hD1⟩ := hB
    rw [ht] at hP1
    obtain ⟨hP, hD⟩ := va_join (wr := [(b 0, .inr (12, [.int 0, .int 0, .ref (b 2), .ref (b 3), .ref (b 4), .int 0, .int 0, .int 0, .int 0, .ref (b 9), .int 0, .ref (b 11), .ref (b 12), .ref (b 13), .ref (b 14), .ref (b 15), .ref (b 16), .ref (b 17), .ref (b 18), .int 0, .ref (b 20), .int 0, .int 0, .int 0, .ref (b 24), .ref (b 25), .ref (b 26), .int 0, .int 0, .ref (b 29), .ref (b 30), .int 0, .ref (b 32), .ref (b 33), .ref (b 34), .ref (b 35), .ref (b 36), .ref (b 37), .int 0, .int 0, .ref (b 40), .ref (b 41), .ref (b 42), .ref (b 43), .ref (b 44), .int 0, .ref (b 46), .ref (b 47), .ref (b 48)]))]) (w1 := [(o, .inl (dA 3, 1, .inr (.inl u6)))]) hP hD [0, 1, 2] [3] rfl rfl (by decide) (by decide) hk1 hFc hP1 hD1
    generalize H1 = H at hP hS ⊢
    have hP : va_P D vwCl [(b 0, .inr (12, [.int 0, .int 0, .ref (b 2), .ref (b 3), .ref (b 4), .int 0, .int 0, .int 0, .int 0, .ref (b 9), .int 0, .ref (b 11), .ref (b 12), .ref (b 13), .ref (b 14), .ref (b 15), .ref (b 16), .ref (b 17), .ref (b 18), .int 0, .ref (b 20), .int 0, .int 0, .int 0, .ref (b 24), .ref (b 25), .ref (b 26), .int 0, .int 0, .ref (b 29), .ref (b 30), .int 0, .ref (b 32), .ref (b 33), .ref (b 34), .ref (b 35), .ref (b 36), .ref (b 37), .int 0, .int 0, .ref (b 40), .ref (b 41), .ref (b 42), .ref (b 43), .ref (b 44), .int 0, .ref (b 46), .ref (b 47), .ref (b 48)])), (o, .inl (dA 3, 1, .inr (.inl u6)))] H := hP
    have hD : va_D A [(b 0, .inr (12, [.int 0, .int 0, .ref (b 2), .ref (b 3), .ref (b 4), .int 0, .int 0, .int 0, .int 0, .ref (b 9), .int 0, .ref (b 11), .ref (b 12), .ref (b 13), .ref (b 14), .ref (b 15), .ref (b 16), .ref (b 17), .ref (b 18), .int 0, .ref (b 20), .int 0, .int 0, .int 0, .ref (b 24), .ref (b 25), .ref (b 26), .int 0, .int 0, .ref (b 29), .ref (b 30), .int 0, .ref (b 32), .ref (b 33), .ref (b 34), .ref (b 35), .ref (b 36), .ref (b 37), .int 0, .int 0, .ref (b 40), .ref (b 41), .ref (b 42), .ref (b 43), .ref (b 44), .int 0, .ref (b 46), .ref (b 47), .ref (b 48)])), (o, .inl (dA 3, 1, .inr (.inl u6)))] := hD
    have hP := hP.sub (ws' := [(o, .inl (dA 3, 1, .inr (.inl u6))), (b 0, .inr (12, [.int 0, .int 0, .ref (b 2), .ref (b 3), .ref (b 4), .int 0, .int 0, .int 0, .int 0, .ref (b 9), .int 0, .ref (b 11), .ref (b 12), .ref (b 13), .ref (b 14), .ref (b 15), .ref (b 16), .ref (b 17), .ref (b 18), .int 0, .ref (b 20), .int 0, .int 0, .int 0, .ref (b 24), .ref (b 25), .ref (b 26), .int 0, .int 0, .ref (b 29), .ref (b 30), .int 0, .ref (b 32), .ref (b 33), .ref (b 34), .ref (b 35), .ref (b 36), .ref (b 37), .int 0, .int 0, .ref (b 40), .ref (b 41), .ref (b 42), .ref (b 43), .ref (b 44), .int 0, .ref (b 46), .ref (b 47), .ref (b 48)]))]) [1, 0] rfl
    have hD := hD.sub (ws' := [(o, .inl (dA 3, 1, .inr (.inl u6))), (b 0, .inr (12, [.int 0, .int 0, .ref (b 2), .ref (b 3), .ref (b 4), .int 0, .int 0, .int 0, .int 0, .ref (b 9), .int 0, .ref (b 11), .ref (b 12), .ref (b 13), .ref (b 14), .ref (b 15), .ref (b 16), .ref (b 17), .ref (b 18), .int 0, .ref (b 20), .int 0, .int 0, .int 0, .ref (b 24), .ref (b 25), .ref (b 26), .int 0, .int 0, .ref (b 29), .ref (b 30), .int 0, .ref (b 32), .ref (b 33), .ref (b 34), .ref (b 35), .ref (b 36), .ref (b 37), .int 0, .int 0, .ref (b 40), .ref (b 41), .ref (b 42), .ref (b 43), .ref (b 44), .int 0, .ref (b 46), .ref (b 47), .ref (b 48)]))]) [1, 0] (by decide) rfl
    have hk := hw7
    obtain rfl : r5 = 1 := hk
    refine lv_istore (lv' := [(6, .int 1), (5, .int 0), (4, .ref od), (3, .ref o), (2, .ref (b 0)), (1, .ref (a 0)), (0, .ref bs)]) hx hb dL_law_2152 hl (by decide) rfl (fun ls hl => ?_)
    refine lv_aload_n hx hb dL_law_2154 rfl (lv_at hl 4 rfl) ?_
    refine lv_aload_n hx hb dL_law_2155 rfl (lv_at hl 6 rfl) ?_
    refine lv_iload hx hb dL_law_2156 (lv_at hl 1 rfl) ?_
    refine lv_iconst (v := 1) hx hb dL_law_2158 (by decide) ?_
    refine lv_iadd hx hb dL_law_2159 ?_
    refine lv_topi (fun x8 ex8 => ?_)
    replace ex8 : x8 = 1 := ex8.trans (by decide)
    subst ex8
    refine va_sld hx hb hX hbl hbA hS (vi_c (by decide)) dL_law_2160 ?_
    refine lv_topi (fun x9 ex9 => ?_)
    obtain rfl : x2 = x9 := ex2.trans ex9.symm
    refine lv_aload_n hx hb dL_law_2161 rfl (lv_at hl 6 rfl) ?_
    refine lv_iload hx hb dL_law_2162 (lv_at hl 1 rfl) ?_
    refine lv_iconst (v := 2) hx hb dL_law_2164 (by decide) ?_
    refine lv_iadd hx hb dL_law_2165 ?_
    refine lv_topi (fun x10 ex10 => ?_)
    replace ex10 : x10 = 2 := ex10.trans (by decide)
    subst ex10
    refine va_sld hx hb hX hbl hbA hS (vi_c (by decide)) dL_law_2166 ?_
    refine lv_topi (fun x11 ex11 => ?_)
    obtain rfl : x4 = x11 := ex4.trans ex11.symm
    have hPc := hP.sub (ws' := [(b 0, .inr (12, [.int 0, .int 0, .ref (b 2), .ref (b 3), .ref (b 4), .int 0, .int 0, .int 0, .int 0, .ref (b 9), .int 0, .ref (b 11), .ref (b 12), .ref (b 13), .ref (b 14), .ref (b 15), .ref (b 16), .ref (b 17), .ref (b 18), .int 0, .ref (b 20), .int 0, .int 0, .int 0, .ref (b 24), .ref (b 25), .ref (b 26), .int 0, .int 0, .ref (b 29), .ref (b 30), .int 0, .ref (b 32), .ref (b 33), .ref (b 34), .ref (b 35), .ref (b 36), .ref (b 37), .int 0, .int 0, .ref (b 40), .ref (b 41), .ref (b 42), .ref (b 43), .ref (b 44), .int 0, .ref (b 46), .ref (b 47), .ref (b 48)]))]) [1] rfl
    have hDc := hD.sub (ws' := [(b 0, .inr (12, [.int 0, .int 0, .ref (b 2), .ref (b 3), .ref (b 4), .int 0, .int 0, .int 0, .int 0, .ref (b 9), .int 0, .ref (b 11), .ref (b 12), .ref (b 13), .ref (b 14), .ref (b 15), .ref (b 16), .ref (b 17), .ref (b 18), .int 0, .ref (b 20), .int 0, .int 0, .int 0, .ref (b 24), .ref (b 25), .ref (b 26), .int 0, .int 0, .ref (b 29), .ref (b 30), .int 0, .ref (b 32), .ref (b 33), .ref (b 34), .ref (b 35), .ref (b 36), .ref (b 37), .int 0, .int 0, .ref (b 40), .ref (b 41), .ref (b 42), .ref (b 43), .ref (b 44), .int 0, .ref (b 46), .ref (b 47), .ref (b 48)]))]) [1] (by decide) rfl
    have hFc := va_free (wc := [(b 0, .inr (12, [.int 0, .int 0, .ref (b 2), .ref (b 3), .ref (b 4), .int 0, .int 0, .int 0, .int 0, .ref (b 9), .int 0, .ref (b 11), .ref (b 12), .ref (b 13), .ref (b 14), .ref (b 15), .ref (b 16), .ref (b 17), .ref (b 18), .int 0, .ref (b 20), .int 0, .int 0, .int 0, .ref (b 24), .ref (b 25), .ref (b 26), .int 0, .int 0, .ref (b 29), .ref (b 30), .int 0, .ref (b 32), .ref (b 33), .ref (b 34), .ref (b 35), .ref (b 36), .ref (b 37), .int 0, .int 0, .ref (b 40), .ref (b 41), .ref (b 42), .ref (b 43), .ref (b 44), .int 0, .ref (b 46), .ref (b 47), .ref (b 48)]))]) hD hS hA [1] rfl
    refine va_calli (va_runV (As := [.int x2, .int x4]) (rest := []) ⟨hx, hb, hml, hown, hts⟩ (c_M_turned l D dA E b x2 x4 H.size ) (cwV 2 hts (ga_V q706 q707 q704 q278 q705) rfl rfl rfl (by decide +kernel) ⟨(Nat.le_of_ble_eq_true rfl), (Nat.le_of_ble_eq_true rfl)⟩) ⟨pb_blind, va_recv hK hPc (ci := 12) (q0 := 0) rfl rfl, pb_pre hK hPc hDc hZ hS hFc _⟩ rfl rfl hl.1 rfl (lv_room (Nat.le_of_ble_eq_true rfl)) dL_law_2167 ⟨(Nat.le_of_ble_eq_true rfl), (Nat.le_of_ble_eq_true rfl)⟩) hS (fun q _ h => hFc q h) hFc (fun r u t H1 locs ht hvm hw hB hz1 hk1 hS => ?_)
    refine W.widen (k := 66) (n := 11784) (Nat.le_of_ble_eq_true rfl) (Nat.le_of_ble_eq_true rfl) ?_
    obtain ⟨r12, rfl⟩ : ∃ z, z = r := ⟨_, rfl⟩
    obtain ⟨u13, rfl⟩ : ∃ z, z = u := ⟨_, rfl⟩
    have hw14 := hw
    clear hw
    obtain ⟨hP1, hD1⟩ := hB
    rw [ht] at hP1
    obtain ⟨hP, hD⟩ := va_join (wr := [(o, .inl (dA 3, 1, .inr (.inl u6)))]) (w1 := [(b 0, .inr (12, .int u13.1 :: u13.2))]) hP hD [1] [0] rfl rfl (by decide) (by decide) hk1 hFc hP1 hD1
    generalize H1 = H at hP hS ⊢
    have hP : va_P D vwCl [(o, .inl (dA 3, 1, .inr (.inl u6))), (b 0, .inr (12, .int u13.1 :: u13.2))] H := hP
    have hD : va_D A [(o, .inl (dA 3, 1, .inr (.inl u6))), (b 0, .inr (12, .int u13.1 :: u13.2))] := hD
    have hP := hP.sub (ws' := [(b 0, .inr (12, .int u13.1 :: u13.2)), (o, .inl (dA 3, 1, .inr (.inl u6)))]) [1, 0] rfl
    have hD := hD.sub (ws' := [(b 0, .inr (12, .int u13.1 :: u13.2)), (o, .inl (dA 3, 1, .inr (.inl u6)))]) [1, 0] (by decide) rfl
    have hm : u13.1 = 1 := hw14
    rw [hm] at hP hD
    have hP : va_P D vwCl [(b 0, .inr (12, .int 1 :: u13.2)), (o, .inl (dA 3, 1, .inr (.inl u6)))] H := hP
    have hD : va_D A [(b 0, .inr (12, .int 1 :: u13.2)), (o, .inl (dA 3, 1, .inr (.inl u6)))] := hD
    refine lv_istore (lv' := [(7, .int r12), (6, .int 1), (5, .int 0), (4, .ref od), (3, .ref o), (2, .ref (b 0)), (1, .ref (a 0)), (0, .ref bs)]) hx hb dL_law_2170 hl (by decide) rfl (fun ls hl => ?_)
    refine lv_aload_n hx hb dL_law_2172 rfl (lv_at hl 5 rfl) ?_
    have hPc := hP.sub (ws' := [(b 0, .inr (12, .int 1 :: u13.2))]) [0] rfl
    have hDc := hD.sub (ws' := [(b 0, .inr (12, .int 1 :: u13.2))]) [0] (by decide) rfl
    have hFc := va_free (wc := [(b 0, .inr (12, .int 1 :: u13.2))]) hD hS hA [0] rfl
    refine va_calli (va_runV (As := []) (rest := []) ⟨hx, hb, hml, hown, hts⟩ (c_M_thrown l D dA E (b 0) 1 u13.2 H.size ) (cwV 0 hts (ga_V q470 q471 q468 q278 q469) rfl rfl rfl (by decide +kernel) ⟨(Nat.le_of_ble_eq_true rfl), (Nat.le_of_ble_eq_true rfl)⟩) ⟨pb_blind, va_recv hK hPc (ci := 12) (q0 := 0) rfl rfl, pb_pre hK hPc hDc hZ hS hFc _⟩ rfl rfl hl.1 rfl (lv_room (Nat.le_of_ble_eq_true rfl)) dL_law_2173 ⟨(Nat.le_of_ble_eq_true rfl), (Nat.le_of_ble_eq_true rfl)⟩) hS (fun q _ h => hFc q h) hFc (fun r u t H1 locs ht hvm hw hB hz1 hk1 hS => ?_)
    refine W.widen (k := 66) (n := 11784) (Nat.le_of_ble_eq_true rfl) (Nat.le_of_ble_eq_true rfl) ?_
    obtain ⟨r15, rfl⟩ : ∃ z, z = r := ⟨_, rfl⟩
    obtain ⟨u16, rfl⟩ : ∃ z, z = u := ⟨_, rfl⟩
    have hw17 := hw
    clear hw
    obtain ⟨hP, hD⟩ := jn_drop (wr := [(o, .inl (dA 3, 1, .inr (.inl u6)))]) hP hD [0] [1] rfl rfl (by decide) (by decide) hk1 hFc
    generalize H1 = H at hP hS ⊢
    have hP : va_P D vwCl [(o, .inl (dA 3, 1, .inr (.inl u6)))] H := hP
    have hD : va_D A [(o, .inl (dA 3, 1, .inr (.inl u6)))] := hD
    obtain rfl : r15 = 1 := hw17
    refine lv_iload hx hb dL_law_2176 (lv_at hl 1 rfl) ?_
    refine lv_icmp_eq (tgt := 2183) hx hb dL_law_2178 (by decide) (fun _ => ?_) (fun c18 => absurd (by decide) c18)
    refine lv_iload hx hb dL_law_2183 (lv_at hl 1 rfl) ?_
    refine lv_if_ne (tgt := 2200) hx hb dL_law_2185 (by decide) (fun _ => ?_) (fun c19 => absurd c19 (by decide))
    refine lv_goto (tgt := 2346) hx hb dL_law_2200 (by decide) ?_
    exact law_tail l C0 rfl (by rw [hAe]; exact hS) (Nat.le_of_ble_eq_true rfl) (Nat.le_of_ble_eq_true rfl) ls (lv_sub hl [7, 2] rfl)

set_option maxHeartbeats 4000000 in
set_option maxRecDepth 100000 in
/-- the law at removedShare -/
theorem law_34 {p : Program} {e : Env} {s : State} {m : MethodId} {below : List Frame} {meth : Method} {c : Code} (l : Launch) (hlt : l.stackTraces = false) {bs L : Nat} {xs : Nat → Int32} (C0 : lw_At p s m meth c bs L xs) (hL6 : L = 6) (D : va_G) (dA : Nat → ClassId) (E : Nat) (A : Nat → Prop) (hAe : (fun q : Nat => s.heap.size ≤ q) = A) (a b : Nat → Nat) (o od : Nat) (hK : va_K D vwCl (TY dA) s) (hZ : ZZ dA E A s s.heap) (H : Heap) (locs : List Loc) (hP : va_P D vwCl [(a 0, .inr (11, [.ref (a 1), .ref (a 2), .ref (a 3), .ref (a 4), .ref (a 5), .ref (a 10), .ref (a 15), .ref (a 17), .null, .int 0, .int 0, .int 0])), (a 5, .inr (7, [.ref (a 6), .ref (a 8), .int 0, .int 0])), (od, .inl (dA 4, 1, .inr (.inr (.inr (.inl (fun _ => 0)))))), (b 0, .inr (12, [.int 0, .int 0, .ref (b 2), .ref (b 3), .ref (b 4), .int 0, .int 0, .int 0, .int 0, .ref (b 9), .int 0, .ref (b 11), .ref (b 12), .ref (b 13), .ref (b 14), .ref (b 15), .ref (b 16), .ref (b 17), .ref (b 18), .int 0, .ref (b 20), .int 0, .int 0, .int 0, .ref (b 24), .ref (b 25), .ref (b 26), .int 0, .int 0, .ref (b 29), .ref (b 30), .int 0, .ref (b 32), .ref (b 33), .ref (b 34), .ref (b 35), .ref (b 36), .ref (b 37), .int 0, .int 0, .ref (b 40), .ref (b 41), .ref (b 42), .ref (b 43), .ref (b 44), .int 0, .ref (b 46), .ref (b 47), .ref (b 48)]))] H) (hD : va_D A [(a 0, .inr (11, [.ref (a 1), .ref (a 2), .ref (a 3), .ref (a 4), .ref (a 5), .ref (a 10), .ref (a 15), .ref (a 17), .null, .int 0, .int 0, .int 0])), (a 5, .inr (7, [.ref (a 6), .ref (a 8), .int 0, .int 0])), (od, .inl (dA 4, 1, .inr (.inr (.inr (.inl (fun _ => 0)))))), (b 0, .inr (12, [.int 0, .int 0, .ref (b 2), .ref (b 3), .ref (b 4), .int 0, .int 0, .int 0, .int 0, .ref (b 9), .int 0, .ref (b 11), .ref (b 12), .ref (b 13), .ref (b 14), .ref (b 15), .ref (b 16), .ref (b 17), .ref (b 18), .int 0, .ref (b 20), .int 0, .int 0, .int 0, .ref (b 24), .ref (b 25), .ref (b 26), .int 0, .int 0, .ref (b 29), .ref (b 30), .int 0, .ref (b 32), .ref (b 33), .ref (b 34), .ref (b 35), .ref (b 36), .ref (b 37), .int 0, .int 0, .ref (b 40), .ref (b 41), .ref (b 42), .ref (b 43), .ref (b 44), .int 0, .ref (b 46), .ref (b 47), .ref (b 48)]))]) (hS : va_S A s.heap H locs) (ls : Array Slot) (hl : lv_has ls 9 [(5, .int 0), (4, .ref od), (3, .ref o), (2, .ref (b 0)), (1, .ref (a 0)), (0, .ref bs)]) : W p l e room_1 s m #[Value.ref bs] below meth c H locs 65 11778 (lw_Z below #[Value.ref bs] s) (F0 m 2203 ls []) := by
  subst hL6
  obtain ⟨hx, hb, hr, hml, hown, hts0, hX, hbl, hlocks, hgv⟩ := id C0
  have hts : ∀ w ∈ WA, w.before #[Value.ref bs] s = true := fun w h => hts0 w (WA_tbl h)
  have hA : ∀ q : Nat, s.heap.size ≤ q → A q := fun q h => by rw [← hAe]; exact h
  have hbA : ¬ A bs := by rw [← hAe]; exact Nat.not_le.mpr hbl
  refine lv_aload_n hx hb dL_law_2203 rfl (lv_at hl 4 rfl) ?_
  refine lv_aload hx hb dL_law_2204 (lv_at hl 1 rfl) ?_
  have hPc := hP.sub (ws' := [(a 0, .inr (11, [.ref (a 1), .ref (a 2), .ref (a 3), .ref (a 4), .ref (a 5), .ref (a 10), .ref (a 15), .ref (a 17), .null, .int 0, .int 0, .int 0])), (a 5, .inr (7, [.ref (a 6), .ref (a 8), .int 0, .int 0])), (od, .inl (dA 4, 1, .inr (.inr (.inr (.inl (fun _ => 0))))))]) [0, 1, 2] rfl
  have hDc := hD.sub (ws' := [(a 0, .inr (11, [.ref (a 1), .ref (a 2), .ref (a 3), .ref (a 4), .ref (a 5), .ref (a 10), .ref (a 15), .ref (a 17), .null, .int 0, .int 0, .int 0])), (a 5, .inr (7, [.ref (a 6), .ref (a 8), .int 0, .int 0])), (od, .inl (dA 4, 1, .inr (.inr (.inr (.inl (fun _ => 0))))))]) [0, 1, 2] (by decide) rfl
  have hFc := va_free (wc := [(a 0, .inr (11, [.ref (a 1), .ref (a 2), .ref (a 3), .ref (a 4), .ref (a 5), .ref (a 10), .ref (a 15), .ref (a 17), .null, .int 0, .int 0, .int 0])), (a 5, .inr (7, [.ref (a 6), .ref (a 8), .int 0, .int 0])), (od, .inl (dA 4, 1, .inr (.inr (.inr (.inl (fun _ => 0))))))]) hD hS hA [0, 1, 2] rfl
  refine vx_calli (vx_runSX (As := [.ref (a 0), .ref od]) (rest := []) ⟨hx, hb, hml, hown, hts⟩ (c_L_removedShare l hlt D dA E a od (fun _ => 0)  H.size ) (vx_cwSW 2 hts (ga_S q709 q710 q463 q708) rfl rfl rfl (by decide +kernel) ⟨(Nat.le_of_ble_eq_true rfl), (Nat.le_of_ble_eq_true rfl)⟩) ⟨pb_blind, pb_pre hK hPc hDc hZ hS hFc _⟩ rfl rfl hl.1 rfl (lv_room (Nat.le_of_ble_eq_true rfl)) dL_law_2206 ⟨(Nat.le_of_ble_eq_true rfl), (Nat.le_of_ble_eq_true rfl)⟩) hS (fun q _ h => hFc q h) hFc (fun q _ h => hFc q h) (fun E9 ce q9 k t H1 locs ht hvm hpx hBX hz1 hk1 hS hce hcv hcl => ?_) (fun r u t H1 locs ht hvm hw hB hz1 hk1 hS => ?_)
  · exact hpx.elim
  · refine W.widen (k := 66) (n := 11784) (Nat.le_of_ble_eq_true rfl) (Nat.le_of_ble_eq_true rfl) ?_
    obtain ⟨r1, rfl⟩ : ∃ z, z = r := ⟨_, rfl⟩
    obtain ⟨u2, rfl⟩ : ∃ z, z = u := ⟨_, rfl⟩
    have hw3 := hw
    clear hw
    obtain ⟨hP1, hD1⟩ := hB
    rw [ht] at hP1
    obtain ⟨hP, hD⟩ := va_join (wr := [(b 0, .inr (12, [.int 0, .int 0, .ref (b 2), .ref (b 3), .ref (b 4), .int 0, .int 0, .int 0, .int 0, .ref (b 9), .int 0, .ref (b 11), .ref (b 12), .ref (b 13), .ref (b 14), .ref (b 15), .ref (b 16), .ref (b 17), .ref (b 18), .int 0, .ref (b 20), .int 0, .int 0, .int 0, .ref (b 24), .ref (b 25), .ref (b 26), .int 0, .int 0, .ref (b 29), .ref (b 30), .int 0, .ref (b 32), .ref (b 33), .ref (b 34), .ref (b 35), .ref (b 36), .ref (b 37), .int 0, .int 0, .ref (b 40), .ref (b 41), .ref (b 42), .ref (b 43), .ref (b 44), .int 0, .ref (b 46), .ref (b 47), .ref (b 48)]))]) (w1 := [(od, .inl (dA 4, 1, .inr (.inr (.inr (.inl u2)))))]) hP hD [0, 1, 2] [3] rfl rfl (by decide) (by decide) hk1 hFc hP1 hD1
    generalize H1 = H at hP hS ⊢
    have hP : va_P D vwCl [(b 0, .inr (12, [.int 0, .int 0, .ref (b 2), .ref (b 3), .ref (b 4), .int 0, .int 0, .int 0, .int 0, .ref (b 9), .int 0, .ref (b 11), .ref (b 12), .ref (b 13), .ref (b 14), .ref (b 15), .ref (b 16), .ref (b 17), .ref (b 18), .int 0, .ref (b 20), .int 0, .int 0, .int 0, .ref (b 24), .ref (b 25), .ref (b 26), .int 0, .int 0, .ref (b 29), .ref (b 30), .int 0, .ref (b 32), .ref (b 33), .ref (b 34), .ref (b 35), .ref (b 36), .ref (b 37), .int 0, .int 0, .ref (b 40), .ref (b 41), .ref (b 42), .ref (b 43), .ref (b 44), .int 0, .ref (b 46), .ref (b 47), .ref (b 48)])), (od, .inl (dA 4, 1, .inr (.inr (.inr (.inl u2)))))] H := hP
    have hD : va_D A [(b 0, .inr (12, [.int 0, .int 0, .ref (b 2), .ref (b 3), .ref (b 4), .int 0, .int 0, .int 0, .int 0, .ref (b 9), .int 0, .ref (b 11), .ref (b 12), .ref (b 13), .ref (b 14), .ref (b 15), .ref (b 16), .ref (b 17), .ref (b 18), .int 0, .ref (b 20), .int 0, .int 0, .int 0, .ref (b 24), .ref (b 25), .ref (b 26), .int 0, .int 0, .ref (b 29), .ref (b 30), .int 0, .ref (b 32), .ref (b 33), .ref (b 34), .ref (b 35), .ref (b 36), .ref (b 37), .int 0, .int 0, .ref (b 40), .ref (b 41), .ref (b 42), .ref (b 43), .ref (b 44), .int 0, .ref (b 46), .ref (b 47), .ref (b 48)])), (od, .inl (dA 4, 1, .inr (.inr (.inr (.inl u2)))))] := hD
    have hP := hP.sub (ws' := [(od, .inl (dA 4, 1, .inr (.inr (.inr (.inl u2))))), (b 0, .inr (12, [.int 0, .int 0, .ref (b 2), .ref (b 3), .ref (b 4), .int 0, .int 0, .int 0, .int 0, .ref (b 9), .int 0, .ref (b 11), .ref (b 12), .ref (b 13), .ref (b 14), .ref (b 15), .ref (b 16), .ref (b 17), .ref (b 18), .int 0, .ref (b 20), .int 0, .int 0, .int 0, .ref (b 24), .ref (b 25), .ref (b 26), .int 0, .int 0, .ref (b 29), .ref (b 30), .int 0, .ref (b 32), .ref (b 33), .ref (b 34), .ref (b 35), .ref (b 36), .ref (b 37), .int 0, .int 0, .ref (b 40), .ref (b 41), .ref (b 42), .ref (b 43), .ref (b 44), .int 0, .ref (b 46), .ref (b 47), .ref (b 48)]))]) [1, 0] rfl
    have hD := hD.sub (ws' := [(od, .inl (dA 4, 1, .inr (.inr (.inr (.inl u2))))), (b 0, .inr (12, [.int 0, .int 0, .ref (b 2), .ref (b 3), .ref (b 4), .int 0, .int 0, .int 0, .int 0, .ref (b 9), .int 0, .ref (b 11), .ref (b 12), .ref (b 13), .ref (b 14), .ref (b 15), .ref (b 16), .ref (b 17), .ref (b 18), .int 0, .ref (b 20), .int 0, .int 0, .int 0, .ref (b 24), .ref (b 25), .ref (b 26), .int 0, .int 0, .ref (b 29), .ref (b 30), .int 0, .ref (b 32), .ref (b 33), .ref (b 34), .ref (b 35), .ref (b 36), .ref (b 37), .int 0, .int 0, .ref (b 40), .ref (b 41), .ref (b 42), .ref (b 43), .ref (b 44), .int 0, .ref (b 46), .ref (b 47), .ref (b 48)]))]) [1, 0] (by decide) rfl
    have hk := hw3
    obtain rfl : r1 = 1 := hk
    refine lv_istore (lv' := [(6, .int 1), (5, .int 0), (4, .ref od), (3, .ref o), (2, .ref (b 0)), (1, .ref (a 0)), (0, .ref bs)]) hx hb dL_law_2209 hl (by decide) rfl (fun ls hl => ?_)
    refine lv_aload_n hx hb dL_law_2211 rfl (lv_at hl 4 rfl) ?_
    have hPc := hP.sub (ws' := [(b 0, .inr (12, [.int 0, .int 0, .ref (b 2), .ref (b 3), .ref (b 4), .int 0, .int 0, .int 0, .int 0, .ref (b 9), .int 0, .ref (b 11), .ref (b 12), .ref (b 13), .ref (b 14), .ref (b 15), .ref (b 16), .ref (b 17), .ref (b 18), .int 0, .ref (b 20), .int 0, .int 0, .int 0, .ref (b 24), .ref (b 25), .ref (b 26), .int 0, .int 0, .ref (b 29), .ref (b 30), .int 0, .ref (b 32), .ref (b 33), .ref (b 34), .ref (b 35), .ref (b 36), .ref (b 37), .int 0, .int 0, .ref (b 40), .ref (b 41), .ref (b 42), .ref (b 43), .ref (b 44), .int 0, .ref (b 46), .ref (b 47), .ref (b 48)]))]) [1] rfl
    have hDc := hD.sub (ws' := [(b 0, .inr (12, [.int 0, .int 0, .ref (b 2), .ref (b 3), .ref (b 4), .int 0, .int 0, .int 0, .int 0, .ref (b 9), .int 0, .ref (b 11), .ref (b 12), .ref (b 13), .ref (b 14), .ref (b 15), .ref (b 16), .ref (b 17), .ref (b 18), .int 0, .ref (b 20), .int 0, .int 0, .int 0, .ref (b 24), .ref (b 25), .ref (b 26), .int 0, .int 0, .ref (b 29), .ref (b 30), .int 0, .ref (b 32), .ref (b 33), .ref (b 34), .ref (b 35), .ref (b 36), .ref (b 37), .int 0, .int 0, .ref (b 40), .ref (b 41), .ref (b 42), .ref (b 43), .ref (b 44), .int 0, .ref (b 46), .ref (b 47), .ref (b 48)]))]) [1] (by decide) rfl
    have hFc := va_free (wc := [(b 0, .inr (12, [.int 0, .int 0, .ref (b 2), .ref (b 3), .ref (b 4), .int 0, .int 0, .int 0, .int 0, .ref (b 9), .int 0, .ref (b 11), .ref (b 12), .ref (b 13), .ref (b 14), .ref (b 15), .ref (b 16), .ref (b 17), .ref (b 18), .int 0, .ref (b 20), .int 0, .int 0, .int 0, .ref (b 24), .ref (b 25), .ref (b 26), .int 0, .int 0, .ref (b 29), .ref (b 30), .int 0, .ref (b 32), .ref (b 33), .ref (b 34), .ref (b 35), .ref (b 36), .ref (b 37), .int 0, .int 0, .ref (b 40), .ref (b 41), .ref (b 42), .ref (b 43), .ref (b 44), .int 0, .ref (b 46), .ref (b 47), .ref (b 48)]))]) hD hS hA [1] rfl
    refine va_callf (va_runV (As := []) (rest := []) ⟨hx, hb, hml, hown, hts⟩ (c_M_removedShare l D dA E b  H.size ) (cwV 0 hts (ga_V q713 q714 q711 q278 q712) rfl rfl rfl (by decide +kernel) ⟨(Nat.le_of_ble_eq_true rfl), (Nat.le_of_ble_eq_true rfl)⟩) ⟨pb_blind, va_recv hK hPc (ci := 12) (q0 := 0) rfl rfl, pb_pre hK hPc hDc hZ hS hFc _⟩ rfl rfl hl.1 rfl (lv_room (Nat.le_of_ble_eq_true rfl)) dL_law_2212 ⟨(Nat.le_of_ble_eq_true rfl), (Nat.le_of_ble_eq_true rfl)⟩) hS (fun q _ h => hFc q h) hFc (fun r u t H1 locs ht hvm hw hB hz1 hk1 hS => ?_)
    refine W.widen (k := 66) (n := 11784) (Nat.le_of_ble_eq_true rfl) (Nat.le_of_ble_eq_true rfl) ?_
    obtain ⟨r4, rfl⟩ : ∃ z, z = r := ⟨_, rfl⟩
    obtain ⟨u5, rfl⟩ : ∃ z, z = u := ⟨_, rfl⟩
    have hw6 := hw
    clear hw
    obtain ⟨hP1, hD1⟩ := hB
    rw [ht] at hP1
    obtain ⟨hP, hD⟩ := va_join (wr := [(od, .inl (dA 4, 1, .inr (.inr (.inr (.inl u2)))))]) (w1 := [(b 0, .inr (12, .int u5.1 :: u5.2))]) hP hD [1] [0] rfl rfl (by decide) (by decide) hk1 hFc hP1 hD1
    generalize H1 = H at hP hS ⊢
    have hP : va_P D vwCl [(od, .inl (dA 4, 1, .inr (.inr (.inr (.inl u2))))), (b 0, .inr (12, .int u5.1 :: u5.2))] H := hP
    have hD : va_D A [(od, .inl (dA 4, 1, .inr (.inr (.inr (.inl u2))))), (b 0, .inr (12, .int u5.1 :: u5.2))] := hD
    have hP := hP.sub (ws' := [(b 0, .inr (12, .int u5.1 :: u5.2)), (od, .inl (dA 4, 1, .inr (.inr (.inr (.inl u2)))))]) [1, 0] rfl
    have hD := hD.sub (ws' := [(b 0, .inr (12, .int u5.1 :: u5.2)), (od, .inl (dA 4, 1, .inr (.inr (.inr (.inl u2)))))]) [1, 0] (by decide) rfl
    have hm : u5.1 = 1 := hw6
    rw [hm] at hP hD
    have hP : va_P D vwCl [(b 0, .inr (12, .int 1 :: u5.2)), (od, .inl (dA 4, 1, .inr (.inr (.inr (.inl u2)))))] H := hP
    have hD : va_D A [(b 0, .inr (12, .int 1 :: u5.2)), (od, .inl (dA 4, 1, .inr (.inr (.inr (.inl u2)))))] := hD
    refine lv_fstore (lv' := [(7, .float r4), (6, .int 1), (5, .int 0), (4, .ref od), (3, .ref o), (2, .ref (b 0)), (1, .ref (a 0)), (0, .ref bs)]) hx hb dL_law_2215 hl (by decide) rfl (fun ls hl => ?_)
    refine lv_aload_n hx hb dL_law_2217 rfl (lv_at hl 5 rfl) ?_
    have hPc := hP.sub (ws' := [(b 0, .inr (12, .int 1 :: u5.2))]) [0] rfl
    have hDc := hD.sub (ws' := [(b 0, .inr (12, .int 1 :: u5.2))]) [0] (by decide) rfl
    have hFc := va_free (wc := [(b 0, .inr (12, .int 1 :: u5.2))]) hD hS hA [0] rfl
    refine va_calli (va_runV (As := []) (rest := []) ⟨hx, hb, hml, hown, hts⟩ (c_M_thrown l D dA E (b 0) 1 u5.2 H.size ) (cwV 0 hts (ga_V q470 q471 q468 q278 q469) rfl rfl rfl (by decide +kernel) ⟨(Nat.le_of_ble_eq_true rfl), (Nat.le_of_ble_eq_true rfl)⟩) ⟨pb_blind, va_recv hK hPc (ci := 12) (q0 := 0) rfl rfl, pb_pre hK hPc hDc hZ hS hFc _⟩ rfl rfl hl.1 rfl (lv_room (Nat.le_of_ble_eq_true rfl)) dL_law_2218 ⟨(Nat.le_of_ble_eq_true rfl), (Nat.le_of_ble_eq_true rfl)⟩) hS (fun q _ h => hFc q h) hFc (fun r u t H1 locs ht hvm hw hB hz1 hk1 hS => ?_)
    refine W.widen (k := 66) (n := 11784) (Nat.le_of_ble_eq_true rfl) (Nat.le_of_ble_eq_true rfl) ?_
    obtain ⟨r7, rfl⟩ : ∃ z, z = r := ⟨_, rfl⟩
    obtain ⟨u8, rfl⟩ : ∃ z, z = u := ⟨_, rfl⟩
    have hw9 := hw
    clear hw
    obtain ⟨hP, hD⟩ := jn_drop (wr := [(od, .inl (dA 4, 1, .inr (.inr (.inr (.inl u2)))))]) hP hD [0] [1] rfl rfl (by decide) (by decide) hk1 hFc
    generalize H1 = H at hP hS ⊢
    have hP : va_P D vwCl [(od, .inl (dA 4, 1, .inr (.inr (.inr (.inl u2)))))] H := hP
    have hD : va_D A [(od, .inl (dA 4, 1, .inr (.inr (.inr (.inl u2)))))] := hD
    obtain rfl : r7 = 1 := hw9
    refine lv_iload hx hb dL_law_2221 (lv_at hl 1 rfl) ?_
    refine lv_icmp_eq (tgt := 2228) hx hb dL_law_2223 (by decide) (fun _ => ?_) (fun c10 => absurd (by decide) c10)
    refine lv_iload hx hb dL_law_2228 (lv_at hl 1 rfl) ?_
    refine lv_if_ne (tgt := 2266) hx hb dL_law_2230 (by decide) (fun _ => ?_) (fun c11 => absurd c11 (by decide))
    refine lv_goto (tgt := 2346) hx hb dL_law_2266 (by decide) ?_
    exact law_tail l C0 rfl (by rw [hAe]; exact hS) (Nat.le_of_ble_eq_true rfl) (Nat.le_of_ble_eq_true rfl) ls (lv_sub hl [7, 2] rfl)

set_option maxHeartbeats 4000000 in
set_option maxRecDepth 100000 in
/-- the law at meanLength -/
theorem law_35 {p : Program} {e : Env} {s : State} {m : MethodId} {below : List Frame} {meth : Method} {c : Code} (l : Launch) (hlt : l.stackTraces = false) {bs L : Nat} {xs : Nat → Int32} (C0 : lw_At p s m meth c bs L xs) (hL6 : L = 6) (D : va_G) (dA : Nat → ClassId) (E : Nat) (A : Nat → Prop) (hAe : (fun q : Nat => s.heap.size ≤ q) = A) (a b : Nat → Nat) (o od : Nat) (hK : va_K D vwCl (TY dA) s) (hZ : ZZ dA E A s s.heap) (H : Heap) (locs : List Loc) (hP : va_P D vwCl [(a 0, .inr (11, [.ref (a 1), .ref (a 2), .ref (a 3), .ref (a 4), .ref (a 5), .ref (a 10), .ref (a 15), .ref (a 17), .null, .int 0, .int 0, .int 0])), (a 3, .inr (2, [.int 0, .ref E, .int 0])), (od, .inl (dA 4, 1, .inr (.inr (.inr (.inl (fun _ => 0)))))), (b 0, .inr (12, [.int 0, .int 0, .ref (b 2), .ref (b 3), .ref (b 4), .int 0, .int 0, .int 0, .int 0, .ref (b 9), .int 0, .ref (b 11), .ref (b 12), .ref (b 13), .ref (b 14), .ref (b 15), .ref (b 16), .ref (b 17), .ref (b 18), .int 0, .ref (b 20), .int 0, .int 0, .int 0, .ref (b 24), .ref (b 25), .ref (b 26), .int 0, .int 0, .ref (b 29), .ref (b 30), .int 0, .ref (b 32), .ref (b 33), .ref (b 34), .ref (b 35), .ref (b 36), .ref (b 37), .int 0, .int 0, .ref (b 40), .ref (b 41), .ref (b 42), .ref (b 43), .ref (b 44), .int 0, .ref (b 46), .ref (b 47), .ref (b 48)]))] H) (hD : va_D A [(a 0, .inr (11, [.ref (a 1), .ref (a 2), .ref (a 3), .ref (a 4), .ref (a 5), .ref (a 10), .ref (a 15), .ref (a 17), .null, .int 0, .int 0, .int 0])), (a 3, .inr (2, [.int 0, .ref E, .int 0])), (od, .inl (dA 4, 1, .inr (.inr (.inr (.inl (fun _ => 0)))))), (b 0, .inr (12, [.int 0, .int 0, .ref (b 2), .ref (b 3), .ref (b 4), .int 0, .int 0, .int 0, .int 0, .ref (b 9), .int 0, .ref (b 11), .ref (b 12), .ref (b 13), .ref (b 14), .ref (b 15), .ref (b 16), .ref (b 17), .ref (b 18), .int 0, .ref (b 20), .int 0, .int 0, .int 0, .ref (b 24), .ref (b 25), .ref (b 26), .int 0, .int 0, .ref (b 29), .ref (b 30), .int 0, .ref (b 32), .ref (b 33), .ref (b 34), .ref (b 35), .ref (b 36), .ref (b 37), .int 0, .int 0, .ref (b 40), .ref (b 41), .ref (b 42), .ref (b 43), .ref (b 44), .int 0, .ref (b 46), .ref (b 47), .ref (b 48)]))]) (hS : va_S A s.heap H locs) (ls : Array Slot) (hl : lv_has ls 9 [(5, .int 0), (4, .ref od), (3, .ref o), (2, .ref (b 0)), (1, .ref (a 0)), (0, .ref bs)]) : W p l e room_1 s m #[Value.ref bs] below meth c H locs 65 11778 (lw_Z below #[Value.ref bs] s) (F0 m 2269 ls []) := by
  subst hL6
  obtain ⟨hx, hb, hr, hml, hown, hts0, hX, hbl, hlocks, hgv⟩ := id C0
  have hts : ∀ w ∈ WA, w.before #[Value.ref bs] s = true := fun w h => hts0 w (WA_tbl h)
  have hA : ∀ q : Nat, s.heap.size ≤ q → A q := fun q h => by rw [← hAe]; exact h
  have hbA : ¬ A bs := by rw [← hAe]; exact Nat.not_le.mpr hbl
  refine lv_aload_n hx hb dL_law_2269 rfl (lv_at hl 4 rfl) ?_
  refine lv_aload_n hx hb dL_law_2270 rfl (lv_at hl 5 rfl) ?_
  refine lv_iload hx hb dL_law_2271 (lv_at hl 0 rfl) ?_
  refine lv_iconst (v := 1) hx hb dL_law_2273 (by decide) ?_
  refine lv_iadd hx hb dL_law_2274 ?_
  refine lv_topi (fun x1 ex1 => ?_)
  replace ex1 : x1 = 1 := ex1.trans (by decide)
  subst ex1
  refine va_sld hx hb hX hbl hbA hS (vi_c (by decide)) dL_law_2275 ?_
  refine lv_topi (fun x2 ex2 => ?_)
  refine lv_aload hx hb dL_law_2276 (lv_at hl 1 rfl) ?_
  have hPc := hP.sub (ws' := [(a 0, .inr (11, [.ref (a 1), .ref (a 2), .ref (a 3), .ref (a 4), .ref (a 5), .ref (a 10), .ref (a 15), .ref (a 17), .null, .int 0, .int 0, .int 0])), (a 3, .inr (2, [.int 0, .ref E, .int 0])), (od, .inl (dA 4, 1, .inr (.inr (.inr (.inl (fun _ => 0))))))]) [0, 1, 2] rfl
  have hDc := hD.sub (ws' := [(a 0, .inr (11, [.ref (a 1), .ref (a 2), .ref (a 3), .ref (a 4), .ref (a 5), .ref (a 10), .ref (a 15), .ref (a 17), .null, .int 0, .int 0, .int 0])), (a 3, .inr (2, [.int 0, .ref E, .int 0])), (od, .inl (dA 4, 1, .inr (.inr (.inr (.inl (fun _ => 0))))))]) [0, 1, 2] (by decide) rfl
  have hFc := va_free (wc := [(a 0, .inr (11, [.ref (a 1), .ref (a 2), .ref (a 3), .ref (a 4), .ref (a 5), .ref (a 10), .ref (a 15), .ref (a 17), .null, .int 0, .int 0, .int 0])), (a 3, .inr (2, [.int 0, .ref E, .int 0])), (od, .inl (dA 4, 1, .inr (.inr (.inr (.inl (fun _ => 0))))))]) hD hS hA [0, 1, 2] rfl
  refine vx_calli (vx_runSX (As := [.ref (a 0), .int x2, .ref od]) (rest := []) ⟨hx, hb, hml, hown, hts⟩ (c_L_meanLength l hlt D dA E a od (fun _ => 0) x2 H.size ) (vx_cwSW 3 hts (ga_S q716 q717 q463 q715) rfl rfl rfl (by decide +kernel) ⟨(Nat.le_of_ble_eq_true rfl), (Nat.le_of_ble_eq_true rfl)⟩) ⟨pb_blind, pb_pre hK hPc hDc hZ hS hFc _⟩ rfl rfl hl.1 rfl (lv_room (Nat.le_of_ble_eq_true rfl)) dL_law_2278 ⟨(Nat.le_of_ble_eq_true rfl), (Nat.le_of_ble_eq_true rfl)⟩) hS (fun q _ h => hFc q h) hFc (fun q _ h => hFc q h) (fun E9 ce q9 k t H1 locs ht hvm hpx hBX hz1 hk1 hS hce hcv hcl => ?_) (fun r u t H1 locs ht hvm hw hB hz1 hk1 hS => ?_)
  · exact hpx.elim
  · refine W.widen (k := 66) (n := 11784) (Nat.le_of_ble_eq_true rfl) (Nat.le_of_ble_eq_true rfl) ?_
    obtain ⟨r3, rfl⟩ : ∃ z, z = r := ⟨_, rfl⟩
    obtain ⟨u4, rfl⟩ : ∃ z, z = u := ⟨_, rfl⟩
    have hw5 := hw
    clear hw
    obtain ⟨hP1, hD1⟩ := hB
    rw [ht] at hP1
    obtain ⟨hP, hD⟩ := va_join (wr := [(b 0, .inr (12, [.int 0, .int 0, .ref (b 2), .ref (b 3), .ref (b 4), .int 0, .int 0, .int 0, .int 0, .ref (b 9), .int 0, .ref (b 11), .ref (b 12), .ref (b 13), .ref (b 14), .ref (b 15), .ref (b 16), .ref (b 17), .ref (b 18), .int 0, .ref (b 20), .int 0, .int 0, .int 0, .ref (b 24), .ref (b 25), .ref (b 26), .int 0, .int 0, .ref (b 29), .ref (b 30), .int 0, .ref (b 32), .ref (b 33), .ref (b 34), .ref (b 35), .ref (b 36), .ref (b 37), .int 0, .int 0, .ref (b 40), .ref (b 41), .ref (b 42), .ref (b 43), .ref (b 44), .int 0, .ref (b 46), .ref (b 47), .ref (b 48)]))]) (w1 := [(od, .inl (dA 4, 1, .inr (.inr (.inr (.inl u4)))))]) hP hD [0, 1, 2] [3] rfl rfl (by decide) (by decide) hk1 hFc hP1 hD1
    generalize H1 = H at hP hS ⊢
    have hP : va_P D vwCl [(b 0, .inr (12, [.int 0, .int 0, .ref (b 2), .ref (b 3), .ref (b 4), .int 0, .int 0, .int 0, .int 0, .ref (b 9), .int 0, .ref (b 11), .ref (b 12), .ref (b 13), .ref (b 14), .ref (b 15), .ref (b 16), .ref (b 17), .ref (b 18), .int 0, .ref (b 20), .int 0, .int 0, .int 0, .ref (b 24), .ref (b 25), .ref (b 26), .int 0, .int 0, .ref (b 29), .ref (b 30), .int 0, .ref (b 32), .ref (b 33), .ref (b 34), .ref (b 35), .ref (b 36), .ref (b 37), .int 0, .int 0, .ref (b 40), .ref (b 41), .ref (b 42), .ref (b 43), .ref (b 44), .int 0, .ref (b 46), .ref (b 47), .ref (b 48)])), (od, .inl (dA 4, 1, .inr (.inr (.inr (.inl u4)))))] H := hP
    have hD : va_D A [(b 0, .inr (12, [.int 0, .int 0, .ref (b 2), .ref (b 3), .ref (b 4), .int 0, .int 0, .int 0, .int 0, .ref (b 9), .int 0, .ref (b 11), .ref (b 12), .ref (b 13), .ref (b 14), .ref (b 15), .ref (b 16), .ref (b 17), .ref (b 18), .int 0, .ref (b 20), .int 0, .int 0, .int 0, .ref (b 24), .ref (b 25), .ref (b 26), .int 0, .int 0, .ref (b 29), .ref (b 30), .int 0, .ref (b 32), .ref (b 33), .ref (b 34), .ref (b 35), .ref (b 36), .ref (b 37), .int 0, .int 0, .ref (b 40), .ref (b 41), .ref (b 42), .ref (b 43), .ref (b 44), .int 0, .ref (b 46), .ref (b 47), .ref (b 48)])), (od, .inl (dA 4, 1, .inr (.inr (.inr (.inl u4)))))] := hD
    have hP := hP.sub (ws' := [(od, .inl (dA 4, 1, .inr (.inr (.inr (.inl u4))))), (b 0, .inr (12, [.int 0, .int 0, .ref (b 2), .ref (b 3), .ref (b 4), .int 0, .int 0, .int 0, .int 0, .ref (b 9), .int 0, .ref (b 11), .ref (b 12), .ref (b 13), .ref (b 14), .ref (b 15), .ref (b 16), .ref (b 17), .ref (b 18), .int 0, .ref (b 20), .int 0, .int 0, .int 0, .ref (b 24), .ref (b 25), .ref (b 26), .int 0, .int 0, .ref (b 29), .ref (b 30), .int 0, .ref (b 32), .ref (b 33), .ref (b 34), .ref (b 35), .ref (b 36), .ref (b 37), .int 0, .int 0, .ref (b 40), .ref (b 41), .ref (b 42), .ref (b 43), .ref (b 44), .int 0, .ref (b 46), .ref (b 47), .ref (b 48)]))]) [1, 0] rfl
    have hD := hD.sub (ws' := [(od, .inl (dA 4, 1, .inr (.inr (.inr (.inl u4))))), (b 0, .inr (12, [.int 0, .int 0, .ref (b 2), .ref (b 3), .ref (b 4), .int 0, .int 0, .int 0, .int 0, .ref (b 9), .int 0, .ref (b 11), .ref (b 12), .ref (b 13), .ref (b 14), .ref (b 15), .ref (b 16), .ref (b 17), .ref (b 18), .int 0, .ref (b 20), .int 0, .int 0, .int 0, .ref (b 24), .ref (b 25), .ref (b 26), .int 0, .int 0, .ref (b 29), .ref (b 30), .int 0, .ref (b 32), .ref (b 33), .ref (b 34), .ref (b 35), .ref (b 36), .ref (b 37), .int 0, .int 0, .ref (b 40), .ref (b 41), .ref (b 42), .ref (b 43), .ref (b 44), .int 0, .ref (b 46), .ref (b 47), .ref (b 48)]))]) [1, 0] (by decide) rfl
    have hk := hw5
    obtain rfl : r3 = 1 := hk
    refine lv_istore (lv' := [(6, .int 1), (5, .int 0), (4, .ref od), (3, .ref o), (2, .ref (b 0)), (1, .ref (a 0)), (0, .ref bs)]) hx hb dL_law_2281 hl (by decide) rfl (fun ls hl => ?_)
    refine lv_aload_n hx hb dL_law_2283 rfl (lv_at hl 4 rfl) ?_
    refine lv_aload_n hx hb dL_law_2284 rfl (lv_at hl 6 rfl) ?_
    refine lv_iload hx hb dL_law_2285 (lv_at hl 1 rfl) ?_
    refine lv_iconst (v := 1) hx hb dL_law_2287 (by decide) ?_
    refine lv_iadd hx hb dL_law_2288 ?_
    refine lv_topi (fun x6 ex6 => ?_)
    replace ex6 : x6 = 1 := ex6.trans (by decide)
    subst ex6
    refine va_sld hx hb hX hbl hbA hS (vi_c (by decide)) dL_law_2289 ?_
    refine lv_topi (fun x7 ex7 => ?_)
    obtain rfl : x2 = x7 := ex2.trans ex7.symm
    have hPc := hP.sub (ws' := [(b 0, .inr (12, [.int 0, .int 0, .ref (b 2), .ref (b 3), .ref (b 4), .int 0, .int 0, .int 0, .int 0, .ref (b 9), .int 0, .ref (b 11), .ref (b 12), .ref (b 13), .ref (b 14), .ref (b 15), .ref (b 16), .ref (b 17), .ref (b 18), .int 0, .ref (b 20), .int 0, .int 0, .int 0, .ref (b 24), .ref (b 25), .ref (b 26), .int 0, .int 0, .ref (b 29), .ref (b 30), .int 0, .ref (b 32), .ref (b 33), .ref (b 34), .ref (b 35), .ref (b 36), .ref (b 37), .int 0, .int 0, .ref (b 40), .ref (b 41), .ref (b 42), .ref (b 43), .ref (b 44), .int 0, .ref (b 46), .ref (b 47), .ref (b 48)]))]) [1] rfl
    have hDc := hD.sub (ws' := [(b 0, .inr (12, [.int 0, .int 0, .ref (b 2), .ref (b 3), .ref (b 4), .int 0, .int 0, .int 0, .int 0, .ref (b 9), .int 0, .ref (b 11), .ref (b 12), .ref (b 13), .ref (b 14), .ref (b 15), .ref (b 16), .ref (b 17), .ref (b 18), .int 0, .ref (b 20), .int 0, .int 0, .int 0, .ref (b 24), .ref (b 25), .ref (b 26), .int 0, .int 0, .ref (b 29), .ref (b 30), .int 0, .ref (b 32), .ref (b 33), .ref (b 34), .ref (b 35), .ref (b 36), .ref (b 37), .int 0, .int 0, .ref (b 40), .ref (b 41), .ref (b 42), .ref (b 43), .ref (b 44), .int 0, .ref (b 46), .ref (b 47), .ref (b 48)]))]) [1] (by decide) rfl
    have hFc := va_free (wc := [(b 0, .inr (12, [.int 0, .int 0, .ref (b 2), .ref (b 3), .ref (b 4), .int 0, .int 0, .int 0, .int 0, .ref (b 9), .int 0, .ref (b 11), .ref (b 12), .ref (b 13), .ref (b 14), .ref (b 15), .ref (b 16), .ref (b 17), .ref (b 18), .int 0, .ref (b 20), .int 0, .int 0, .int 0, .ref (b 24), .ref (b 25), .ref (b 26), .int 0, .int 0, .ref (b 29), .ref (b 30), .int 0, .ref (b 32), .ref (b 33), .ref (b 34), .ref (b 35), .ref (b 36), .ref (b 37), .int 0, .int 0, .ref (b 40), .ref (b 41), .ref (b 42), .ref (b 43), .ref (b 44), .int 0, .ref (b 46), .ref (b 47), .ref (b 48)]))]) hD hS hA [1] rfl
    refine va_calld (va_runV (As := [.int x2]) (rest := []) ⟨hx, hb, hml, hown, hts⟩ (c_M_meanLength l D dA E b x2 H.size ) (cwV 1 hts (ga_V q720 q721 q718 q278 q719) rfl rfl rfl (by decide +kernel) ⟨(Nat.le_of_ble_eq_true rfl), (Nat.le_of_ble_eq_true rfl)⟩) ⟨pb_blind, va_recv hK hPc (ci := 12) (q0 := 0) rfl rfl, pb_pre hK hPc hDc hZ hS hFc _⟩ rfl rfl hl.1 rfl (lv_room (Nat.le_of_ble_eq_true rfl)) dL_law_2290 ⟨(Nat.le_of_ble_eq_true rfl), (Nat.le_of_ble_eq_true rfl)⟩) hS (fun q _ h => hFc q h) hFc (fun r u t H1 locs ht hvm hw hB hz1 hk1 hS => ?_)
    refine W.widen (k := 66) (n := 11784) (Nat.le_of_ble_eq_true rfl) (Nat.le_of_ble_eq_true rfl) ?_
    obtain ⟨r8, rfl⟩ : ∃ z, z = r := ⟨_, rfl⟩
    obtain ⟨u9, rfl⟩ : ∃ z, z = u := ⟨_, rfl⟩
    have hw10 := hw
    clear hw
    obtain ⟨hP1, hD1⟩ := hB
    rw [ht] at hP1
    obtain ⟨hP, hD⟩ := va_join (wr := [(od, .inl (dA 4, 1, .inr (.inr (.inr (.inl u4)))))]) (w1 := [(b 0, .inr (12, .int u9.1 :: u9.2))]) hP hD [1] [0] rfl rfl (by decide) (by decide) hk1 hFc hP1 hD1
    generalize H1 = H at hP hS ⊢
    have hP : va_P D vwCl [(od, .inl (dA 4, 1, .inr (.inr (.inr (.inl u4))))), (b 0, .inr (12, .int u9.1 :: u9.2))] H := hP
    have hD : va_D A [(od, .inl (dA 4, 1, .inr (.inr (.inr (.inl u4))))), (b 0, .inr (12, .int u9.1 :: u9.2))] := hD
    have hP := hP.sub (ws' := [(b 0, .inr (12, .int u9.1 :: u9.2)), (od, .inl (dA 4, 1, .inr (.inr (.inr (.inl u4)))))]) [1, 0] rfl
    have hD := hD.sub (ws' := [(b 0, .inr (12, .int u9.1 :: u9.2)), (od, .inl (dA 4, 1, .inr (.inr (.inr (.inl u4)))))]) [1, 0] (by decide) rfl
    have hm : u9.1 = 1 := hw10
    rw [hm] at hP hD
    have hP : va_P D vwCl [(b 0, .inr (12, .int 1 :: u9.2)), (od, .inl (dA 4, 1, .inr (.inr (.inr (.inl u4)))))] H := hP
    have hD : va_D A [(b 0, .inr (12, .int 1 :: u9.2)), (od, .inl (dA 4, 1, .inr (.inr (.inr (.inl u4)))))] := hD
    refine lv_dstore (lv' := [(7, .double r8), (6, .int 1), (5, .int 0), (4, .ref od), (3, .ref o), (2, .ref (b 0)), (1, .ref (a 0)), (0, .ref bs)]) hx hb dL_law_2293 hl (by decide) rfl (fun ls hl => ?_)
    refine lv_aload_n hx hb dL_law_2295 rfl (lv_at hl 5 rfl) ?_
    have hPc := hP.sub (ws' := [(b 0, .inr (12, .int 1 :: u9.2))]) [0] rfl
    have hDc := hD.sub (ws' := [(b 0, .inr (12, .int 1 :: u9.2))]) [0] (by decide) rfl
    have hFc := va_free (wc := [(b 0, .inr (12, .int 1 :: u9.2))]) hD hS hA [0] rfl
    refine va_calli (va_runV (As := []) (rest := []) ⟨hx, hb, hml, hown, hts⟩ (c_M_thrown l D dA E (b 0) 1 u9.2 H.size ) (cwV 0 hts (ga_V q470 q471 q468 q278 q469) rfl rfl rfl (by decide +kernel) ⟨(Nat.le_of_ble_eq_true rfl), (Nat.le_of_ble_eq_true rfl)⟩) ⟨pb_blind, va_recv hK hPc (ci := 12) (q0 := 0) rfl rfl, pb_pre hK hPc hDc hZ hS hFc _⟩ rfl rfl hl.1 rfl (lv_room (Nat.le_of_ble_eq_true rfl)) dL_law_2296 ⟨(Nat.le_of_ble_eq_true rfl), (Nat.le_of_ble_eq_true rfl)⟩) hS (fun q _ h => hFc q h) hFc (fun r u t H1 locs ht hvm hw hB hz1 hk1 hS => ?_)
    refine W.widen (k := 66) (n := 11784) (Nat.le_of_ble_eq_true rfl) (Nat.le_of_ble_eq_true rfl) ?_
    obtain ⟨r11, rfl⟩ : ∃ z, z = r := ⟨_, rfl⟩
    obtain ⟨u12, rfl⟩ : ∃ z, z = u := ⟨_, rfl⟩
    have hw13 := hw
    clear hw
    obtain ⟨hP, hD⟩ := jn_drop (wr := [(od, .inl (dA 4, 1, .inr (.inr (.inr (.inl u4)))))]) hP hD [0] [1] rfl rfl (by decide) (by decide) hk1 hFc
    generalize H1 = H at hP hS ⊢
    have hP : va_P D vwCl [(od, .inl (dA 4, 1, .inr (.inr (.inr (.inl u4)))))] H := hP
    have hD : va_D A [(od, .inl (dA 4, 1, .inr (.inr (.inr (.inl u4)))))] := hD
    obtain rfl : r11 = 1 := hw13
    refine lv_iload hx hb dL_law_2299 (lv_at hl 1 rfl) ?_
    refine lv_icmp_eq (tgt := 2306) hx hb dL_law_2301 (by decide) (fun _ => ?_) (fun c14 => absurd (by decide) c14)
    refine lv_iload hx hb dL_law_2306 (lv_at hl 1 rfl) ?_
    refine lv_if_ne (tgt := 2343) hx hb dL_law_2308 (by decide) (fun _ => ?_) (fun c15 => absurd c15 (by decide))
    refine lv_goto (tgt := 2346) hx hb dL_law_2343 (by decide) ?_
    exact law_tail l C0 rfl (by rw [hAe]; exact hS) (Nat.le_of_ble_eq_true rfl) (Nat.le_of_ble_eq_true rfl) ls (lv_sub hl [7, 2] rfl)
