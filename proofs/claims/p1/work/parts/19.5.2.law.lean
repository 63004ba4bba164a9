set_option maxHeartbeats 4000000 in
set_option maxRecDepth 100000 in
/-- the law at follow -/
theorem law_15 {p : Program} {e : Env} {s : State} {m : MethodId} {below : List Frame} {meth : Method} {c : Code} (l : Launch) (hlt : l.stackTraces = false) {bs L : Nat} {xs : Nat → Int32} (C0 : lw_At p s m meth c bs L xs) (hL6 : L = 6) (D : va_G) (dA : Nat → ClassId) (E : Nat) (A : Nat → Prop) (hAe : (fun q : Nat => s.heap.size ≤ q) = A) (a b : Nat → Nat) (o od : Nat) (hK : va_K D vwCl (TY dA) s) (hZ : ZZ dA E A s s.heap) (H : Heap) (locs : List Loc) (hP : va_P D vwCl [(a 0, .inr (11, [.ref (a 1), .ref (a 2), .ref (a 3), .ref (a 4), .ref (a 5), .ref (a 10), .ref (a 15), .ref (a 17), .null, .int 0, .int 0, .int 0])), (o, .inl (dA 3, 1, .inr (.inl (fun _ => 0)))), (b 0, .inr (12, [.int 0, .int 0, .ref (b 2), .ref (b 3), .ref (b 4), .int 0, .int 0, .int 0, .int 0, .ref (b 9), .int 0, .ref (b 11), .ref (b 12), .ref (b 13), .ref (b 14), .ref (b 15), .ref (b 16), .ref (b 17), .ref (b 18), .int 0, .ref (b 20), .int 0, .int 0, .int 0, .ref (b 24), .ref (b 25), .ref (b 26), .int 0, .int 0, .ref (b 29), .ref (b 30), .int 0, .ref (b 32), .ref (b 33), .ref (b 34), .ref (b 35), .ref (b 36), .ref (b 37), .int 0, .int 0, .ref (b 40), .ref (b 41), .ref (b 42), .ref (b 43), .ref (b 44), .int 0, .ref (b 46), .ref (b 47), .ref (b 48)]))] H) (hD : va_D A [(a 0, .inr (11, [.ref (a 1), .ref (a 2), .ref (a 3), .ref (a 4), .ref (a 5), .ref (a 10), .ref (a 15), .ref (a 17), .null, .int 0, .int 0, .int 0])), (o, .inl (dA 3, 1, .inr (.inl (fun _ => 0)))), (b 0, .inr (12, [.int 0, .int 0, .ref (b 2), .ref (b 3), .ref (b 4), .int 0, .int 0, .int 0, .int 0, .ref (b 9), .int 0, .ref (b 11), .ref (b 12), .ref (b 13), .ref (b 14), .ref (b 15), .ref (b 16), .ref (b 17), .ref (b 18), .int 0, .ref (b 20), .int 0, .int 0, .int 0, .ref (b 24), .ref (b 25), .ref (b 26), .int 0, .int 0, .ref (b 29), .ref (b 30), .int 0, .ref (b 32), .ref (b 33), .ref (b 34), .ref (b 35), .ref (b 36), .ref (b 37), .int 0, .int 0, .ref (b 40), .ref (b 41), .ref (b 42), .ref (b 43), .ref (b 44), .int 0, .ref (b 46), .ref (b 47), .ref (b 48)]))]) (hS : va_S A s.heap H locs) (ls : Array Slot) (hl : lv_has ls 9 [(5, .int 0), (4, .ref od), (3, .ref o), (2, .ref (b 0)), (1, .ref (a 0)), (0, .ref bs)]) : W p l e room_1 s m #[Value.ref bs] below meth c H locs 65 11778 (lw_Z below #[Value.ref bs] s) (F0 m 879 ls []) := by
  subst hL6
  obtain ⟨hx, hb, hr, hml, hown, hts0, hX, hbl, hlocks, hgv⟩ := id C0
  have hts : ∀ w ∈ WA, w.before #[Value.ref bs] s = true := fun w h => hts0 w (WA_tbl h)
  have hA : ∀ q : Nat, s.heap.size ≤ q → A q := fun q h => by rw [← hAe]; exact h
  have hbA : ¬ A bs := by rw [← hAe]; exact Nat.not_le.mpr hbl
  refine lv_aload_n hx hb dL_law_879 rfl (lv_at hl 4 rfl) ?_
  refine lv_aload_n hx hb dL_law_880 rfl (lv_at hl 2 rfl) ?_
  have hPc := hP.sub (ws' := [(a 0, .inr (11, [.ref (a 1), .ref (a 2), .ref (a 3), .ref (a 4), .ref (a 5), .ref (a 10), .ref (a 15), .ref (a 17), .null, .int 0, .int 0, .int 0])), (o, .inl (dA 3, 1, .inr (.inl (fun _ => 0))))]) [0, 1] rfl
  have hDc := hD.sub (ws' := [(a 0, .inr (11, [.ref (a 1), .ref (a 2), .ref (a 3), .ref (a 4), .ref (a 5), .ref (a 10), .ref (a 15), .ref (a 17), .null, .int 0, .int 0, .int 0])), (o, .inl (dA 3, 1, .inr (.inl (fun _ => 0))))]) [0, 1] (by decide) rfl
  have hFc := va_free (wc := [(a 0, .inr (11, [.ref (a 1), .ref (a 2), .ref (a 3), .ref (a 4), .ref (a 5), .ref (a 10), .ref (a 15), .ref (a 17), .null, .int 0, .int 0, .int 0])), (o, .inl (dA 3, 1, .inr (.inl (fun _ => 0))))]) hD hS hA [0, 1] rfl
  refine vx_calli (vx_runSX (As := [.ref (a 0), .ref o]) (rest := []) ⟨hx, hb, hml, hown, hts⟩ (c_L_follow l hlt D dA E a o (fun _ => 0)  H.size ) (vx_cwSW 2 hts (ga_S q576 q577 q463 q575) rfl rfl rfl (by decide +kernel) ⟨(Nat.le_of_ble_eq_true rfl), (Nat.le_of_ble_eq_true rfl)⟩) ⟨pb_blind, pb_pre hK hPc hDc hZ hS hFc _⟩ rfl rfl hl.1 rfl (lv_room (Nat.le_of_ble_eq_true rfl)) dL_law_881 ⟨(Nat.le_of_ble_eq_true rfl), (Nat.le_of_ble_eq_true rfl)⟩) hS (fun q _ h => hFc q h) hFc (fun q _ h => hFc q h) (fun E9 ce q9 k t H1 locs ht hvm hpx hBX hz1 hk1 hS hce hcv hcl => ?_) (fun r u t H1 locs ht hvm hw hB hz1 hk1 hS => ?_)
  · exact hpx.elim
  · refine W.widen (k := 66) (n := 11784) (Nat.le_of_ble_eq_true rfl) (Nat.le_of_ble_eq_true rfl) ?_
    obtain ⟨r1, rfl⟩ : ∃ z, z = r := ⟨_, rfl⟩
    obtain ⟨u2, rfl⟩ : ∃ z, z = u := ⟨_, rfl⟩
    have hw3 := hw
    clear hw
    obtain ⟨hP1, hD1⟩ := hB
    rw [ht] at hP1
    obtain ⟨hP, hD⟩ := va_join (wr := [(b 0, .inr (12, [.int 0, .int 0, .ref (b 2), .ref (b 3), .ref (b 4), .int 0, .int 0, .int 0, .int 0, .ref (b 9), .int 0, .ref (b 11), .ref (b 12), .ref (b 13), .ref (b 14), .ref (b 15), .ref (b 16), .ref (b 17), .ref (b 18), .int 0, .ref (b 20), .int 0, .int 0, .int 0, .ref (b 24), .ref (b 25), .ref (b 26), .int 0, .int 0, .ref (b 29), .ref (b 30), .int 0, .ref (b 32), .ref (b 33), .ref (b 34), .ref (b 35), .ref (b 36), .ref (b 37), .int 0, .int 0, .ref (b 40), .ref (b 41), .ref (b 42), .ref (b 43), .ref (b 44), .int 0, .ref (b 46), .ref (b 47), .ref (b 48)]))]) (w1 := [(o, .inl (dA 3, 1, .inr (.inl u2)))]) hP hD [0, 1] [2] rfl rfl (by decide) (by decide) hk1 hFc hP1 hD1
    generalize H1 = H at hP hS ⊢
    have hP : va_P D vwCl [(b 0, .inr (12, [.int 0, .int 0, .ref (b 2), .ref (b 3), .ref (b 4), .int 0, .int 0, .int 0, .int 0, .ref (b 9), .int 0, .ref (b 11), .ref (b 12), .ref (b 13), .ref (b 14), .ref (b 15), .ref (b 16), .ref (b 17), .ref (b 18), .int 0, .ref (b 20), .int 0, .int 0, .int 0, .ref (b 24), .ref (b 25), .ref (b 26), .int 0, .int 0, .ref (b 29), .ref (b 30), .int 0, .ref (b 32), .ref (b 33), .ref (b 34), .ref (b 35), .ref (b 36), .ref (b 37), .int 0, .int 0, .ref (b 40), .ref (b 41), .ref (b 42), .ref (b 43), .ref (b 44), .int 0, .ref (b 46), .ref (b 47), .ref (b 48)])), (o, .inl (dA 3, 1, .inr (.inl u2)))] H := hP
    have hD : va_D A [(b 0, .inr (12, [.int 0, .int 0, .ref (b 2), .ref (b 3), .ref (b 4), .int 0, .int 0, .int 0, .int 0, .ref (b 9), .int 0, .ref (b 11), .ref (b 12), .ref (b 13), .ref (b 14), .ref (b 15), .ref (b 16), .ref (b 17), .ref (b 18), .int 0, .ref (b 20), .int 0, .int 0, .int 0, .ref (b 24), .ref (b 25), .ref (b 26), .int 0, .int 0, .ref (b 29), .ref (b 30), .int 0, .ref (b 32), .ref (b 33), .ref (b 34), .ref (b 35), .ref (b 36), .ref (b 37), .int 0, .int 0, .ref (b 40), .ref (b 41), .ref (b 42), .ref (b 43), .ref (b 44), .int 0, .ref (b 46), .ref (b 47), .ref (b 48)])), (o, .inl (dA 3, 1, .inr (.inl u2)))] := hD
    have hP := hP.sub (ws' := [(o, .inl (dA 3, 1, .inr (.inl u2))), (b 0, .inr (12, [.int 0, .int 0, .ref (b 2), .ref (b 3), .ref (b 4), .int 0, .int 0, .int 0, .int 0, .ref (b 9), .int 0, .ref (b 11), .ref (b 12), .ref (b 13), .ref (b 14), .ref (b 15), .ref (b 16), .ref (b 17), .ref (b 18), .int 0, .ref (b 20), .int 0, .int 0, .int 0, .ref (b 24), .ref (b 25), .ref (b 26), .int 0, .int 0, .ref (b 29), .ref (b 30), .int 0, .ref (b 32), .ref (b 33), .ref (b 34), .ref (b 35), .ref (b 36), .ref (b 37), .int 0, .int 0, .ref (b 40), .ref (b 41), .ref (b 42), .ref (b 43), .ref (b 44), .int 0, .ref (b 46), .ref (b 47), .ref (b 48)]))]) [1, 0] rfl
    have hD := hD.sub (ws' := [(o, .inl (dA 3, 1, .inr (.inl u2))), (b 0, .inr (12, [.int 0, .int 0, .ref (b 2), .ref (b 3), .ref (b 4), .int 0, .int 0, .int 0, .int 0, .ref (b 9), .int 0, .ref (b 11), .ref (b 12), .ref (b 13), .ref (b 14), .ref (b 15), .ref (b 16), .ref (b 17), .ref (b 18), .int 0, .ref (b 20), .int 0, .int 0, .int 0, .ref (b 24), .ref (b 25), .ref (b 26), .int 0, .int 0, .ref (b 29), .ref (b 30), .int 0, .ref (b 32), .ref (b 33), .ref (b 34), .ref (b 35), .ref (b 36), .ref (b 37), .int 0, .int 0, .ref (b 40), .ref (b 41), .ref (b 42), .ref (b 43), .ref (b 44), .int 0, .ref (b 46), .ref (b 47), .ref (b 48)]))]) [1, 0] (by decide) rfl
    have hk := hw3
    obtain rfl : r1 = 1 := hk
    refine lv_istore (lv' := [(6, .int 1), (5, .int 0), (4, .ref od), (3, .ref o), (2, .ref (b 0)), (1, .ref (a 0)), (0, .ref bs)]) hx hb dL_law_884 hl (by decide) rfl (fun ls hl => ?_)
    refine lv_aload_n hx hb dL_law_886 rfl (lv_at hl 4 rfl) ?_
    have hPc := hP.sub (ws' := [(b 0, .inr (12, [.int 0, .int 0, .ref (b 2), .ref (b 3), .ref (b 4), .int 0, .int 0, .int 0, .int 0, .ref (b 9), .int 0, .ref (b 11), .ref (b 12), .ref (b 13), .ref (b 14), .ref (b 15), .ref (b 16), .ref (b 17), .ref (b 18), .int 0, .ref (b 20), .int 0, .int 0, .int 0, .ref (b 24), .ref (b 25), .ref (b 26), .int 0, .int 0, .ref (b 29), .ref (b 30), .int 0, .ref (b 32), .ref (b 33), .ref (b 34), .ref (b 35), .ref (b 36), .ref (b 37), .int 0, .int 0, .ref (b 40), .ref (b 41), .ref (b 42), .ref (b 43), .ref (b 44), .int 0, .ref (b 46), .ref (b 47), .ref (b 48)]))]) [1] rfl
    have hDc := hD.sub (ws' := [(b 0, .inr (12, [.int 0, .int 0, .ref (b 2), .ref (b 3), .ref (b 4), .int 0, .int 0, .int 0, .int 0, .ref (b 9), .int 0, .ref (b 11), .ref (b 12), .ref (b 13), .ref (b 14), .ref (b 15), .ref (b 16), .ref (b 17), .ref (b 18), .int 0, .ref (b 20), .int 0, .int 0, .int 0, .ref (b 24), .ref (b 25), .ref (b 26), .int 0, .int 0, .ref (b 29), .ref (b 30), .int 0, .ref (b 32), .ref (b 33), .ref (b 34), .ref (b 35), .ref (b 36), .ref (b 37), .int 0, .int 0, .ref (b 40), .ref (b 41), .ref (b 42), .ref (b 43), .ref (b 44), .int 0, .ref (b 46), .ref (b 47), .ref (b 48)]))]) [1] (by decide) rfl
    have hFc := va_free (wc := [(b 0, .inr (12, [.int 0, .int 0, .ref (b 2), .ref (b 3), .ref (b 4), .int 0, .int 0, .int 0, .int 0, .ref (b 9), .int 0, .ref (b 11), .ref (b 12), .ref (b 13), .ref (b 14), .ref (b 15), .ref (b 16), .ref (b 17), .ref (b 18), .int 0, .ref (b 20), .int 0, .int 0, .int 0, .ref (b 24), .ref (b 25), .ref (b 26), .int 0, .int 0, .ref (b 29), .ref (b 30), .int 0, .ref (b 32), .ref (b 33), .ref (b 34), .ref (b 35), .ref (b 36), .ref (b 37), .int 0, .int 0, .ref (b 40), .ref (b 41), .ref (b 42), .ref (b 43), .ref (b 44), .int 0, .ref (b 46), .ref (b 47), .ref (b 48)]))]) hD hS hA [1] rfl
    refine va_calli (va_runV (As := []) (rest := []) ⟨hx, hb, hml, hown, hts⟩ (c_M_follow l D dA E b  H.size ) (cwV 0 hts (ga_V q580 q581 q578 q278 q579) rfl rfl rfl (by decide +kernel) ⟨(Nat.le_of_ble_eq_true rfl), (Nat.le_of_ble_eq_true rfl)⟩) ⟨pb_blind, va_recv hK hPc (ci := 12) (q0 := 0) rfl rfl, pb_pre hK hPc hDc hZ hS hFc _⟩ rfl rfl hl.1 rfl (lv_room (Nat.le_of_ble_eq_true rfl)) dL_law_887 ⟨(Nat.le_of_ble_eq_true rfl), (Nat.le_of_ble_eq_true rfl)⟩) hS (fun q _ h => hFc q h) hFc (fun r u t H1 locs ht hvm hw hB hz1 hk1 hS => ?_)
    refine W.widen (k := 66) (n := 11784) (Nat.le_of_ble_eq_true rfl) (Nat.le_of_ble_eq_true rfl) ?_
    obtain ⟨r4, rfl⟩ : ∃ z, z = r := ⟨_, rfl⟩
    obtain ⟨u5, rfl⟩ : ∃ z, z = u := ⟨_, rfl⟩
    have hw6 := hw
    clear hw
    obtain ⟨hP1, hD1⟩ := hB
    rw [ht] at hP1
    obtain ⟨hP, hD⟩ := va_join (wr := [(o, .inl (dA 3, 1, .inr (.inl u2)))]) (w1 := [(b 0, .inr (12, .int u5.1 :: u5.2))]) hP hD [1] [0] rfl rfl (by decide) (by decide) hk1 hFc hP1 hD1
    generalize H1 = H at hP hS ⊢
    have hP : va_P D vwCl [(o, .inl (dA 3, 1, .inr (.inl u2))), (b 0, .inr (12, .int u5.1 :: u5.2))] H := hP
    have hD : va_D A [(o, .inl (dA 3, 1, .inr (.inl u2))), (b 0, .inr (12, .int u5.1 :: u5.2))] := hD
    have hP := hP.sub (ws' := [(b 0, .inr (12, .int u5.1 :: u5.2)), (o, .inl (dA 3, 1, .inr (.inl u2)))]) [1, 0] rfl
    have hD := hD.sub (ws' := [(b 0, .inr (12, .int u5.1 :: u5.2)), (o, .inl (dA 3, 1, .inr (.inl u2)))]) [1, 0] (by decide) rfl
    have hm : u5.1 = 1 := hw6
    rw [hm] at hP hD
    have hP : va_P D vwCl [(b 0, .inr (12, .int 1 :: u5.2)), (o, .inl (dA 3, 1, .inr (.inl u2)))] H := hP
    have hD : va_D A [(b 0, .inr (12, .int 1 :: u5.2)), (o, .inl (dA 3, 1, .inr (.inl u2)))] := hD
    refine lv_istore (lv' := [(7, .int r4), (6, .int 1), (5, .int 0), (4, .ref od), (3, .ref o), (2, .ref (b 0)), (1, .ref (a 0)), (0, .ref bs)]) hx hb dL_law_890 hl (by decide) rfl (fun ls hl => ?_)
    refine lv_aload_n hx hb dL_law_892 rfl (lv_at hl 5 rfl) ?_
    have hPc := hP.sub (ws' := [(b 0, .inr (12, .int 1 :: u5.2))]) [0] rfl
    have hDc := hD.sub (ws' := [(b 0, .inr (12, .int 1 :: u5.2))]) [0] (by decide) rfl
    have hFc := va_free (wc := [(b 0, .inr (12, .int 1 :: u5.2))]) hD hS hA [0] rfl
    refine va_calli (va_runV (As := []) (rest := []) ⟨hx, hb, hml, hown, hts⟩ (c_M_thrown l D dA E (b 0) 1 u5.2 H.size ) (cwV 0 hts (ga_V q470 q471 q468 q278 q469) rfl rfl rfl (by decide +kernel) ⟨(Nat.le_of_ble_eq_true rfl), (Nat.le_of_ble_eq_true rfl)⟩) ⟨pb_blind, va_recv hK hPc (ci := 12) (q0 := 0) rfl rfl, pb_pre hK hPc hDc hZ hS hFc _⟩ rfl rfl hl.1 rfl (lv_room (Nat.le_of_ble_eq_true rfl)) dL_law_893 ⟨(Nat.le_of_ble_eq_true rfl), (Nat.le_of_ble_eq_true rfl)⟩) hS (fun q _ h => hFc q h) hFc (fun r u t H1 locs ht hvm hw hB hz1 hk1 hS => ?_)
    refine W.widen (k := 66) (n := 11784) (Nat.le_of_ble_eq_true rfl) (Nat.le_of_ble_eq_true rfl) ?_
    obtain ⟨r7, rfl⟩ : ∃ z, z = r := ⟨_, rfl⟩
    obtain ⟨u8, rfl⟩ : ∃ z, z = u := ⟨_, rfl⟩
    have hw9 := hw
    clear hw
    obtain ⟨hP, hD⟩ := jn_drop (wr := [(o, .inl (dA 3, 1, .inr (.inl u2)))]) hP hD [0] [1] rfl rfl (by decide) (by decide) hk1 hFc
    generalize H1 = H at hP hS ⊢
    have hP : va_P D vwCl [(o, .inl (dA 3, 1, .inr (.inl u2)))] H := hP
    have hD : va_D A [(o, .inl (dA 3, 1, .inr (.inl u2)))] := hD
    obtain rfl : r7 = 1 := hw9
    refine lv_iload hx hb dL_law_896 (lv_at hl 1 rfl) ?_
    refine lv_icmp_eq (tgt := 903) hx hb dL_law_898 (by decide) (fun _ => ?_) (fun c10 => absurd (by decide) c10)
    refine lv_iload hx hb dL_law_903 (lv_at hl 1 rfl) ?_
    refine lv_if_ne (tgt := 920) hx hb dL_law_905 (by decide) (fun _ => ?_) (fun c11 => absurd c11 (by decide))
    refine lv_goto (tgt := 2346) hx hb dL_law_920 (by decide) ?_
    exact law_tail l C0 rfl (by rw [hAe]; exact hS) (Nat.le_of_ble_eq_true rfl) (Nat.le_of_ble_eq_true rfl) ls (lv_sub hl [7, 2] rfl)

set_option maxHeartbeats 4000000 in
set_option maxRecDepth 100000 in
/-- the law at isOnReplica -/
theorem law_16 {p : Program} {e : Env} {s : State} {m : MethodId} {below : List Frame} {meth : Method} {c : Code} (l : Launch) (hlt : l.stackTraces = false) {bs L : Nat} {xs : Nat → Int32} (C0 : lw_At p s m meth c bs L xs) (hL6 : L = 6) (D : va_G) (dA : Nat → ClassId) (E : Nat) (A : Nat → Prop) (hAe : (fun q : Nat => s.heap.size ≤ q) = A) (a b : Nat → Nat) (o od : Nat) (hK : va_K D vwCl (TY dA) s) (hZ : ZZ dA E A s s.heap) (H : Heap) (locs : List Loc) (hP : va_P D vwCl [(a 0, .inr (11, [.ref (a 1), .ref (a 2), .ref (a 3), .ref (a 4), .ref (a 5), .ref (a 10), .ref (a 15), .ref (a 17), .null, .int 0, .int 0, .int 0])), (a 2, .inr (2, [.int 0, .ref E, .int 0])), (o, .inl (dA 3, 1, .inr (.inl (fun _ => 0)))), (b 0, .inr (12, [.int 0, .int 0, .ref (b 2), .ref (b 3), .ref (b 4), .int 0, .int 0, .int 0, .int 0, .ref (b 9), .int 0, .ref (b 11), .ref (b 12), .ref (b 13), .ref (b 14), .ref (b 15), .ref (b 16), .ref (b 17), .ref (b 18), .int 0, .ref (b 20), .int 0, .int 0, .int 0, .ref (b 24), .ref (b 25), .ref (b 26), .int 0, .int 0, .ref (b 29), .ref (b 30), .int 0, .ref (b 32), .ref (b 33), .ref (b 34), .ref (b 35), .ref (b 36), .ref (b 37), .int 0, .int 0, .ref (b 40), .ref (b 41), .ref (b 42), .ref (b 43), .ref (b 44), .int 0, .ref (b 46), .ref (b 47), .ref (b 48)]))] H) (hD : va_D A [(a 0, .inr (11, [.ref (a 1), .ref (a 2), .ref (a 3), .ref (a 4), .ref (a 5), .ref (a 10), .ref (a 15), .ref (a 17), .null, .int 0, .int 0, .int 0])), (a 2, .inr (2, [.int 0, .ref E, .int 0])), (o, .inl (dA 3, 1, .inr (.inl (fun _ => 0)))), (b 0, .inr (12, [.int 0, .int 0, .ref (b 2), .ref (b 3), .ref (b 4), .int 0, .int 0, .int 0, .int 0, .ref (b 9), .int 0, .ref (b 11), .ref (b 12), .ref (b 13), .ref (b 14), .ref (b 15), .ref (b 16), .ref (b 17), .ref (b 18), .int 0, .ref (b 20), .int 0, .int 0, .int 0, .ref (b 24), .ref (b 25), .ref (b 26), .int 0, .int 0, .ref (b 29), .ref (b 30), .int 0, .ref (b 32), .ref (b 33), .ref (b 34), .ref (b 35), .ref (b 36), .ref (b 37), .int 0, .int 0, .ref (b 40), .ref (b 41), .ref (b 42), .ref (b 43), .ref (b 44), .int 0, .ref (b 46), .ref (b 47), .ref (b 48)]))]) (hS : va_S A s.heap H locs) (ls : Array Slot) (hl : lv_has ls 9 [(5, .int 0), (4, .ref od), (3, .ref o), (2, .ref (b 0)), (1, .ref (a 0)), (0, .ref bs)]) : W p l e room_1 s m #[Value.ref bs] below meth c H locs 65 11778 (lw_Z below #[Value.ref bs] s) (F0 m 923 ls []) := by
  subst hL6
  obtain ⟨hx, hb, hr, hml, hown, hts0, hX, hbl, hlocks, hgv⟩ := id C0
  have hts : ∀ w ∈ WA, w.before #[Value.ref bs] s = true := fun w h => hts0 w (WA_tbl h)
  have hA : ∀ q : Nat, s.heap.size ≤ q → A q := fun q h => by rw [← hAe]; exact h
  have hbA : ¬ A bs := by rw [← hAe]; exact Nat.not_le.mpr hbl
  refine lv_aload_n hx hb dL_law_923 rfl (lv_at hl 4 rfl) ?_
  refine lv_aload_n hx hb dL_law_924 rfl (lv_at hl 5 rfl) ?_
  refine lv_iload hx hb dL_law_925 (lv_at hl 0 rfl) ?_
  refine lv_iconst (v := 1) hx hb dL_law_927 (by decide) ?_
  refine lv_iadd hx hb dL_law_928 ?_
  refine lv_topi (fun x1 ex1 => ?_)
  replace ex1 : x1 = 1 := ex1.trans (by decide)
  subst ex1
  refine va_sld hx hb hX hbl hbA hS (vi_c (by decide)) dL_law_929 ?_
  refine lv_topi (fun x2 ex2 => ?_)
  refine lv_aload_n hx hb dL_law_930 rfl (lv_at hl 2 rfl) ?_
  have hPc := hP.sub (ws' := [(a 0, .inr (11, [.ref (a 1), .ref (a 2), .ref (a 3), .ref (a 4), .ref (a 5), .ref (a 10), .ref (a 15), .ref (a 17), .null, .int 0, .int 0, .int 0])), (a 2, .inr (2, [.int 0, .ref E, .int 0])), (o, .inl (dA 3, 1, .inr (.inl (fun _ => 0))))]) [0, 1, 2] rfl
  have hDc := hD.sub (ws' := [(a 0, .inr (11, [.ref (a 1), .ref (a 2), .ref (a 3), .ref (a 4), .ref (a 5), .ref (a 10), .ref (a 15), .ref (a 17), .null, .int 0, .int 0, .int 0])), (a 2, .inr (2, [.int 0, .ref E, .int 0])), (o, .inl (dA 3, 1, .inr (.inl (fun _ => 0))))]) [0, 1, 2] (by decide) rfl
  have hFc := va_free (wc := [(a 0, .inr (11, [.ref (a 1), .ref (a 2), .ref (a 3), .ref (a 4), .ref (a 5), .ref (a 10), .ref (a 15), .ref (a 17), .null, .int 0, .int 0, .int 0])), (a 2, .inr (2, [.int 0, .ref E, .int 0])), (o, .inl (dA 3, 1, .inr (.inl (fun _ => 0))))]) hD hS hA [0, 1, 2] rfl
  refine vx_calli (vx_runSX (As := [.ref (a 0), .int x2, .ref o]) (rest := []) ⟨hx, hb, hml, hown, hts⟩ (c_L_isOnReplica l hlt D dA E a o (fun _ => 0) x2 H.size ) (vx_cwSW 3 hts (ga_S q583 q584 q463 q582) rfl rfl rfl (by decide +kernel) ⟨(Nat.le_of_ble_eq_true rfl), (Nat.le_of_ble_eq_true rfl)⟩) ⟨pb_blind, pb_pre hK hPc hDc hZ hS hFc _⟩ rfl rfl hl.1 rfl (lv_room (Nat.le_of_ble_eq_true rfl)) dL_law_931 ⟨(Nat.le_of_ble_eq_true rfl), (Nat.le_of_ble_eq_true rfl)⟩) hS (fun q _ h => hFc q h) hFc (fun q _ h => hFc q h) (fun E9 ce q9 k t H1 locs ht hvm hpx hBX hz1 hk1 hS hce hcv hcl => ?_) (fun r u t H1 locs ht hvm hw hB hz1 hk1 hS => ?_)
  · exact hpx.elim
  · refine W.widen (k := 66) (n := 11784) (Nat.le_of_ble_eq_true rfl) (Nat.le_of_ble_eq_true rfl) ?_
    obtain ⟨r3, rfl⟩ : ∃ z, z = r := ⟨_, rfl⟩
    obtain ⟨u4, rfl⟩ : ∃ z, z = u := ⟨_, rfl⟩
    have hw5 := hw
    clear hw
    obtain ⟨hP1, hD1⟩ := hB
    rw [ht] at hP1
    obtain ⟨hP, hD⟩ := va_join (wr := [(b 0, .inr (12, [.int 0, .int 0, .ref (b 2), .ref (b 3), .ref (b 4), .int 0, .int 0, .int 0, .int 0, .ref (b 9), .int 0, .ref (b 11), .ref (b 12), .ref (b 13), .ref (b 14), .ref (b 15), .ref (b 16), .ref (b 17), .ref (b 18), .int 0, .ref (b 20), .int 0, .int 0, .int 0, .ref (b 24), .ref (b 25), .ref (b 26), .int 0, .int 0, .ref (b 29), .ref (b 30), .int 0, .ref (b 32), .ref (b 33), .ref (b 34), .ref (b 35), .ref (b 36), .ref (b 37), .int 0, .int 0, .ref (b 40), .ref (b 41), .ref (b 42), .ref (b 43), .ref (b 44), .int 0, .ref (b 46), .ref (b 47), .ref (b 48)]))]) (w1 := [(o, .inl (dA 3, 1, .inr (.inl u4)))]) hP hD [0, 1, 2] [3] rfl rfl (by decide) (by decide) hk1 hFc hP1 hD1
    generalize H1 = H at hP hS ⊢
    have hP : va_P D vwCl [(b 0, .inr (12, [.int 0, .int 0, .ref (b 2), .ref (b 3), .ref (b 4), .int 0, .int 0, .int 0, .int 0, .ref (b 9), .int 0, .ref (b 11), .ref (b 12), .ref (b 13), .ref (b 14), .ref (b 15), .ref (b 16), .ref (b 17), .ref (b 18), .int 0, .ref (b 20), .int 0, .int 0, .int 0, .ref (b 24), .ref (b 25), .ref (b 26), .int 0, .int 0, .ref (b 29), .ref (b 30), .int 0, .ref (b 32), .ref (b 33), .ref (b 34), .ref (b 35), .ref (b 36), .ref (b 37), .int 0, .int 0, .ref (b 40), .ref (b 41), .ref (b 42), .ref (b 43), .ref (b 44), .int 0, .ref (b 46), .ref (b 47), .ref (b 48)])), (o, .inl (dA 3, 1, .inr (.inl u4)))] H := hP
    have hD : va_D A [(b 0, .inr (12, [.int 0, .int 0, .ref (b 2), .ref (b 3), .ref (b 4), .int 0, .int 0, .int 0, .int 0, .ref (b 9), .int 0, .ref (b 11), .ref (b 12), .ref (b 13), .ref (b 14), .ref (b 15), .ref (b 16), .ref (b 17), .ref (b 18), .int 0, .ref (b 20), .int 0, .int 0, .int 0, .ref (b 24), .ref (b 25), .ref (b 26), .int 0, .int 0, .ref (b 29), .ref (b 30), .int 0, .ref (b 32), .ref (b 33), .ref (b 34), .ref (b 35), .ref (b 36), .ref (b 37), .int 0, .int 0, .ref (b 40), .ref (b 41), .ref (b 42), .ref (b 43), .ref (b 44), .int 0, .ref (b 46), .ref (b 47), .ref (b 48)])), (o, .inl (dA 3, 1, .inr (.inl u4)))] := hD
    have hP := hP.sub (ws' := [(o, .inl (dA 3, 1, .inr (.inl u4))), (b 0, .inr (12, [.int 0, .int 0, .ref (b 2), .ref (b 3), .ref (b 4), .int 0, .int 0, .int 0, .int 0, .ref (b 9), .int 0, .ref (b 11), .ref (b 12), .ref (b 13), .ref (b 14), .ref (b 15), .ref (b 16), .ref (b 17), .ref (b 18), .int 0, .ref (b 20), .int 0, .int 0, .int 0, .ref (b 24), .ref (b 25), .ref (b 26), .int 0, .int 0, .ref (b 29), .ref (b 30), .int 0, .ref (b 32), .ref (b 33), .ref (b 34), .ref (b 35), .ref (b 36), .ref (b 37), .int 0, .int 0, .ref (b 40), .ref (b 41), .ref (b 42), .ref (b 43), .ref (b 44), .int 0, .ref (b 46), .ref (b 47), .ref (b 48)]))]) [1, 0] rfl
    have hD := hD.sub (ws' := [(o, .inl (dA 3, 1, .inr (.inl u4))), (b 0, .inr (12, [.int 0, .int 0, .ref (b 2), .ref (b 3), .ref (b 4), .int 0, .int 0, .int 0, .int 0, .ref (b 9), .int 0, .ref (b 11), .ref (b 12), .ref (b 13), .ref (b 14), .ref (b 15), .ref (b 16), .ref (b 17), .ref (b 18), .int 0, .ref (b 20), .int 0, .int 0, .int 0, .ref (b 24), .ref (b 25), .ref (b 26), .int 0, .int 0, .ref (b 29), .ref (b 30), .int 0, .ref (b 32), .ref (b 33), .ref (b 34), .ref (b 35), .ref (b 36), .ref (b 37), .int 0, .int 0, .ref (b 40), .ref (b 41), .ref (b 42), .ref (b 43), .ref (b 44), .int 0, .ref (b 46), .ref (b 47), .ref (b 48)]))]) [1, 0] (by decide) rfl
    have hk := hw5
    obtain rfl : r3 = 1 := hk
    refine lv_istore (lv' := [(6, .int 1), (5, .int 0), (4, .ref od), (3, .ref o), (2, .ref (b 0)), (1, .ref (a 0)), (0, .ref bs)]) hx hb dL_law_934 hl (by decide) rfl (fun ls hl => ?_)
    refine lv_aload_n hx hb dL_law_936 rfl (lv_at hl 4 rfl) ?_
    refine lv_aload_n hx hb dL_law_937 rfl (lv_at hl 6 rfl) ?_
    refine lv_iload hx hb dL_law_938 (lv_at hl 1 rfl) ?_
    refine lv_iconst (v := 1) hx hb dL_law_940 (by decide) ?_
    refine lv_iadd hx hb dL_law_941 ?_
    refine lv_topi (fun x6 ex6 => ?_)
    replace ex6 : x6 = 1 := ex6.trans (by decide)
    subst ex6
    refine va_sld hx hb hX hbl hbA hS (vi_c (by decide)) dL_law_942 ?_
    refine lv_topi (fun x7 ex7 => ?_)
    obtain rfl : x2 = x7 := ex2.trans ex7.symm
    have hPc := hP.sub (ws' := [(b 0, .inr (12, [.int 0, .int 0, .ref (b 2), .ref (b 3), .ref (b 4), .int 0, .int 0, .int 0, .int 0, .ref (b 9), .int 0, .ref (b 11), .ref (b 12), .ref (b 13), .ref (b 14), .ref (b 15), .ref (b 16), .ref (b 17), .ref (b 18), .int 0, .ref (b 20), .int 0, .int 0, .int 0, .ref (b 24), .ref (b 25), .ref (b 26), .int 0, .int 0, .ref (b 29), .ref (b 30), .int 0, .ref (b 32), .ref (b 33), .ref (b 34), .ref (b 35), .ref (b 36), .ref (b 37), .int 0, .int 0, .ref (b 40), .ref (b 41), .ref (b 42), .ref (b 43), .ref (b 44), .int 0, .ref (b 46), .ref (b 47), .ref (b 48)]))]) [1] rfl
    have hDc := hD.sub (ws' := [(b 0, .inr (12, [.int 0, .int 0, .ref (b 2), .ref (b 3), .ref (b 4), .int 0, .int 0, .int 0, .int 0, .ref (b 9), .int 0, .ref (b 11), .ref (b 12), .ref (b 13), .ref (b 14), .ref (b 15), .ref (b 16), .ref (b 17), .ref (b 18), .int 0, .ref (b 20), .int 0, .int 0, .int 0, .ref (b 24), .ref (b 25), .ref (b 26), .int 0, .int 0, .ref (b 29), .ref (b 30), .int 0, .ref (b 32), .ref (b 33), .ref (b 34), .ref (b 35), .ref (b 36), .ref (b 37), .int 0, .int 0, .ref (b 40), .ref (b 41), .ref (b 42), .ref (b 43), .ref (b 44), .int 0, .ref (b 46), .ref (b 47), .ref (b 48)]))]) [1] (by decide) rfl
    have hFc := va_free (wc := [(b 0, .inr (12, [.int 0, .int 0, .ref (b 2), .ref (b 3), .ref (b 4), .int 0, .int 0, .int 0, .int 0, .ref (b 9), .int 0, .ref (b 11), .ref (b 12), .ref (b 13), .ref (b 14), .ref (b 15), .ref (b 16), .ref (b 17), .ref (b 18), .int 0, .ref (b 20), .int 0, .int 0, .int 0, .ref (b 24), .ref (b 25), .ref (b 26), .int 0, .int 0, .ref (b 29), .ref (b 30), .int 0, .ref (b 32), .ref (b 33), .ref (b 34), .ref (b 35), .ref (b 36), .ref (b 37), .int 0, .int 0, .ref (b 40), .ref (b 41), .ref (b 42), .ref (b 43), .ref (b 44), .int 0, .ref (b 46), .ref (b 47), .ref (b 48)]))]) hD hS hA [1] rfl
    refine va_calli (va_runV (As := [.int x2]) (rest := []) ⟨hx, hb, hml, hown, hts⟩ (c_M_isOnReplica l D dA E b x2 H.size ) (cwV 1 hts (ga_V q587 q588 q585 q278 q586) rfl rfl rfl (by decide +kernel) ⟨(Nat.le_of_ble_eq_true rfl), (Nat.le_of_ble_eq_true rfl)⟩) ⟨pb_blind, va_recv hK hPc (ci := 12) (q0 := 0) rfl rfl, pb_pre hK hPc hDc hZ hS hFc _⟩ rfl rfl hl.1 rfl (lv_room (Nat.le_of_ble_eq_true rfl)) dL_law_943 ⟨(Nat.le_of_ble_eq_true rfl), (Nat.le_of_ble_eq_true rfl)⟩) hS (fun q _ h => hFc q h) hFc (fun r u t H1 locs ht hvm hw hB hz1 hk1 hS => ?_)
    refine W.widen (k := 66) (n := 11784) (Nat.le_of_ble_eq_true rfl) (Nat.le_of_ble_eq_true rfl) ?_
    obtain ⟨r8, rfl⟩ : ∃ z, z = r := ⟨_, rfl⟩
    obtain ⟨u9, rfl⟩ : ∃ z, z = u := ⟨_, rfl⟩
    have hw10 := hw
    clear hw
    obtain ⟨hP1, hD1⟩ := hB
    rw [ht] at hP1
    obtain ⟨hP, hD⟩ := va_join (wr := [(o, .inl (dA 3, 1, .inr (.inl u4)))]) (w1 := [(b 0, .inr (12, .int u9.1 :: u9.2))]) hP hD [1] [0] rfl rfl (by decide) (by decide) hk1 hFc hP1 hD1
    generalize H1 = H at hP hS ⊢
    have hP : va_P D vwCl [(o, .inl (dA 3, 1, .inr (.inl u4))), (b 0, .inr (12, .int u9.1 :: u9.2))] H := hP
    have hD : va_D A [(o, .inl (dA 3, 1, .inr (.inl u4))), (b 0, .inr (12, .int u9.1 :: u9.2))] := hD
    have hP := hP.sub (ws' := [(b 0, .inr (12, .int u9.1 :: u9.2)), (o, .inl (dA 3, 1, .inr (.inl u4)))]) [1, 0] rfl
    have hD := hD.sub (ws' := [(b 0, .inr (12, .int u9.1 :: u9.2)), (o, .inl (dA 3, 1, .inr (.inl u4)))]) [1, 0] (by decide) rfl
    have hm : u9.1 = 1 := hw10
    rw [hm] at hP hD
    have hP : va_P D vwCl [(b 0, .inr (12, .int 1 :: u9.2)), (o, .inl (dA 3, 1, .inr (.inl u4)))] H := hP
    have hD : va_D A [(b 0, .inr (12, .int 1 :: u9.2)), (o, .inl (dA 3, 1, .inr (.inl u4)))] := hD
    refine lv_istore (lv' := [(7, .int r8), (6, .int 1), (5, .int 0), (4, .ref od), (3, .ref o), (2, .ref (b 0)), (1, .ref (a 0)), (0, .ref bs)]) hx hb dL_law_946 hl (by decide) rfl (fun ls hl => ?_)
    refine lv_aload_n hx hb dL_law_948 rfl (lv_at hl 5 rfl) ?_
    have hPc := hP.sub (ws' := [(b 0, .inr (12, .int 1 :: u9.2))]) [0] rfl
    have hDc := hD.sub (ws' := [(b 0, .inr (12, .int 1 :: u9.2))]) [0] (by decide) rfl
    have hFc := va_free (wc := [(b 0, .inr (12, .int 1 :: u9.2))]) hD hS hA [0] rfl
    refine va_calli (va_runV (As := []) (rest := []) ⟨hx, hb, hml, hown, hts⟩ (c_M_thrown l D dA E (b 0) 1 u9.2 H.size ) (cwV 0 hts (ga_V q470 q471 q468 q278 q469) rfl rfl rfl (by decide +kernel) ⟨(Nat.le_of_ble_eq_true rfl), (Nat.le_of_ble_eq_true rfl)⟩) ⟨pb_blind, va_recv hK hPc (ci := 12) (q0 := 0) rfl rfl, pb_pre hK hPc hDc hZ hS hFc _⟩ rfl rfl hl.1 rfl (lv_room (Nat.le_of_ble_eq_true rfl)) dL_law_949 ⟨(Nat.le_of_ble_eq_true rfl), (Nat.le_of_ble_eq_true rfl)⟩) hS (fun q _ h => hFc q h) hFc (fun r u t H1 locs ht hvm hw hB hz1 hk1 hS => ?_)
    refine W.widen (k := 66) (n := 11784) (Nat.le_of_ble_eq_true rfl) (Nat.le_of_ble_eq_true rfl) ?_
    obtain ⟨r11, rfl⟩ : ∃ z, z = r := ⟨_, rfl⟩
    obtain ⟨u12, rfl⟩ : ∃ z, z = u := ⟨_, rfl⟩
    have hw13 := hw
    clear hw
    obtain ⟨hP, hD⟩ := jn_drop (wr := [(o, .inl (dA 3, 1, .inr (.inl u4)))]) hP hD [0] [1] rfl rfl (by decide) (by decide) hk1 hFc
    generalize H1 = H at hP hS ⊢
    have hP : va_P D vwCl [(o, .inl (dA 3, 1, .inr (.inl u4)))] H := hP
    have hD : va_D A [(o, .inl (dA 3, 1, .inr (.inl u4)))] := hD
    obtain rfl : r11 = 1 := hw13
    refine lv_iload hx hb dL_law_952 (lv_at hl 1 rfl) ?_
    refine lv_icmp_eq (tgt := 959) hx hb dL_law_954 (by decide) (fun _ => ?_) (fun c14 => absurd (by decide) c14)
    refine lv_iload hx hb dL_law_959 (lv_at hl 1 rfl) ?_
    refine lv_if_ne (tgt := 983) hx hb dL_law_961 (by decide) (fun _ => ?_) (fun c15 => absurd c15 (by decide))
    refine lv_goto (tgt := 2346) hx hb dL_law_983 (by decide) ?_
    exact law_tail l C0 rfl (by rw [hAe]; exact hS) (Nat.le_of_ble_eq_true rfl) (Nat.le_of_ble_eq_true rfl) ls (lv_sub hl [7, 2] rfl)

set_option maxHeartbeats 4000000 in
set_option maxRecDepth 100000 in
/-- the law at openView -/
theorem law_17 {p : Program} {e : Env} {s : State} {m : MethodId} {below : List Frame} {meth : Method} {c : Code} (l : Launch) (hlt : l.stackTraces = false) {bs L : Nat} {xs : Nat → Int32} (C0 : lw_At p s m meth c bs L xs) (hL6 : L = 6) (D : va_G) (dA : Nat → ClassId) (E : Nat) (A : Nat → Prop) (hAe : (fun q : Nat => s.heap.size ≤ q) = A) (a b : Nat → Nat) (o od : Nat) (hK : va_K D vwCl (TY dA) s) (hZ : ZZ dA E A s s.heap) (H : Heap) (locs : List Loc) (hP : va_P D vwCl [(a 0, .inr (11, [.ref (a 1), .ref (a 2), .ref (a 3), .ref (a 4), .ref (a 5), .ref (a 10), .ref (a 15), .ref (a 17), .null, .int 0, .int 0, .int 0])), (a 3, .inr (2, [.int 0, .ref E, .int 0])), (a 5, .inr (7, [.ref (a 6), .ref (a 8), .int 0, .int 0])), (o, .inl (dA 3, 1, .inr (.inl (fun _ => 0)))), (b 0, .inr (12, [.int 0, .int 0, .ref (b 2), .ref (b 3), .ref (b 4), .int 0, .int 0, .int 0, .int 0, .ref (b 9), .int 0, .ref (b 11), .ref (b 12), .ref (b 13), .ref (b 14), .ref (b 15), .ref (b 16), .ref (b 17), .ref (b 18), .int 0, .ref (b 20), .int 0, .int 0, .int 0, .ref (b 24), .ref (b 25), .ref (b 26), .int 0, .int 0, .ref (b 29), .ref (b 30), .int 0, .ref (b 32), .ref (b 33), .ref (b 34), .ref (b 35), .ref (b 36), .ref (b 37), .int 0, .int 0, .ref (b 40), .ref (b 41), .ref (b 42), .ref (b 43), .ref (b 44), .int 0, .ref (b 46), .ref (b 47), .ref (b 48)])), (b 29, .inl (dA 0, 4, .inl (fun _ => 0))), (b 30, .inl (dA 2, 120, .inl (fun _ => 0)))] H) (hD : va_D A [(a 0, .inr (11, [.ref (a 1), .ref (a 2), .ref (a 3), .ref (a 4), .ref (a 5), .ref (a 10), .ref (a 15), .ref (a 17), .null, .int 0, .int 0, .int 0])), (a 3, .inr (2, [.int 0, .ref E, .int 0])), (a 5, .inr (7, [.ref (a 6), .ref (a 8), .int 0, .int 0])), (o, .inl (dA 3, 1, .inr (.inl (fun _ => 0)))), (b 0, .inr (12, [.int 0, .int 0, .ref (b 2), .ref (b 3), .ref (b 4), .int 0, .int 0, .int 0, .int 0, .ref (b 9), .int 0, .ref (b 11), .ref (b 12), .ref (b 13), .ref (b 14), .ref (b 15), .ref (b 16), .ref (b 17), .ref (b 18), .int 0, .ref (b 20), .int 0, .int 0, .int 0, .ref (b 24), .ref (b 25), .ref (b 26), .int 0, .int 0, .ref (b 29), .ref (b 30), .int 0, .ref (b 32), .ref (b 33), .ref (b 34), .ref (b 35), .ref (b 36), .ref (b 37), .int 0, .int 0, .ref (b 40), .ref (b 41), .ref (b 42), .ref (b 43), .ref (b 44), .int 0, .ref (b 46), .ref (b 47), .ref (b 48)])), (b 29, .inl (dA 0, 4, .inl (fun _ => 0))), (b 30, .inl (dA 2, 120, .inl (fun _ => 0)))]) (hS : va_S A s.heap H locs) (ls : Array Slot) (hl : lv_has ls 9 [(5, .int 0), (4, .ref od), (3, .ref o), (2, .ref (b 0)), (1, .ref (a 0)), (0, .ref bs)]) : W p l e room_1 s m #[Value.ref bs] below meth c H locs 65 11778 (lw_Z below #[Value.ref bs] s) (F0 m 986 ls []) := by
  subst hL6
  obtain ⟨hx, hb, hr, hml, hown, hts0, hX, hbl, hlocks, hgv⟩ := id C0
  have hts : ∀ w ∈ WA, w.before #[Value.ref bs] s = true := fun w h => hts0 w (WA_tbl h)
  have hA : ∀ q : Nat, s.heap.size ≤ q → A q := fun q h => by rw [← hAe]; exact h
  have hbA : ¬ A bs := by rw [← hAe]; exact Nat.not_le.mpr hbl
  refine lv_aload_n hx hb dL_law_986 rfl (lv_at hl 4 rfl) ?_
  refine lv_aload_n hx hb dL_law_987 rfl (lv_at hl 2 rfl) ?_
  have hPc := hP.sub (ws' := [(a 0, .inr (11, [.ref (a 1), .ref (a 2), .ref (a 3), .ref (a 4), .ref (a 5), .ref (a 10), .ref (a 15), .ref (a 17), .null, .int 0, .int 0, .int 0])), (a 3, .inr (2, [.int 0, .ref E, .int 0])), (a 5, .inr (7, [.ref (a 6), .ref (a 8), .int 0, .int 0])), (o, .inl (dA 3, 1, .inr (.inl (fun _ => 0))))]) [0, 1, 2, 3] rfl
  have hDc := hD.sub (ws' := [(a 0, .inr (11, [.ref (a 1), .ref (a 2), .ref (a 3), .ref (a 4), .ref (a 5), .ref (a 10), .ref (a 15), .ref (a 17), .null, .int 0, .int 0, .int 0])), (a 3, .inr (2, [.int 0, .ref E, .int 0])), (a 5, .inr (7, [.ref (a 6), .ref (a 8), .int 0, .int 0])), (o, .inl (dA 3, 1, .inr (.inl (fun _ => 0))))]) [0, 1, 2, 3] (by decide) rfl
  have hFc := va_free (wc := [(a 0, .inr (11, [.ref (a 1), .ref (a 2), .ref (a 3), .ref (a 4), .ref (a 5), .ref (a 10), .ref (a 15), .ref (a 17), .null, .int 0, .int 0, .int 0])), (a 3, .inr (2, [.int 0, .ref E, .int 0])), (a 5, .inr (7, [.ref (a 6), .ref (a 8), .int 0, .int 0])), (o, .inl (dA 3, 1, .inr (.inl (fun _ => 0))))]) hD hS hA [0, 1, 2, 3] rfl
  refine vx_calli (vx_runSX (As := [.ref (a 0), .ref o]) (rest := []) ⟨hx, hb, hml, hown, hts⟩ (c_L_openView l hlt D dA E a o (fun _ => 0)  H.size ) (vx_cwSW 2 hts (ga_S q590 q591 q463 q589) rfl rfl rfl (by decide +kernel) ⟨(Nat.le_of_ble_eq_true rfl), (Nat.le_of_ble_eq_true rfl)⟩) ⟨pb_blind, pb_pre hK hPc hDc hZ hS hFc _⟩ rfl rfl hl.1 rfl (lv_room (Nat.le_of_ble_eq_true rfl)) dL_law_988 ⟨(Nat.le_of_ble_eq_true rfl), (Nat.le_of_ble_eq_true rfl)⟩) hS (fun q _ h => hFc q h) hFc (fun q _ h => hFc q h) (fun E9 ce q9 k t H1 locs ht hvm hpx hBX hz1 hk1 hS hce hcv hcl => ?_) (fun r u t H1 locs ht hvm hw hB hz1 hk1 hS => ?_)
  · exact hpx.elim
  · refine W.widen (k := 69) (n := 11822) (Nat.le_of_ble_eq_true rfl) (Nat.le_of_ble_eq_true rfl) ?_
    obtain ⟨r1, rfl⟩ : ∃ z, z = r := ⟨_, rfl⟩
    obtain ⟨u2, rfl⟩ : ∃ z, z = u := ⟨_, rfl⟩
    have hw3 := hw
    clear hw
    obtain ⟨hP1, hD1⟩ := hB
    rw [ht] at hP1
    obtain ⟨hP, hD⟩ := va_join (wr := [(b 0, .inr (12, [.int 0, .int 0, .ref (b 2), .ref (b 3), .ref (b 4), .int 0, .int 0, .int 0, .int 0, .ref (b 9), .int 0, .ref (b 11), .ref (b 12), .ref (b 13), .ref (b 14), .ref (b 15), .ref (b 16), .ref (b 17), .ref (b 18), .int 0, .ref (b 20), .int 0, .int 0, .int 0, .ref (b 24), .ref (b 25), .ref (b 26), .int 0, .int 0, .ref (b 29), .ref (b 30), .int 0, .ref (b 32), .ref (b 33), .ref (b 34), .ref (b 35), .ref (b 36), .ref (b 37), .int 0, .int 0, .ref (b 40), .ref (b 41), .ref (b 42), .ref (b 43), .ref (b 44), .int 0, .ref (b 46), .ref (b 47), .ref (b 48)])), (b 29, .inl (dA 0, 4, .inl (fun _ => 0))), (b 30, .inl (dA 2, 120, .inl (fun _ => 0)))]) (w1 := [(o, .inl (dA 3, 1, .inr (.inl u2)))]) hP hD [0, 1, 2, 3] [4, 5, 6] rfl rfl (by decide) (by decide) hk1 hFc hP1 hD1
    generalize H1 = H at hP hS ⊢
    have hP : va_P D vwCl [(b 0, .inr (12, [.int 0, .int 0, .ref (b 2), .ref (b 3), .ref (b 4), .int 0, .int 0, .int 0, .int 0, .ref (b 9), .int 0, .ref (b 11), .ref (b 12), .ref (b 13), .ref (b 14), .ref (b 15), .ref (b 16), .ref (b 17), .ref (b 18), .int 0, .ref (b 20), .int 0, .int 0, .int 0, .ref (b 24), .ref (b 25), .ref (b 26), .int 0, .int 0, .ref (b 29), .ref (b 30), .int 0, .ref (b 32), .ref (b 33), .ref (b 34), .ref (b 35), .ref (b 36), .ref (b 37), .int 0, .int 0, .ref (b 40), .ref (b 41), .ref (b 42), .ref (b 43), .ref (b 44), .int 0, .ref (b 46), .ref (b 47), .ref (b 48)])), (b 29, .inl (dA 0, 4, .inl (fun _ => 0))), (b 30, .inl (dA 2, 120, .inl (fun _ => 0))), (o, .inl (dA 3, 1, .inr (.inl u2)))] H := hP
    have hD : va_D A [(b 0, .inr (12, [.int 0, .int 0, .ref (b 2), .ref (b 3), .ref (b 4), .int 0, .int 0, .int 0, .int 0, .ref (b 9), .int 0, .ref (b 11), .ref (b 12), .ref (b 13), .ref (b 14), .ref (b 15), .ref (b 16), .ref (b 17), .ref (b 18), .int 0, .ref (b 20), .int 0, .int 0, .int 0, .ref (b 24), .ref (b 25), .ref (b 26), .int 0, .int 0, .ref (b 29), .ref (b 30), .int 0, .ref (b 32), .ref (b 33), .ref (b 34), .ref (b 35), .ref (b 36), .ref (b 37), .int 0, .int 0, .ref (b 40), .ref (b 41), .ref (b 42), .ref (b 43), .ref (b 44), .int 0, .ref (b 46), .ref (b 47), .ref (b 48)])), (b 29, .inl (dA 0, 4, .inl (fun _ => 0))), (b 30, .inl (dA 2, 120, .inl (fun _ => 0))), (o, .inl (dA 3, 1, .inr (.inl u2)))] := hD
    have hP := hP.sub (ws' := [(o, .inl (dA 3, 1, .inr (.inl u2))), (b 0, .inr (12, [.int 0, .int 0, .ref (b 2), .ref (b 3), .ref (b 4), .int 0, .int 0, .int 0, .int 0, .ref (b 9), .int 0, .ref (b 11), .ref (b 12), .ref (b 13), .ref (b 14), .ref (b 15), .ref (b 16), .ref (b 17), .ref (b 18), .int 0, .ref (b 20), .int 0, .int 0, .int 0, .ref (b 24), .ref (b 25), .ref (b 26), .int 0, .int 0, .ref (b 29), .ref (b 30), .int 0, .ref (b 32), .ref (b 33), .ref (b 34), .ref (b 35), .ref (b 36), .ref (b 37), .int 0, .int 0, .ref (b 40), .ref (b 41), .ref (b 42), .ref (b 43), .ref (b 44), .int 0, .ref (b 46), .ref (b 47), .ref (b 48)])), (b 29, .inl (dA 0, 4, .inl (fun _ => 0))), (b 30, .inl (dA 2, 120, .inl (fun _ => 0)))]) [3, 0, 1, 2] rfl
    have hD := hD.sub (ws' := [(o, .inl (dA 3, 1, .inr (.inl u2))), (b 0, .inr (12, [.int 0, .int 0, .ref (b 2), .ref (b 3), .ref (b 4), .int 0, .int 0, .int 0, .int 0, .ref (b 9), .int 0, .ref (b 11), .ref (b 12), .ref (b 13), .ref (b 14), .ref (b 15), .ref (b 16), .ref (b 17), .ref (b 18), .int 0, .ref (b 20), .int 0, .int 0, .int 0, .ref (b 24), .ref (b 25), .ref (b 26), .int 0, .int 0, .ref (b 29), .ref (b 30), .int 0, .ref (b 32), .ref (b 33), .ref (b 34), .ref (b 35), .ref (b 36), .ref (b 37), .int 0, .int 0, .ref (b 40), .ref (b 41), .ref (b 42), .ref (b 43), .ref (b 44), .int 0, .ref (b 46), .ref (b 47), .ref (b 48)])), (b 29, .inl (dA 0, 4, .inl (fun _ => 0))), (b 30, .inl (dA 2, 120, .inl (fun _ => 0)))]) [3, 0, 1, 2] (by decide) rfl
    obtain ⟨hk, ho⟩ := hw3
    obtain rfl : r1 = 0 := hk
    refine lv_istore (lv' := [(6, .int 0), (5, .int 0), (4, .ref od), (3, .ref o), (2, .ref (b 0)), (1, .ref (a 0)), (0, .ref bs)]) hx hb dL_law_991 hl (by decide) rfl (fun ls hl => ?_)
    refine lv_aload_n hx hb dL_law_993 rfl (lv_at hl 4 rfl) ?_
    have hPc := hP.sub (ws' := [(b 0, .inr (12, [.int 0, .int 0, .ref (b 2), .ref (b 3), .ref (b 4), .int 0, .int 0, .int 0, .int 0, .ref (b 9), .int 0, .ref (b 11), .ref (b 12), .ref (b 13), .ref (b 14), .ref (b 15), .ref (b 16), .ref (b 17), .ref (b 18), .int 0, .ref (b 20), .int 0, .int 0, .int 0, .ref (b 24), .ref (b 25), .ref (b 26), .int 0, .int 0, .ref (b 29), .ref (b 30), .int 0, .ref (b 32), .ref (b 33), .ref (b 34), .ref (b 35), .ref (b 36), .ref (b 37), .int 0, .int 0, .ref (b 40), .ref (b 41), .ref (b 42), .ref (b 43), .ref (b 44), .int 0, .ref (b 46), .ref (b 47), .ref (b 48)])), (b 29, .inl (dA 0, 4, .inl (fun _ => 0))), (b 30, .inl (dA 2, 120, .inl (fun _ => 0)))]) [1, 2, 3] rfl
    have hDc := hD.sub (ws' := [(b 0, .inr (12, [.int 0, .int 0, .ref (b 2), .ref (b 3), .ref (b 4), .int 0, .int 0, .int 0, .int 0, .ref (b 9), .int 0, .ref (b 11), .ref (b 12), .ref (b 13), .ref (b 14), .ref (b 15), .ref (b 16), .ref (b 17), .ref (b 18), .int 0, .ref (b 20), .int 0, .int 0, .int 0, .ref (b 24), .ref (b 25), .ref (b 26), .int 0, .int 0, .ref (b 29), .ref (b 30), .int 0, .ref (b 32), .ref (b 33), .ref (b 34), .ref (b 35), .ref (b 36), .ref (b 37), .int 0, .int 0, .ref (b 40), .ref (b 41), .ref (b 42), .ref (b 43), .ref (b 44), .int 0, .ref (b 46), .ref (b 47), .ref (b 48)])), (b 29, .inl (dA 0, 4, .inl (fun _ => 0))), (b 30, .inl (dA 2, 120, .inl (fun _ => 0)))]) [1, 2, 3] (by decide) rfl
    have hFc := va_free (wc := [(b 0, .inr (12, [.int 0, .int 0, .ref (b 2), .ref (b 3), .ref (b 4), .int 0, .int 0, .int 0, .int 0, .ref (b 9), .int 0, .ref (b 11), .ref (b 12), .ref (b 13), .ref (b 14), .ref (b 15), .ref (b 16), .ref (b 17), .ref (b 18), .int 0, .ref (b 20), .int 0, .int 0, .int 0, .ref (b 24), .ref (b 25), .ref (b 26), .int 0, .int 0, .ref (b 29), .ref (b 30), .int 0, .ref (b 32), .ref (b 33), .ref (b 34), .ref (b 35), .ref (b 36), .ref (b 37), .int 0, .int 0, .ref (b 40), .ref (b 41), .ref (b 42), .ref (b 43), .ref (b 44), .int 0, .ref (b 46), .ref (b 47), .ref (b 48)])), (b 29, .inl (dA 0, 4, .inl (fun _ => 0))), (b 30, .inl (dA 2, 120, .inl (fun _ => 0)))]) hD hS hA [1, 2, 3] rfl
    refine va_calli (va_runV (As := []) (rest := []) ⟨hx, hb, hml, hown, hts⟩ (c_M_openView l D dA E b  H.size ) (cwV 0 hts (ga_V q594 q595 q592 q278 q593) rfl rfl rfl (by decide +kernel) ⟨(Nat.le_of_ble_eq_true rfl), (Nat.le_of_ble_eq_true rfl)⟩) ⟨pb_blind, va_recv hK hPc (ci := 12) (q0 := 0) rfl rfl, pb_pre hK hPc hDc hZ hS hFc _⟩ rfl rfl hl.1 rfl (lv_room (Nat.le_of_ble_eq_true rfl)) dL_law_994 ⟨(Nat.le_of_ble_eq_true rfl), (Nat.le_of_ble_eq_true rfl)⟩) hS (fun q _ h => hFc q h) hFc (fun r u t H1 locs ht hvm hw hB hz1 hk1 hS => ?_)
    refine W.widen (k := 69) (n := 11822) (Nat.le_of_ble_eq_true rfl) (Nat.le_of_ble_eq_true rfl) ?_
    obtain ⟨r4, rfl⟩ : ∃ z, z = r := ⟨_, rfl⟩
    obtain ⟨u5, rfl⟩ : ∃ z, z = u := ⟨_, rfl⟩
    have hw6 := hw
    clear hw
    obtain ⟨hP1, hD1⟩ := hB
    rw [ht] at hP1
    obtain ⟨hP, hD⟩ := va_join (wr := [(o, .inl (dA 3, 1, .inr (.inl u2)))]) (w1 := [(b 0, .inr (12, .int u5.1 :: u5.2))]) hP hD [1, 2, 3] [0] rfl rfl (by decide) (by decide) hk1 hFc hP1 hD1
    generalize H1 = H at hP hS ⊢
    have hP : va_P D vwCl [(o, .inl (dA 3, 1, .inr (.inl u2))), (b 0, .inr (12, .int u5.1 :: u5.2))] H := hP
    have hD : va_D A [(o, .inl (dA 3, 1, .inr (.inl u2))), (b 0, .inr (12, .int u5.1 :: u5.2))] := hD
    have hP := hP.sub (ws' := [(b 0, .inr (12, .int u5.1 :: u5.2)), (o, .inl (dA 3, 1, .inr (.inl u2)))]) [1, 0] rfl
    have hD := hD.sub (ws' := [(b 0, .inr (12, .int u5.1 :: u5.2)), (o, .inl (dA 3, 1, .inr (.inl u2)))]) [1, 0] (by decide) rfl
    have hm : u5.1 = 0 ∧ r4 = 0 := hw6
    obtain ⟨hm, hv9⟩ := hm
    obtain rfl : r4 = 0 := hv9
    rw [hm] at hP hD
    have hP : va_P D vwCl [(b 0, .inr (12, .int 0 :: u5.2)), (o, .inl (dA 3, 1, .inr (.inl u2)))] H := hP
    have hD : va_D A [(b 0, .inr (12, .int 0 :: u5.2)), (o, .inl (dA 3, 1, .inr (.inl u2)))] := hD
    refine lv_istore (lv' := [(7, .int 0), (6, .int 0), (5, .int 0), (4, .ref od), (3, .ref o), (2, .ref (b 0)), (1, .ref (a 0)), (0, .ref bs)]) hx hb dL_law_997 hl (by decide) rfl (fun ls hl => ?_)
    refine lv_aload_n hx hb dL_law_999 rfl (lv_at hl 5 rfl) ?_
    have hPc := hP.sub (ws' := [(b 0, .inr (12, .int 0 :: u5.2))]) [0] rfl
    have hDc := hD.sub (ws' := [(b 0, .inr (12, .int 0 :: u5.2))]) [0] (by decide) rfl
    have hFc := va_free (wc := [(b 0, .inr (12, .int 0 :: u5.2))]) hD hS hA [0] rfl
    refine va_calli (va_runV (As := []) (rest := []) ⟨hx, hb, hml, hown, hts⟩ (c_M_thrown l D dA E (b 0) 0 u5.2 H.size ) (cwV 0 hts (ga_V q470 q471 q468 q278 q469) rfl rfl rfl (by decide +kernel) ⟨(Nat.le_of_ble_eq_true rfl), (Nat.le_of_ble_eq_true rfl)⟩) ⟨pb_blind, va_recv hK hPc (ci := 12) (q0 := 0) rfl rfl, pb_pre hK hPc hDc hZ hS hFc _⟩ rfl rfl hl.1 rfl (lv_room (Nat.le_of_ble_eq_true rfl)) dL_law_1000 ⟨(Nat.le_of_ble_eq_true rfl), (Nat.le_of_ble_eq_true rfl)⟩) hS (fun q _ h => hFc q h) hFc (fun r u t H1 locs ht hvm hw hB hz1 hk1 hS => ?_)
    refine W.widen (k := 69) (n := 11822) (Nat.le_of_ble_eq_true rfl) (Nat.le_of_ble_eq_true rfl) ?_
    obtain ⟨r7, rfl⟩ : ∃ z, z = r := ⟨_, rfl⟩
    obtain ⟨u8, rfl⟩ : ∃ z, z = u := ⟨_, rfl⟩
    have hw9 := hw
    clear hw
    obtain ⟨hP, hD⟩ := jn_drop (wr := [(o, .inl (dA 3, 1, .inr (.inl u2)))]) hP hD [0] [1] rfl rfl (by decide) (by decide) hk1 hFc
    generalize H1 = H at hP hS ⊢
    have hP : va_P D vwCl [(o, .inl (dA 3, 1, .inr (.inl u2)))] H := hP
    have hD : va_D A [(o, .inl (dA 3, 1, .inr (.inl u2)))] := hD
    obtain rfl : r7 = 0 := hw9
    refine lv_iload hx hb dL_law_1003 (lv_at hl 1 rfl) ?_
    refine lv_icmp_eq (tgt := 1010) hx hb dL_law_1005 (by decide) (fun _ => ?_) (fun c10 => absurd (by decide) c10)
    refine lv_iload hx hb dL_law_1010 (lv_at hl 1 rfl) ?_
    refine lv_if_ne (tgt := 1027) hx hb dL_law_1012 (by decide) (fun c11 => absurd (by decide) c11) (fun _ => ?_)
    refine lv_aload_n hx hb dL_law_1015 rfl (lv_at hl 4 rfl) ?_
    refine lv_iconst (v := 0) hx hb dL_law_1016 (by decide) ?_
    refine va_lald hx hb hK hP 0 3 rfl rfl (vi_c (by decide)) dL_law_1017 ?_
    refine lv_topl (fun x12 ex12 => ?_)
    obtain rfl : x12 = 0 := ex12.trans ho
    refine lv_iload hx hb dL_law_1018 (lv_at hl 0 rfl) ?_
    refine lv_i2l (v := 0) hx hb dL_law_1020 (by decide) ?_
    refine W.lcmp hx hb dL_law_1021 ?_
    refine lv_topi (fun x13 ex13 => ?_)
    replace ex13 : x13 = 0 := ex13.trans (by decide)
    subst ex13
    refine lv_if_eq (tgt := 1027) hx hb dL_law_1022 (by decide) (fun _ => ?_) (fun c14 => absurd (by decide) c14)
    refine lv_goto (tgt := 2346) hx hb dL_law_1027 (by decide) ?_
    exact law_tail l C0 rfl (by rw [hAe]; exact hS) (Nat.le_of_ble_eq_true rfl) (Nat.le_of_ble_eq_true rfl) ls (lv_sub hl [7, 2] rfl)

set_option maxHeartbeats 4000000 in
set_option maxRecDepth 100000 in
/-- the law at closeView -/
theorem law_18 {p : Program} {e : Env} {s : State} {m : MethodId} {below : List Frame} {meth : Method} {c : Code} (l : Launch) (hlt : l.stackTraces = false) {bs L : Nat} {xs : Nat → Int32} (C0 : lw_At p s m meth c bs L xs) (hL6 : L = 6) (D : va_G) (dA : Nat → ClassId) (E : Nat) (A : Nat → Prop) (hAe : (fun q : Nat => s.heap.size ≤ q) = A) (a b : Nat → Nat) (o od : Nat) (hK : va_K D vwCl (TY dA) s) (hZ : ZZ dA E A s s.heap) (H : Heap) (locs : List Loc) (hP : va_P D vwCl [(a 0, .inr (11, [.ref (a 1), .ref (a 2), .ref (a 3), .ref (a 4), .ref (a 5), .ref (a 10), .ref (a 15), .ref (a 17), .null, .int 0, .int 0, .int 0])), (a 3, .inr (2, [.int 0, .ref E, .int 0])), (o, .inl (dA 3, 1, .inr (.inl (fun _ => 0)))), (b 0, .inr (12, [.int 0, .int 0, .ref (b 2), .ref (b 3), .ref (b 4), .int 0, .int 0, .int 0, .int 0, .ref (b 9), .int 0, .ref (b 11), .ref (b 12), .ref (b 13), .ref (b 14), .ref (b 15), .ref (b 16), .ref (b 17), .ref (b 18), .int 0, .ref (b 20), .int 0, .int 0, .int 0, .ref (b 24), .ref (b 25), .ref (b 26), .int 0, .int 0, .ref (b 29), .ref (b 30), .int 0, .ref (b 32), .ref (b 33), .ref (b 34), .ref (b 35), .ref (b 36), .ref (b 37), .int 0, .int 0, .ref (b 40), .ref (b 41), .ref (b 42), .ref (b 43), .ref (b 44), .int 0, .ref (b 46), .ref (b 47), .ref (b 48)]))] H) (hD : va_D A [(a 0, .inr (11, [.ref (a 1), .ref (a 2), .ref (a 3), .ref (a 4), .ref (a 5), .ref (a 10), .ref (a 15), .ref (a 17), .null, .int 0, .int 0, .int 0])), (a 3, .inr (2, [.int 0, .ref E, .int 0])), (o, .inl (dA 3, 1, .inr (.inl (fun _ => 0)))), (b 0, .inr (12, [.int 0, .int 0, .ref (b 2), .ref (b 3), .ref (b 4), .int 0, .int 0, .int 0, .int 0, .ref (b 9), .int 0, .ref (b 11), .ref (b 12), .ref (b 13), .ref (b 14), .ref (b 15), .ref (b 16), .ref (b 17), .ref (b 18), .int 0, .ref (b 20), .int 0, .int 0, .int 0, .ref (b 24), .ref (b 25), .ref (b 26), .int 0, .int 0, .ref (b 29), .ref (b 30), .int 0, .ref (b 32), .ref (b 33), .ref (b 34), .ref (b 35), .ref (b 36), .ref (b 37), .int 0, .int 0, .ref (b 40), .ref (b 41), .ref (b 42), .ref (b 43), .ref (b 44), .int 0, .ref (b 46), .ref (b 47), .ref (b 48)]))]) (hS : va_S A s.heap H locs) (ls : Array Slot) (hl : lv_has ls 9 [(5, .int 0), (4, .ref od), (3, .ref o), (2, .ref (b 0)), (1, .ref (a 0)), (0, .ref bs)]) : W p l e room_1 s m #[Value.ref bs] below meth c H locs 65 11778 (lw_Z below #[Value.ref bs] s) (F0 m 1030 ls []) := by
  subst hL6
  obtain ⟨hx, hb, hr, hml, hown, hts0, hX, hbl, hlocks, hgv⟩ := id C0
  have hts : ∀ w ∈ WA, w.before #[Value.ref bs] s = true := fun w h => hts0 w (WA_tbl h)
  have hA : ∀ q : Nat, s.heap.size ≤ q → A q := fun q h => by rw [← hAe]; exact h
  have hbA : ¬ A bs := by rw [← hAe]; exact Nat.not_le.mpr hbl
  refine lv_aload_n hx hb dL_law_1030 rfl (lv_at hl 4 rfl) ?_
  refine lv_aload_n hx hb dL_law_1031 rfl (lv_at hl 5 rfl) ?_
  refine lv_iload hx hb dL_law_1032 (lv_at hl 0 rfl) ?_
  refine lv_iconst (v := 1) hx hb dL_law_1034 (by decide) ?_
  refine lv_iadd hx hb dL_law_1035 ?_
  refine lv_topi (fun x1 ex1 => ?_)
  replace ex1 : x1 = 1 := ex1.trans (by decide)
  subst ex1
  refine va_sld hx hb hX hbl hbA hS (vi_c (by decide)) dL_law_1036 ?_
  refine lv_topi (fun x2 ex2 => ?_)
  refine lv_aload_n hx hb dL_law_1037 rfl (lv_at hl 2 rfl) ?_
  have hPc := hP.sub (ws' := [(a 0, .inr (11, [.ref (a 1), .ref (a 2), .ref (a 3), .ref (a 4), .ref (a 5), .ref (a 10), .ref (a 15), .ref (a 17), .null, .int 0, .int 0, .int 0])), (a 3, .inr (2, [.int 0, .ref E, .int 0])), (o, .inl (dA 3, 1, .inr (.inl (fun _ => 0))))]) [0, 1, 2] rfl
  have hDc := hD.sub (ws' := [(a 0, .inr (11, [.ref (a 1), .ref (a 2), .ref (a 3), .ref (a 4), .ref (a 5), .ref (a 10), .ref (a 15), .ref (a 17), .null, .int 0, .int 0, .int 0])), (a 3, .inr (2, [.int 0, .ref E, .int 0])), (o, .inl (dA 3, 1, .inr (.inl (fun _ => 0))))]) [0, 1, 2] (by decide) rfl
  have hFc := va_free (wc := [(a 0, .inr (11, [.ref (a 1), .ref (a 2), .ref (a 3), .ref (a 4), .ref (a 5), .ref (a 10), .ref (a 15), .ref (a 17), .null, .int 0, .int 0, .int 0])), (a 3, .inr (2, [.int 0, .ref E, .int 0])), (o, .inl (dA 3, 1, .inr (.inl (fun _ => 0))))]) hD hS hA [0, 1, 2] rfl
  refine vx_calli (vx_runSX (As := [.ref (a 0), .int x2, .ref o]) (rest := []) ⟨hx, hb, hml, hown, hts⟩ (c_L_closeView l hlt D dA E a o (fun _ => 0) x2 H.size ) (vx_cwSW 3 hts (ga_S q597 q598 q463 q596) rfl rfl rfl (by decide +kernel) ⟨(Nat.le_of_ble_eq_true rfl), (Nat.le_of_ble_eq_true rfl)⟩) ⟨pb_blind, pb_pre hK hPc hDc hZ hS hFc _⟩ rfl rfl hl.1 rfl (lv_room (Nat.le_of_ble_eq_true rfl)) dL_law_1038 ⟨(Nat.le_of_ble_eq_true rfl), (Nat.le_of_ble_eq_true rfl)⟩) hS (fun q _ h => hFc q h) hFc (fun q _ h => hFc q h) (fun E9 ce q9 k t H1 locs ht hvm hpx hBX hz1 hk1 hS hce hcv hcl => ?_) (fun r u t H1 locs ht hvm hw hB hz1 hk1 hS => ?_)
  · exact hpx.elim
  · refine W.widen (k := 66) (n := 11784) (Nat.le_of_ble_eq_true rfl) (Nat.le_of_ble_eq_true rfl) ?_
    obtain ⟨r3, rfl⟩ : ∃ z, z = r := ⟨_, rfl⟩
    obtain ⟨u4, rfl⟩ : ∃ z, z = u := ⟨_, rfl⟩
    have hw5 := hw
    clear hw
    obtain ⟨hP1, hD1⟩ := hB
    rw [ht] at hP1
    obtain ⟨hP, hD⟩ := va_join (wr := [(b 0, .inr (12, [.int 0, .int 0, .ref (b 2), .ref (b 3), .ref (b 4), .int 0, .int 0, .int 0, .int 0, .ref (b 9), .int 0, .ref (b 11), .ref (b 12), .ref (b 13), .ref (b 14), .ref (b 15), .ref (b 16), .ref (b 17), .ref (b 18), .int 0, .ref (b 20), .int 0, .int 0, .int 0, .ref (b 24), .ref (b 25), .ref (b 26), .int 0, .int 0, .ref (b 29), .ref (b 30), .int 0, .ref (b 32), .ref (b 33), .ref (b 34), .ref (b 35), .ref (b 36), .ref (b 37), .int 0, .int 0, .ref (b 40), .ref (b 41), .ref (b 42), .ref (b 43), .ref (b 44), .int 0, .ref (b 46), .ref (b 47), .ref (b 48)]))]) (w1 := [(o, .inl (dA 3, 1, .inr (.inl u4)))]) hP hD [0, 1, 2] [3] rfl rfl (by decide) (by decide) hk1 hFc hP1 hD1
    generalize H1 = H at hP hS ⊢
    have hP : va_P D vwCl [(b 0, .inr (12, [.int 0, .int 0, .ref (b 2), .ref (b 3), .ref (b 4), .int 0, .int 0, .int 0, .int 0, .ref (b 9), .int 0, .ref (b 11), .ref (b 12), .ref (b 13), .ref (b 14), .ref (b 15), .ref (b 16), .ref (b 17), .ref (b 18), .int 0, .ref (b 20), .int 0, .int 0, .int 0, .ref (b 24), .ref (b 25), .ref (b 26), .int 0, .int 0, .ref (b 29), .ref (b 30), .int 0, .ref (b 32), .ref (b 33), .ref (b 34), .ref (b 35), .ref (b 36), .ref (b 37), .int 0, .int 0, .ref (b 40), .ref (b 41), .ref (b 42), .ref (b 43), .ref (b 44), .int 0, .ref (b 46), .ref (b 47), .ref (b 48)])), (o, .inl (dA 3, 1, .inr (.inl u4)))] H := hP
    have hD : va_D A [(b 0, .inr (12, [.int 0, .int 0, .ref (b 2), .ref (b 3), .ref (b 4), .int 0, .int 0, .int 0, .int 0, .ref (b 9), .int 0, .ref (b 11), .ref (b 12), .ref (b 13), .ref (b 14), .ref (b 15), .ref (b 16), .ref (b 17), .ref (b 18), .int 0, .ref (b 20), .int 0, .int 0, .int 0, .ref (b 24), .ref (b 25), .ref (b 26), .int 0, .int 0, .ref (b 29), .ref (b 30), .int 0, .ref (b 32), .ref (b 33), .ref (b 34), .ref (b 35), .ref (b 36), .ref (b 37), .int 0, .int 0, .ref (b 40), .ref (b 41), .ref (b 42), .ref (b 43), .ref (b 44), .int 0, .ref (b 46), .ref (b 47), .ref (b 48)])), (o, .inl (dA 3, 1, .inr (.inl u4)))] := hD
    have hP := hP.sub (ws' := [(o, .inl (dA 3, 1, .inr (.inl u4))), (b 0, .inr (12, [.int 0, .int 0, .ref (b 2), .ref (b 3), .ref (b 4), .int 0, .int 0, .int 0, .int 0, .ref (b 9), .int 0, .ref (b 11), .ref (b 12), .ref (b 13), .ref (b 14), .ref (b 15), .ref (b 16), .ref (b 17), .ref (b 18), .int 0, .ref (b 20), .int 0, .int 0, .int 0, .ref (b 24), .ref (b 25), .ref (b 26), .int 0, .int 0, .ref (b 29), .ref (b 30), .int 0, .ref (b 32), .ref (b 33), .ref (b 34), .ref (b 35), .ref (b 36), .ref (b 37), .int 0, .int 0, .ref (b 40), .ref (b 41), .ref (b 42), .ref (b 43), .ref (b 44), .int 0, .ref (b 46), .ref (b 47), .ref (b 48)]))]) [1, 0] rfl
    have hD := hD.sub (ws' := [(o, .inl (dA 3, 1, .inr (.inl u4))), (b 0, .inr (12, [.int 0, .int 0, .ref (b 2), .ref (b 3), .ref (b 4), .int 0, .int 0, .int 0, .int 0, .ref (b 9), .int 0, .ref (b 11), .ref (b 12), .ref (b 13), .ref (b 14), .ref (b 15), .ref (b 16), .ref (b 17), .ref (b 18), .int 0, .ref (b 20), .int 0, .int 0, .int 0, .ref (b 24), .ref (b 25), .ref (b 26), .int 0, .int 0, .ref (b 29), .ref (b 30), .int 0, .ref (b 32), .ref (b 33), .ref (b 34), .ref (b 35), .ref (b 36), .ref (b 37), .int 0, .int 0, .ref (b 40), .ref (b 41), .ref (b 42), .ref (b 43), .ref (b 44), .int 0, .ref (b 46), .ref (b 47), .ref (b 48)]))]) [1, 0] (by decide) rfl
    have hk := hw5
    obtain rfl : r3 = 1 := hk
    refine lv_istore (lv' := [(6, .int 1), (5, .int 0), (4, .ref od), (3, .ref o), (2, .ref (b 0)), (1, .ref (a 0)), (0, .ref bs)]) hx hb dL_law_1041 hl (by decide) rfl (fun ls hl => ?_)
    refine lv_aload_n hx hb dL_law_1043 rfl (lv_at hl 4 rfl) ?_
    refine lv_aload_n hx hb dL_law_1044 rfl (lv_at hl 6 rfl) ?_
    refine lv_iload hx hb dL_law_1045 (lv_at hl 1 rfl) ?_
    refine lv_iconst (v := 1) hx hb dL_law_1047 (by decide) ?_
    refine lv_iadd hx hb dL_law_1048 ?_
    refine lv_topi (fun x6 ex6 => ?_)
    replace ex6 : x6 = 1 := ex6.trans (by decide)
    subst ex6
    refine va_sld hx hb hX hbl hbA hS (vi_c (by decide)) dL_law_1049 ?_
    refine lv_topi (fun x7 ex7 => ?_)
    obtain rfl : x2 = x7 := ex2.trans ex7.symm
    have hPc := hP.sub (ws' := [(b 0, .inr (12, [.int 0, .int 0, .ref (b 2), .ref (b 3), .ref (b 4), .int 0, .int 0, .int 0, .int 0, .ref (b 9), .int 0, .ref (b 11), .ref (b 12), .ref (b 13), .ref (b 14), .ref (b 15), .ref (b 16), .ref (b 17), .ref (b 18), .int 0, .ref (b 20), .int 0, .int 0, .int 0, .ref (b 24), .ref (b 25), .ref (b 26), .int 0, .int 0, .ref (b 29), .ref (b 30), .int 0, .ref (b 32), .ref (b 33), .ref (b 34), .ref (b 35), .ref (b 36), .ref (b 37), .int 0, .int 0, .ref (b 40), .ref (b 41), .ref (b 42), .ref (b 43), .ref (b 44), .int 0, .ref (b 46), .ref (b 47), .ref (b 48)]))]) [1] rfl
    have hDc := hD.sub (ws' := [(b 0, .inr (12, [.int 0, .int 0, .ref (b 2), .ref (b 3), .ref (b 4), .int 0, .int 0, .int 0, .int 0, .ref (b 9), .int 0, .ref (b 11), .ref (b 12), .ref (b 13), .ref (b 14), .ref (b 15), .ref (b 16), .ref (b 17), .ref (b 18), .int 0, .ref (b 20), .int 0, .int 0, .int 0, .ref (b 24), .ref (b 25), .ref (b 26), .int 0, .int 0, .ref (b 29), .ref (b 30), .int 0, .ref (b 32), .ref (b 33), .ref (b 34), .ref (b 35), .ref (b 36), .ref (b 37), .int 0, .int 0, .ref (b 40), .ref (b 41), .ref (b 42), .ref (b 43), .ref (b 44), .int 0, .ref (b 46), .ref (b 47), .ref (b 48)]))]) [1] (by decide) rfl
    have hFc := va_free (wc := [(b 0, .inr (12, [.int 0, .int 0, .ref (b 2), .ref (b 3), .ref (b 4), .int 0, .int 0, .int 0, .int 0, .ref (b 9), .int 0, .ref (b 11), .ref (b 12), .ref (b 13), .ref (b 14), .ref (b 15), .ref (b 16), .ref (b 17), .ref (b 18), .int 0, .ref (b 20), .int 0, .int 0, .int 0, .ref (b 24), .ref (b 25), .ref (b 26), .int 0, .int 0, .ref (b 29), .ref (b 30), .int 0, .ref (b 32), .ref (b 33), .ref (b 34), .ref (b 35), .ref (b 36), .ref (b 37), .int 0, .int 0, .ref (b 40), .ref (b 41), .ref (b 42), .ref (b 43), .ref (b 44), .int 0, .ref (b 46), .ref (b 47), .ref (b 48)]))]) hD hS hA [1] rfl
    refine va_calli (va_runV (As := [.int x2]) (rest := []) ⟨hx, hb, hml, hown, hts⟩ (c_M_closeView l D dA E b x2 H.size ) (cwV 1 hts (ga_V q601 q602 q599 q278 q600) rfl rfl rfl (by decide +kernel) ⟨(Nat.le_of_ble_eq_true rfl), (Nat.le_of_ble_eq_true rfl)⟩) ⟨pb_blind, va_recv hK hPc (ci := 12) (q0 := 0) rfl rfl, pb_pre hK hPc hDc hZ hS hFc _⟩ rfl rfl hl.1 rfl (lv_room (Nat.le_of_ble_eq_true rfl)) dL_law_1050 ⟨(Nat.le_of_ble_eq_true rfl), (Nat.le_of_ble_eq_true rfl)⟩) hS (fun q _ h => hFc q h) hFc (fun r u t H1 locs ht hvm hw hB hz1 hk1 hS => ?_)
    refine W.widen (k := 66) (n := 11784) (Nat.le_of_ble_eq_true rfl) (Nat.le_of_ble_eq_true rfl) ?_
    obtain ⟨r8, rfl⟩ : ∃ z, z = r := ⟨_, rfl⟩
    obtain ⟨u9, rfl⟩ : ∃ z, z = u := ⟨_, rfl⟩
    have hw10 := hw
    clear hw
    obtain ⟨hP1, hD1⟩ := hB
    rw [ht] at hP1
    obtain ⟨hP, hD⟩ := va_join (wr := [(o, .inl (dA 3, 1, .inr (.inl u4)))]) (w1 := [(b 0, .inr (12, .int u9.1 :: u9.2))]) hP hD [1] [0] rfl rfl (by decide) (by decide) hk1 hFc hP1 hD1
    generalize H1 = H at hP hS ⊢
    have hP : va_P D vwCl [(o, .inl (dA 3, 1, .inr (.inl u4))), (b 0, .inr (12, .int u9.1 :: u9.2))] H := hP
    have hD : va_D A [(o, .inl (dA 3, 1, .inr (.inl u4))), (b 0, .inr (12, .int u9.1 :: u9.2))] := hD
    have hP := hP.sub (ws' := [(b 0, .inr (12, .int u9.1 :: u9.2)), (o, .inl (dA 3, 1, .inr (.inl u4)))]) [1, 0] rfl
    have hD := hD.sub (ws' := [(b 0, .inr (12, .int u9.1 :: u9.2)), (o, .inl (dA 3, 1, .inr (.inl u4)))]) [1, 0] (by decide) rfl
    have hm : u9.1 = 1 := hw10
    rw [hm] at hP hD
    have hP : va_P D vwCl [(b 0, .inr (12, .int 1 :: u9.2)), (o, .inl (dA 3, 1, .inr (.inl u4)))] H := hP
    have hD : va_D A [(b 0, .inr (12, .int 1 :: u9.2)), (o, .inl (dA 3, 1, .inr (.inl u4)))] := hD
    refine lv_istore (lv' := [(7, .int r8), (6, .int 1), (5, .int 0), (4, .ref od), (3, .ref o), (2, .ref (b 0)), (1, .ref (a 0)), (0, .ref bs)]) hx hb dL_law_1053 hl (by decide) rfl (fun ls hl => ?_)
    refine lv_aload_n hx hb dL_law_1055 rfl (lv_at hl 5 rfl) ?_
    have hPc := hP.sub (ws' := [(b 0, .inr (12, .int 1 :: u9.2))]) [0] rfl
    have hDc := hD.sub (ws' := [(b 0, .inr (12, .int 1 :: u9.2))]) [0] (by decide) rfl
    have hFc := va_free (wc := [(b 0, .inr (12, .int 1 :: u9.2))]) hD hS hA [0] rfl
    refine va_calli (va_runV (As := []) (rest := []) ⟨hx, hb, hml, hown, hts⟩ (c_M_thrown l D dA E (b 0) 1 u9.2 H.size ) (cwV 0 hts (ga_V q470 q471 q468 q278 q469) rfl rfl rfl (by decide +kernel) ⟨(Nat.le_of_ble_eq_true rfl), (Nat.le_of_ble_eq_true rfl)⟩) ⟨pb_blind, va_recv hK hPc (ci := 12) (q0 := 0) rfl rfl, pb_pre hK hPc hDc hZ hS hFc _⟩ rfl rfl hl.1 rfl (lv_room (Nat.le_of_ble_eq_true rfl)) dL_law_1056 ⟨(Nat.le_of_ble_eq_true rfl), (Nat.le_of_ble_eq_true rfl)⟩) hS (fun q _ h => hFc q h) hFc (fun r u t H1 locs ht hvm hw hB hz1 hk1 hS => ?_)
    refine W.widen (k := 66) (n := 11784) (Nat.le_of_ble_eq_true rfl) (Nat.le_of_ble_eq_true rfl) ?_
    obtain ⟨r11, rfl⟩ : ∃ z, z = r := ⟨_, rfl⟩
    obtain ⟨u12, rfl⟩ : ∃ z, z = u := ⟨_, rfl⟩
    have hw13 := hw
    clear hw
    obtain ⟨hP, hD⟩ := jn_drop (wr := [(o, .inl (dA 3, 1, .inr (.inl u4)))]) hP hD [0] [1] rfl rfl (by decide) (by decide) hk1 hFc
    generalize H1 = H at hP hS ⊢
    have hP : va_P D vwCl [(o, .inl (dA 3, 1, .inr (.inl u4)))] H := hP
    have hD : va_D A [(o, .inl (dA 3, 1, .inr (.inl u4)))] := hD
    obtain rfl : r11 = 1 := hw13
    refine lv_iload hx hb dL_law_1059 (lv_at hl 1 rfl) ?_
    refine lv_icmp_eq (tgt := 1066) hx hb dL_law_1061 (by decide) (fun _ => ?_) (fun c14 => absurd (by decide) c14)
    refine lv_iload hx hb dL_law_1066 (lv_at hl 1 rfl) ?_
    refine lv_if_ne (tgt := 1083) hx hb dL_law_1068 (by decide) (fun _ => ?_) (fun c15 => absurd c15 (by decide))
    refine lv_goto (tgt := 2346) hx hb dL_law_1083 (by decide) ?_
    exact law_tail l C0 rfl (by rw [hAe]; exact hS) (Nat.le_of_ble_eq_true rfl) (Nat.le_of_ble_eq_true rfl) ls (lv_sub hl [7, 2] rfl)

set_option maxHeartbeats 4000000 in
set_option maxRecDepth 100000 in
/-- the law at seen -/
theorem law_19 {p : Program} {e : Env} {s : State} {m : MethodId} {below : List Frame} {meth : Method} {c : Code} (l : Launch) (hlt : l.stackTraces = false) {bs L : Nat} {xs : Nat → Int32} (C0 : lw_At p s m meth c bs L xs) (hL6 : L = 6) (D : va_G) (dA : Nat → ClassId) (E : Nat) (A : Nat → Prop) (hAe : (fun q : Nat => s.heap.size ≤ q) = A) (a b : Nat → Nat) (o od : Nat) (hK : va_K D vwCl (TY dA) s) (hZ : ZZ dA E A s s.heap) (H : Heap) (locs : List Loc) (hP : va_P D vwCl [(a 0, .inr (11, [.ref (a 1), .ref (a 2), .ref (a 3), .ref (a 4), .ref (a 5), .ref (a 10), .ref (a 15), .ref (a 17), .null, .int 0, .int 0, .int 0])), (a 3, .inr (2, [.int 0, .ref E, .int 0])), (o, .inl (dA 3, 1, .inr (.inl (fun _ => 0)))), (b 0, .inr (12, [.int 0, .int 0, .ref (b 2), .ref (b 3), .ref (b 4), .int 0, .int 0, .int 0, .int 0, .ref (b 9), .int 0, .ref (b 11), .ref (b 12), .ref (b 13), .ref (b 14), .ref (b 15), .ref (b 16), .ref (b 17), .ref (b 18), .int 0, .ref (b 20), .int 0, .int 0, .int 0, .ref (b 24), .ref (b 25), .ref (b 26), .int 0, .int 0, .ref (b 29), .ref (b 30), .int 0, .ref (b 32), .ref (b 33), .ref (b 34), .ref (b 35), .ref (b 36), .ref (b 37), .int 0, .int 0, .ref (b 40), .ref (b 41), .ref (b 42), .ref (b 43), .ref (b 44), .int 0, .ref (b 46), .ref (b 47), .ref (b 48)]))] H) (hD : va_D A [(a 0, .inr (11, [.ref (a 1), .ref (a 2), .ref (a 3), .ref (a 4), .ref (a 5), .ref (a 10), .ref (a 15), .ref (a 17), .null, .int 0, .int 0, .int 0])), (a 3, .inr (2, [.int 0, .ref E, .int 0])), (o, .inl (dA 3, 1, .inr (.inl (fun _ => 0)))), (b 0, .inr (12, [.int 0, .int 0, .ref (b 2), .ref (b 3), .ref (b 4), .int 0, .int 0, .int 0, .int 0, .ref (b 9), .int 0, .ref (b 11), .ref (b 12), .ref (b 13), .ref (b 14), .ref (b 15), .ref (b 16), .ref (b 17), .ref (b 18), .int 0, .ref (b 20), .int 0, .int 0, .int 0, .ref (b 24), .ref (b 25), .ref (b 26), .int 0, .int 0, .ref (b 29), .ref (b 30), .int 0, .ref (b 32), .ref (b 33), .ref (b 34), .ref (b 35), .ref (b 36), .ref (b 37), .int 0, .int 0, .ref (b 40), .ref (b 41), .ref (b 42), .ref (b 43), .ref (b 44), .int 0, .ref (b 46), .ref (b 47), .ref (b 48)]))]) (hS : va_S A s.heap H locs) (ls : Array Slot) (hl : lv_has ls 9 [(5, .int 0), (4, .ref od), (3, .ref o), (2, .ref (b 0)), (1, .ref (a 0)), (0, .ref bs)]) : W p l e room_1 s m #[Value.ref bs] below meth c H locs 65 11778 (lw_Z below #[Value.ref bs] s) (F0 m 1086 ls []) := by
  subst hL6
  obtain ⟨hx, hb, hr, hml, hown, hts0, hX, hbl, hlocks, hgv⟩ := id C0
  have hts : ∀ w ∈ WA, w.before #[Value.ref bs] s = true := fun w h => hts0 w (WA_tbl h)
  have hA : ∀ q : Nat, s.heap.size ≤ q → A q := fun q h => by rw [← hAe]; exact h
  have hbA : ¬ A bs := by rw [← hAe]; exact Nat.not_le.mpr hbl
  refine lv_aload_n hx hb dL_law_1086 rfl (lv_at hl 4 rfl) ?_
  refine lv_aload_n hx hb dL_law_1087 rfl (lv_at hl 5 rfl) ?_
  refine lv_iload hx hb dL_law_1088 (lv_at hl 0 rfl) ?_
  refine lv_iconst (v := 1) hx hb dL_law_1090 (by decide) ?_
  refine lv_iadd hx hb dL_law_1091 ?_
  refine lv_topi (fun x1 ex1 => ?_)
  replace ex1 : x1 = 1 := ex1.trans (by decide)
  subst ex1
  refine va_sld hx hb hX hbl hbA hS (vi_c (by decide)) dL_law_1092 ?_
  refine lv_topi (fun x2 ex2 => ?_)
  refine lv_aload_n hx hb dL_law_1093 rfl (lv_at hl 2 rfl) ?_
  have hPc := hP.sub (ws' := [(a 0, .inr (11, [.ref (a 1), .ref (a 2), .ref (a 3), .ref (a 4), .ref (a 5), .ref (a 10), .ref (a 15), .ref (a 17), .null, .int 0, .int 0, .int 0])), (a 3, .inr (2, [.int 0, .ref E, .int 0])), (o, .inl (dA 3, 1, .inr (.inl (fun _ => 0))))]) [0, 1, 2] rfl
  have hDc := hD.sub (ws' := [(a 0, .inr (11, [.ref (a 1), .ref (a 2), .ref (a 3), .ref (a 4), .ref (a 5), .ref (a 10), .ref (a 15), .ref (a 17), .null, .int 0, .int 0, .int 0])), (a 3, .inr (2, [.int 0, .ref E, .int 0])), (o, .inl (dA 3, 1, .inr (.inl (fun _ => 0))))]) [0, 1, 2] (by decide) rfl
  have hFc := va_free (wc := [(a 0, .inr (11, [.ref (a 1), .ref (a 2), .ref (a 3), .ref (a 4), .ref (a 5), .ref (a 10), .ref (a 15), .ref (a 17), .null, .int 0, .int 0, .int 0])), (a 3, .inr (2, [.int 0, .ref E, .int 0])), (o, .inl (dA 3, 1, .inr (.inl (fun _ => 0))))]) hD hS hA [0, 1, 2] rfl
  refine vx_calli (vx_runSX (As := [.ref (a 0), .int x2, .ref o]) (rest := []) ⟨hx, hb, hml, hown, hts⟩ (c_L_seen l hlt D dA E a o (fun _ => 0) x2 H.size ) (vx_cwSW 3 hts (ga_S q604 q605 q463 q603) rfl rfl rfl (by decide +kernel) ⟨(Nat.le_of_ble_eq_true rfl), (Nat.le_of_ble_eq_true rfl)⟩) ⟨pb_blind, pb_pre hK hPc hDc hZ hS hFc _⟩ rfl rfl hl.1 rfl (lv_room (Nat.le_of_ble_eq_true rfl)) dL_law_1094 ⟨(Nat.le_of_ble_eq_true rfl), (Nat.le_of_ble_eq_true rfl)⟩) hS (fun q _ h => hFc q h) hFc (fun q _ h => hFc q h) (fun E9 ce q9 k t H1 locs ht hvm hpx hBX hz1 hk1 hS hce hcv hcl => ?_) (fun r u t H1 locs ht hvm hw hB hz1 hk1 hS => ?_)
  · exact hpx.elim
  · refine W.widen (k := 66) (n := 11784) (Nat.le_of_ble_eq_true rfl) (Nat.le_of_ble_eq_true rfl) ?_
    obtain ⟨r3, rfl⟩ : ∃ z, z = r := ⟨_, rfl⟩
    obtain ⟨u4, rfl⟩ : ∃ z, z = u := ⟨_, rfl⟩
    have hw5 := hw
    clear hw
    obtain ⟨hP1, hD1⟩ := hB
    rw [ht] at hP1
    obtain ⟨hP, hD⟩ := va_join (wr := [(b 0, .inr (12, [.int 0, .int 0, .ref (b 2), .ref (b 3), .ref (b 4), .int 0, .int 0, .int 0, .int 0, .ref (b 9), .int 0, .ref (b 11), .ref (b 12), .ref (b 13), .ref (b 14), .ref (b 15), .ref (b 16), .ref (b 17), .ref (b 18), .int 0, .ref (b 20), .int 0, .int 0, .int 0, .ref (b 24), .ref (b 25), .ref (b 26), .int 0, .int 0, .ref (b 29), .ref (b 30), .int 0, .ref (b 32), .ref (b 33), .ref (b 34), .ref (b 35), .ref (b 36), .ref (b 37), .int 0, .int 0, .ref (b 40), .ref (b 41), .ref (b 42), .ref (b 43), .ref (b 44), .int 0, .ref (b 46), .ref (b 47), .ref (b 48)]))]) (w1 := [(o, .inl (dA 3, 1, .inr (.inl u4)))]) hP hD [0, 1, 2] [3] rfl rfl (by decide) (by decide) hk1 hFc hP1 hD1
    generalize H1 = H at hP hS ⊢
    have hP : va_P D vwCl [(b 0, .inr (12, [.int 0, .int 0, .ref (b 2), .ref (b 3), .ref (b 4), .int 0, .int 0, .int 0, .int 0, .ref (b 9), .int 0, .ref (b 11), .ref (b 12), .ref (b 13), .ref (b 14), .ref (b 15), .ref (b 16), .ref (b 17), .ref (b 18), .int 0, .ref (b 20), .int 0, .int 0, .int 0, .ref (b 24), .ref (b 25), .ref (b 26), .int 0, .int 0, .ref (b 29), .ref (b 30), .int 0, .ref (b 32), .ref (b 33), .ref (b 34), .ref (b 35), .ref (b 36), .ref (b 37), .int 0, .int 0, .ref (b 40), .ref (b 41), .ref (b 42), .ref (b 43), .ref (b 44), .int 0, .ref (b 46), .ref (b 47), .ref (b 48)])), (o, .inl (dA 3, 1, .inr (.inl u4)))] H := hP
    have hD : va_D A [(b 0, .inr (12, [.int 0, .int 0, .ref (b 2), .ref (b 3), .ref (b 4), .int 0, .int 0, .int 0, .int 0, .ref (b 9), .int 0, .ref (b 11), .ref (b 12), .ref (b 13), .ref (b 14), .ref (b 15), .ref (b 16), .ref (b 17), .ref (b 18), .int 0, .ref (b 20), .int 0, .int 0, .int 0, .ref (b 24), .ref (b 25), .ref (b 26), .int 0, .int 0, .ref (b 29), .ref (b 30), .int 0, .ref (b 32), .ref (b 33), .ref (b 34), .ref (b 35), .ref (b 36), .ref (b 37), .int 0, .int 0, .ref (b 40), .ref (b 41), .ref (b 42), .ref (b 43), .ref (b 44), .int 0, .ref (b 46), .ref (b 47), .ref (b 48)])), (o, .inl (dA 3, 1, .inr (.inl u4)))] := hD
    have hP := hP.sub (ws' := [(o, .inl (dA 3, 1, .inr (.inl u4))), (b 0, .inr (12, [.int 0, .int 0, .ref (b 2), .ref (b 3), .ref (b 4), .int 0, .int 0, .int 0, .int 0, .ref (b 9), .int 0, .ref (b 11), .ref (b 12), .ref (b 13), .ref (b 14), .ref (b 15), .ref (b 16), .ref (b 17), .ref (b 18), .int 0, .ref (b 20), .int 0, .int 0, .int 0, .ref (b 24), .ref (b 25), .ref (b 26), .int 0, .int 0, .ref (b 29), .ref (b 30), .int 0, .ref (b 32), .ref (b 33), .ref (b 34), .ref (b 35), .ref (b 36), .ref (b 37), .int 0, .int 0, .ref (b 40), .ref (b 41), .ref (b 42), .ref (b 43), .ref (b 44), .int 0, .ref (b 46), .ref (b 47), .ref (b 48)]))]) [1, 0] rfl
    have hD := hD.sub (ws' := [(o, .inl (dA 3, 1, .inr (.inl u4))), (b 0, .inr (12, [.int 0, .int 0, .ref (b 2), .ref (b 3), .ref (b 4), .int 0, .int 0, .int 0, .int 0, .ref (b 9), .int 0, .ref (b 11), .ref (b 12), .ref (b 13), .ref (b 14), .ref (b 15), .ref (b 16), .ref (b 17), .ref (b 18), .int 0, .ref (b 20), .int 0, .int 0, .int 0, .ref (b 24), .ref (b 25), .ref (b 26), .int 0, .int 0, .ref (b 29), .ref (b 30), .int 0, .ref (b 32), .ref (b 33), .ref (b 34), .ref (b 35), .ref (b 36), .ref (b 37), .int 0, .int 0, .ref (b 40), .ref (b 41), .ref (b 42), .ref (b 43), .ref (b 44), .int 0, .ref (b 46), .ref (b 47), .ref (b 48)]))]) [1, 0] (by decide) rfl
    have hk := hw5
    obtain rfl : r3 = 1 := hk
    refine lv_istore (lv' := [(6, .int 1), (5, .int 0), (4, .ref od), (3, .ref o), (2, .ref (b 0)), (1, .ref (a 0)), (0, .ref bs)]) hx hb dL_law_1097 hl (by decide) rfl (fun ls hl => ?_)
    refine lv_aload_n hx hb dL_law_1099 rfl (lv_at hl 4 rfl) ?_
    refine lv_aload_n hx hb dL_law_1100 rfl (lv_at hl 6 rfl) ?_
    refine lv_iload hx hb dL_law_1101 (lv_at hl 1 rfl) ?_
    refine lv_iconst (v := 1) hx hb dL_law_1103 (by decide) ?_
    refine lv_iadd hx hb dL_law_1104 ?_
    refine lv_topi (fun x6 ex6 => ?_)
    replace ex6 : x6 = 1 := ex6.trans (by decide)
    subst ex6
    refine va_sld hx hb hX hbl hbA hS (vi_c (by decide)) dL_law_1105 ?_
    refine lv_topi (fun x7 ex7 => ?_)
    obtain rfl : x2 = x7 := ex2.trans ex7.symm
    have hPc := hP.sub (ws' := [(b 0, .inr (12, [.int 0, .int 0, .ref (b 2), .ref (b 3), .ref (b 4), .int 0, .int 0, .int 0, .int 0, .ref (b 9), .int 0, .ref (b 11), .ref (b 12), .ref (b 13), .ref (b 14), .ref (b 15), .ref (b 16), .ref (b 17), .ref (b 18), .int 0, .ref (b 20), .int 0, .int 0, .int 0, .ref (b 24), .ref (b 25), .ref (b 26), .int 0, .int 0, .ref (b 29), .ref (b 30), .int 0, .ref (b 32), .ref (b 33), .ref (b 34), .ref (b 35), .ref (b 36), .ref (b 37), .int 0, .int 0, .ref (b 40), .ref (b 41), .ref (b 42), .ref (b 43), .ref (b 44), .int 0, .ref (b 46), .ref (b 47), .ref (b 48)]))]) [1] rfl
    have hDc := hD.sub (ws' := [(b 0, .inr (12, [.int 0, .int 0, .ref (b 2), .ref (b 3), .ref (b 4), .int 0, .int 0, .int 0, .int 0, .ref (b 9), .int 0, .ref (b 11), .ref (b 12), .ref (b 13), .ref (b 14), .ref (b 15), .ref (b 16), .ref (b 17), .ref (b 18), .int 0, .ref (b 20), .int 0, .int 0, .int 0, .ref (b 24), .ref (b 25), .ref (b 26), .int 0, .int 0, .ref (b 29), .ref (b 30), .int 0, .ref (b 32), .ref (b 33), .ref (b 34), .ref (b 35), .ref (b 36), .ref (b 37), .int 0, .int 0, .ref (b 40), .ref (b 41), .ref (b 42), .ref (b 43), .ref (b 44), .int 0, .ref (b 46), .ref (b 47), .ref (b 48)]))]) [1] (by decide) rfl
    have hFc := va_free (wc := [(b 0, .inr (12, [.int 0, .int 0, .ref (b 2), .ref (b 3), .ref (b 4), .int 0, .int 0, .int 0, .int 0, .ref (b 9), .int 0, .ref (b 11), .ref (b 12), .ref (b 13), .ref (b 14), .ref (b 15), .ref (b 16), .ref (b 17), .ref (b 18), .int 0, .ref (b 20), .int 0, .int 0, .int 0, .ref (b 24), .ref (b 25), .ref (b 26), .int 0, .int 0, .ref (b 29), .ref (b 30), .int 0, .ref (b 32), .ref (b 33), .ref (b 34), .ref (b 35), .ref (b 36), .ref (b 37), .int 0, .int 0, .ref (b 40), .ref (b 41), .ref (b 42), .ref (b 43), .ref (b 44), .int 0, .ref (b 46), .ref (b 47), .ref (b 48)]))]) hD hS hA [1] rfl
    refine va_calli (va_runV (As := [.int x2]) (rest := []) ⟨hx, hb, hml, hown, hts⟩ (c_M_seen l D dA E b x2 H.size ) (cwV 1 hts (ga_V q608 q609 q606 q278 q607) rfl rfl rfl (by decide +kernel) ⟨(Nat.le_of_ble_eq_true rfl), (Nat.le_of_ble_eq_true rfl)⟩) ⟨pb_blind, va_recv hK hPc (ci := 12) (q0 := 0) rfl rfl, pb_pre hK hPc hDc hZ hS hFc _⟩ rfl rfl hl.1 rfl (lv_room (Nat.le_of_ble_eq_true rfl)) dL_law_1106 ⟨(Nat.le_of_ble_eq_true rfl), (Nat.le_of_ble_eq_true rfl)⟩) hS (fun q _ h => hFc q h) hFc (fun r u t H1 locs ht hvm hw hB hz1 hk1 hS => ?_)
    refine W.widen (k := 66) (n := 11784) (Nat.le_of_ble_eq_true rfl) (Nat.le_of_ble_eq_true rfl) ?_
    obtain ⟨r8, rfl⟩ : ∃ z, z = r := ⟨_, rfl⟩
    obtain ⟨u9, rfl⟩ : ∃ z, z = u := ⟨_, rfl⟩
    have hw10 := hw
    clear hw
    obtain ⟨hP1, hD1⟩ := hB
    rw [ht] at hP1
    obtain ⟨hP, hD⟩ := va_join (wr := [(o, .inl (dA 3, 1, .inr (.inl u4)))]) (w1 := [(b 0, .inr (12, .int u9.1 :: u9.2))]) hP hD [1] [0] rfl rfl (by decide) (by decide) hk1 hFc hP1 hD1
    generalize H1 = H at hP hS ⊢
    have hP : va_P D vwCl [(o, .inl (dA 3, 1, .inr (.inl u4))), (b 0, .inr (12, .int u9.1 :: u9.2))] H := hP
    have hD : va_D A [(o, .inl (dA 3, 1, .inr (.inl u4))), (b 0, .inr (12, .int u9.1 :: u9.2))] := hD
    have hP := hP.sub (ws' := [(b 0, .inr (12, .int u9.1 :: u9.2)), (o, .inl (dA 3, 1, .inr (.inl u4)))]) [1, 0] rfl
    have hD := hD.sub (ws' := [(b 0, .inr (12, .int u9.1 :: u9.2)), (o, .inl (dA 3, 1, .inr (.inl u4)))]) [1, 0] (by decide) rfl
    have hm : u9.1 = 1 := hw10
    rw [hm] at hP hD
    have hP : va_P D vwCl [(b 0, .inr (12, .int 1 :: u9.2)), (o, .inl (dA 3, 1, .inr (.inl u4)))] H := hP
    have hD : va_D A [(b 0, .inr (12, .int 1 :: u9.2)), (o, .inl (dA 3, 1, .inr (.inl u4)))] := hD
    refine lv_istore (lv' := [(7, .int r8), (6, .int 1), (5, .int 0), (4, .ref od), (3, .ref o), (2, .ref (b 0)), (1, .ref (a 0)), (0, .ref bs)]) hx hb dL_law_1109 hl (by decide) rfl (fun ls hl => ?_)
    refine lv_aload_n hx hb dL_law_1111 rfl (lv_at hl 5 rfl) ?_
    have hPc := hP.sub (ws' := [(b 0, .inr (12, .int 1 :: u9.2))]) [0] rfl
    have hDc := hD.sub (ws' := [(b 0, .inr (12, .int 1 :: u9.2))]) [0] (by decide) rfl
    have hFc := va_free (wc := [(b 0, .inr (12, .int 1 :: u9.2))]) hD hS hA [0] rfl
    refine va_calli (va_runV (As := []) (rest := []) ⟨hx, hb, hml, hown, hts⟩ (c_M_thrown l D dA E (b 0) 1 u9.2 H.size ) (cwV 0 hts (ga_V q470 q471 q468 q278 q469) rfl rfl rfl (by decide +kernel) ⟨(Nat.le_of_ble_eq_true rfl), (Nat.le_of_ble_eq_true rfl)⟩) ⟨pb_blind, va_recv hK hPc (ci := 12) (q0 := 0) rfl rfl, pb_pre hK hPc hDc hZ hS hFc _⟩ rfl rfl hl.1 rfl (lv_room (Nat.le_of_ble_eq_true rfl)) dL_law_1112 ⟨(Nat.le_of_ble_eq_true rfl), (Nat.le_of_ble_eq_true rfl)⟩) hS (fun q _ h => hFc q h) hFc (fun r u t H1 locs ht hvm hw hB hz1 hk1 hS => ?_)
    refine W.widen (k := 66) (n := 11784) (Nat.le_of_ble_eq_true rfl) (Nat.le_of_ble_eq_true rfl) ?_
    obtain ⟨r11, rfl⟩ : ∃ z, z = r := ⟨_, rfl⟩
    obtain ⟨u12, rfl⟩ : ∃ z, z = u := ⟨_, rfl⟩
    have hw13 := hw
    clear hw
    obtain ⟨hP, hD⟩ := jn_drop (wr := [(o, .inl (dA 3, 1, .inr (.inl u4)))]) hP hD [0] [1] rfl rfl (by decide) (by decide) hk1 hFc
    generalize H1 = H at hP hS ⊢
    have hP : va_P D vwCl [(o, .inl (dA 3, 1, .inr (.inl u4)))] H := hP
    have hD : va_D A [(o, .inl (dA 3, 1, .inr (.inl u4)))] := hD
    obtain rfl : r11 = 1 := hw13
    refine lv_iload hx hb dL_law_1115 (lv_at hl 1 rfl) ?_
    refine lv_icmp_eq (tgt := 1122) hx hb dL_law_1117 (by decide) (fun _ => ?_) (fun c14 => absurd (by decide) c14)
    refine lv_iload hx hb dL_law_1122 (lv_at hl 1 rfl) ?_
    refine lv_if_ne (tgt := 1139) hx hb dL_law_1124 (by decide) (fun _ => ?_) (fun c15 => absurd c15 (by decide))
    refine lv_goto (tgt := 2346) hx hb dL_law_1139 (by decide) ?_
    exact law_tail l C0 rfl (by rw [hAe]; exact hS) (Nat.le_of_ble_eq_true rfl) (Nat.le_of_ble_eq_true rfl) ls (lv_sub hl [7, 2] rfl)

set_option maxHeartbeats 4000000 in
set_option maxRecDepth 100000 in
/-- the law at ask -/
theorem law_20 {p : Program} {e : Env} {s : State} {m : MethodId} {below : List Frame} {meth : Method} {c : Code} (l : Launch) (hlt : l.stackTraces = false) {bs L : Nat} {xs : Nat → Int32} (C0 : lw_At p s m meth c bs L xs) (hL6 : L = 6) (D : va_G) (dA : Nat → ClassId) (E : Nat) (A : Nat → Prop) (hAe : (fun q : Nat => s.heap.size ≤ q) = A) (a b : Nat → Nat) (o od : Nat) (hK : va_K D vwCl (TY dA) s) (hZ : ZZ dA E A s s.heap) (H : Heap) (locs : List Loc) (hP : va_P D vwCl [(a 0, .inr (11, [.ref (a 1), .ref (a 2), .ref (a 3), .ref (a 4), .ref (a 5), .ref (a 10), .ref (a 15), .ref (a 17), .null, .int 0, .int 0, .int 0])), (a 4, .inr (2, [.int 0, .ref E, .int 0])), (o, .inl (dA 3, 1, .inr (.inl (fun _ => 0)))), (b 0, .inr (12, [.int 0, .int 0, .ref (b 2), .ref (b 3), .ref (b 4), .int 0, .int 0, .int 0, .int 0, .ref (b 9), .int 0, .ref (b 11), .ref (b 12), .ref (b 13), .ref (b 14), .ref (b 15), .ref (b 16), .ref (b 17), .ref (b 18), .int 0, .ref (b 20), .int 0, .int 0, .int 0, .ref (b 24), .ref (b 25), .ref (b 26), .int 0, .int 0, .ref (b 29), .ref (b 30), .int 0, .ref (b 32), .ref (b 33), .ref (b 34), .ref (b 35), .ref (b 36), .ref (b 37), .int 0, .int 0, .ref (b 40), .ref (b 41), .ref (b 42), .ref (b 43), .ref (b 44), .int 0, .ref (b 46), .ref (b 47), .ref (b 48)])), (b 32, .inl (dA 1, 40, .inl (fun _ => 0))), (b 33, .inl (dA 0, 40, .inl (fun _ => 0))), (b 34, .inl (dA 0, 40, .inl (fun _ => 0))), (b 35, .inl (dA 0, 40, .inl (fun _ => 0))), (b 36, .inl (dA 0, 40, .inl (fun _ => 0))), (b 37, .inl (dA 0, 40, .inl (fun _ => 0)))] H) (hD : va_D A [(a 0, .inr (11, [.ref (a 1), .ref (a 2), .ref (a 3), .ref (a 4), .ref (a 5), .ref (a 10), .ref (a 15), .ref (a 17), .null, .int 0, .int 0, .int 0])), (a 4, .inr (2, [.int 0, .ref E, .int 0])), (o, .inl (dA 3, 1, .inr (.inl (fun _ => 0)))), (b 0, .inr (12, [.int 0, .int 0, .ref (b 2), .ref (b 3), .ref (b 4), .int 0, .int 0, .int 0, .int 0, .ref (b 9), .int 0, .ref (b 11), .ref (b 12), .ref (b 13), .ref (b 14), .ref (b 15), .ref (b 16), .ref (b 17), .ref (b 18), .int 0, .ref (b 20), .int 0, .int 0, .int 0, .ref (b 24), .ref (b 25), .ref (b 26), .int 0, .int 0, .ref (b 29), .ref (b 30), .int 0, .ref (b 32), .ref (b 33), .ref (b 34), .ref (b 35), .ref (b 36), .ref (b 37), .int 0, .int 0, .ref (b 40), .ref (b 41), .ref (b 42), .ref (b 43), .ref (b 44), .int 0, .ref (b 46), .ref (b 47), .ref (b 48)])), (b 32, .inl (dA 1, 40, .inl (fun _ => 0))), (b 33, .inl (dA 0, 40, .inl (fun _ => 0))), (b 34, .inl (dA 0, 40, .inl (fun _ => 0))), (b 35, .inl (dA 0, 40, .inl (fun _ => 0))), (b 36, .inl (dA 0, 40, .inl (fun _ => 0))), (b 37, .inl (dA 0, 40, .inl (fun _ => 0)))]) (hS : va_S A s.heap H locs) (ls : Array Slot) (hl : lv_has ls 9 [(5, .int 0), (4, .ref od), (3, .ref o), (2, .ref (b 0)), (1, .ref (a 0)), (0, .ref bs)]) : W p l e room_1 s m #[Value.ref bs] below meth c H locs 65 11778 (lw_Z below #[Value.ref bs] s) (F0 m 1142 ls []) := by
  subst hL6
  obtain ⟨hx, hb, hr, hml, hown, hts0, hX, hbl, hlocks, hgv⟩ := id C0
  have hts : ∀ w ∈ WA, w.before #[Value.ref bs] s = true := fun w h => hts0 w (WA_tbl h)
  have hA : ∀ q : Nat, s.heap.size ≤ q → A q := fun q h => by rw [← hAe]; exact h
  have hbA : ¬ A bs := by rw [← hAe]; exact Nat.not_le.mpr hbl
  refine lv_aload_n hx hb dL_law_1142 rfl (lv_at hl 4 rfl) ?_
  refine lv_aload_n hx hb dL_law_1143 rfl (lv_at hl 5 rfl) ?_
  refine lv_iload hx hb dL_law_1144 (lv_at hl 0 rfl) ?_
  refine lv_iconst (v := 1) hx hb dL_law_1146 (by decide) ?_
  refine lv_iadd hx hb dL_law_1147 ?_
  refine lv_topi (fun x1 ex1 => ?_)
  replace ex1 : x1 = 1 := ex1.trans (by decide)
  subst ex1
  refine va_sld hx hb hX hbl hbA hS (vi_c (by decide)) dL_law_1148 ?_
  refine lv_topi (fun x2 ex2 => ?_)
  obtain ⟨x3, ex3⟩ : ∃ y : Int32, y = (x2.toUInt32 % 65536).toInt32 := ⟨_, rfl⟩
  refine lv_i2c (v := x3) hx hb dL_law_1149 ex3.symm ?_
  refine lv_aload_n hx hb dL_law_1150 rfl (lv_at hl 5 rfl) ?_
  refine lv_iload hx hb dL_law_1151 (lv_at hl 0 rfl) ?_
  refine lv_iconst (v := 2) hx hb dL_law_1153 (by decide) ?_
  refine lv_iadd hx hb dL_law_1154 ?_
  refine lv_topi (fun x4 ex4 => ?_)
  replace ex4 : x4 = 2 := ex4.trans (by decide)
  subst ex4
  refine va_sld hx hb hX hbl hbA hS (vi_c (by decide)) dL_law_1155 ?_
  refine lv_topi (fun x5 ex5 => ?_)
  refine lv_aload_n hx hb dL_law_1156 rfl (lv_at hl 5 rfl) ?_
  refine lv_iload hx hb dL_law_1157 (lv_at hl 0 rfl) ?_
  refine lv_iconst (v := 3) hx hb dL_law_1159 (by decide) ?_
  refine lv_iadd hx hb dL_law_1160 ?_
  refine lv_topi (fun x6 ex6 => ?_)
  replace ex6 : x6 = 3 := ex6.trans (by decide)
  subst ex6
  refine va_sld hx hb hX hbl hbA hS (vi_c (by decide)) dL_law_1161 ?_
  refine lv_topi (fun x7 ex7 => ?_)
  refine lv_aload_n hx hb dL_law_1162 rfl (lv_at hl 5 rfl) ?_
  refine lv_iload hx hb dL_law_1163 (lv_at hl 0 rfl) ?_
  refine lv_iconst (v := 4) hx hb dL_law_1165 (by decide) ?_
  refine lv_iadd hx hb dL_law_1166 ?_
  refine lv_topi (fun x8 ex8 => ?_)
  replace ex8 : x8 = 4 := ex8.trans (by decide)
  subst ex8
  refine va_sld hx hb hX hbl hbA hS (vi_c (by decide)) dL_law_1167 ?_
  refine lv_topi (fun x9 ex9 => ?_)
  refine lv_aload_n hx hb dL_law_1168 rfl (lv_at hl 5 rfl) ?_
  refine lv_iload hx hb dL_law_1169 (lv_at hl 0 rfl) ?_
  refine lv_iconst (v := 5) hx hb dL_law_1171 (by decide) ?_
  refine lv_iadd hx hb dL_law_1172 ?_
  refine lv_topi (fun x10 ex10 => ?_)
  replace ex10 : x10 = 5 := ex10.trans (by decide)
  subst ex10
  refine va_sld hx hb hX hbl hbA hS (vi_c (by decide)) dL_law_1173 ?_
  refine lv_topi (fun x11 ex11 => ?_)
  refine lv_aload_n hx hb dL_law_1174 rfl (lv_at hl 2 rfl) ?_
  have hPc := hP.sub (ws' := [(a 0, .inr (11, [.ref (a 1), .ref (a 2), .ref (a 3), .ref (a 4), .ref (a 5), .ref (a 10), .ref (a 15), .ref (a 17), .null, .int 0, .int 0, .int 0])), (a 4, .inr (2, [.int 0, .ref E, .int 0])), (o, .inl (dA 3, 1, .inr (.inl (fun _ => 0))))]) [0, 1, 2] rfl
  have hDc := hD.sub (ws' := [(a 0, .inr (11, [.ref (a 1), .ref (a 2), .ref (a 3), .ref (a 4), .ref (a 5), .ref (a 10), .ref (a 15), .ref (a 17), .null, .int 0, .int 0, .int 0])), (a 4, .inr (2, [.int 0, .ref E, .int 0])), (o, .inl (dA 3, 1, .inr (.inl (fun _ => 0))))]) [0, 1, 2] (by decide) rfl
  have hFc := va_free (wc := [(a 0, .inr (11, [.ref (a 1), .ref (a 2), .ref (a 3), .ref (a 4), .ref (a 5), .ref (a 10), .ref (a 15), .ref (a 17), .null, .int 0, .int 0, .int 0])), (a 4, .inr (2, [.int 0, .ref E, .int 0])), (o, .inl (dA 3, 1, .inr (.inl (fun _ => 0))))]) hD hS hA [0, 1, 2] rfl
  refine vx_calli (vx_runSX (As := [.ref (a 0), .int x3, .int x5, .int x7, .int x9, .int x11, .ref o]) (rest := []) ⟨hx, hb, hml, hown, hts⟩ (c_L_ask l hlt D dA E a o (fun _ => 0) x3 x5 x7 x9 x11 H.size ⟨by rw [ex3]; exact pk_nc _, by rw [ex3]; exact pk_fc _⟩) (vx_cwSW 7 hts (ga_S q611 q612 q463 q610) rfl rfl rfl (by decide +kernel) ⟨(Nat.le_of_ble_eq_true rfl), (Nat.le_of_ble_eq_true rfl)⟩) ⟨pb_blind, pb_pre hK hPc hDc hZ hS hFc _⟩ rfl rfl hl.1 rfl (lv_room (Nat.le_of_ble_eq_true rfl)) dL_law_1175 ⟨(Nat.le_of_ble_eq_true rfl), (Nat.le_of_ble_eq_true rfl)⟩) hS (fun q _ h => hFc q h) hFc (fun q _ h => hFc q h) (fun E9 ce q9 k t H1 locs ht hvm hpx hBX hz1 hk1 hS hce hcv hcl => ?_) (fun r u t H1 locs ht hvm hw hB hz1 hk1 hS => ?_)
  · exact hpx.elim
  · refine W.widen (k := 67) (n := 11794) (Nat.le_of_ble_eq_true rfl) (Nat.le_of_ble_eq_true rfl) ?_
    obtain ⟨r12, rfl⟩ : ∃ z, z = r := ⟨_, rfl⟩
    obtain ⟨u13, rfl⟩ : ∃ z, z = u := ⟨_, rfl⟩
    have hw14 := hw
    clear hw
    obtain ⟨hP1, hD1⟩ := hB
    rw [ht] at hP1
    obtain ⟨hP, hD⟩ := va_join (wr := [(b 0, .inr (12, [.int 0, .int 0, .ref (b 2), .ref (b 3), .ref (b 4), .int 0, .int 0, .int 0, .int 0, .ref (b 9), .int 0, .ref (b 11), .ref (b 12), .ref (b 13), .ref (b 14), .ref (b 15), .ref (b 16), .ref (b 17), .ref (b 18), .int 0, .ref (b 20), .int 0, .int 0, .int 0, .ref (b 24), .ref (b 25), .ref (b 26), .int 0, .int 0, .ref (b 29), .ref (b 30), .int 0, .ref (b 32), .ref (b 33), .ref (b 34), .ref (b 35), .ref (b 36), .ref (b 37), .int 0, .int 0, .ref (b 40), .ref (b 41), .ref (b 42), .ref (b 43), .ref (b 44), .int 0, .ref (b 46), .ref (b 47), .ref (b 48)])), (b 32, .inl (dA 1, 40, .inl (fun _ => 0))), (b 33, .inl (dA 0, 40, .inl (fun _ => 0))), (b 34, .inl (dA 0, 40, .inl (fun _ => 0))), (b 35, .inl (dA 0, 40, .inl (fun _ => 0))), (b 36, .inl (dA 0, 40, .inl (fun _ => 0))), (b 37, .inl (dA 0, 40, .inl (fun _ => 0)))]) (w1 := [(o, .inl (dA 3, 1, .inr (.inl u13)))]) hP hD [0, 1, 2] [3, 4, 5, 6, 7, 8, 9] rfl rfl (by decide) (by decide) hk1 hFc hP1 hD1
    generalize H1 = H at hP hS ⊢
    have hP : va_P D vwCl [(b 0, .inr (12, [.int 0, .int 0, .ref (b 2), .ref (b 3), .ref (b 4), .int 0, .int 0, .int 0, .int 0, .ref (b 9), .int 0, .ref (b 11), .ref (b 12), .ref (b 13), .ref (b 14), .ref (b 15), .ref (b 16), .ref (b 17), .ref (b 18), .int 0, .ref (b 20), .int 0, .int 0, .int 0, .ref (b 24), .ref (b 25), .ref (b 26), .int 0, .int 0, .ref (b 29), .ref (b 30), .int 0, .ref (b 32), .ref (b 33), .ref (b 34), .ref (b 35), .ref (b 36), .ref (b 37), .int 0, .int 0, .ref (b 40), .ref (b 41), .ref (b 42), .ref (b 43), .ref (b 44), .int 0, .ref (b 46), .ref (b 47), .ref (b 48)])), (b 32, .inl (dA 1, 40, .inl (fun _ => 0))), (b 33, .inl (dA 0, 40, .inl (fun _ => 0))), (b 34, .inl (dA 0, 40, .inl (fun _ => 0))), (b 35, .inl (dA 0, 40, .inl (fun _ => 0))), (b 36, .inl (dA 0, 40, .inl (fun _ => 0))), (b 37, .inl (dA 0, 40, .inl (fun _ => 0))), (o, .inl (dA 3, 1, .inr (.inl u13)))] H := hP
    have hD : va_D A [(b 0, .inr (12, [.int 0, .int 0, .ref (b 2), .ref (b 3), .ref (b 4), .int 0, .int 0, .int 0, .int 0, .ref (b 9), .int 0, .ref (b 11), .ref (b 12), .ref (b 13), .ref (b 14), .ref (b 15), .ref (b 16), .ref (b 17), .ref (b 18), .int 0, .ref (b 20), .int 0, .int 0, .int 0, .ref (b 24), .ref (b 25), .ref (b 26), .int 0, .int 0, .ref (b 29), .ref (b 30), .int 0, .ref (b 32), .ref (b 33), .ref (b 34), .ref (b 35), .ref (b 36), .ref (b 37), .int 0, .int 0, .ref (b 40), .ref (b 41), .ref (b 42), .ref (b 43), .ref (b 44), .int 0, .ref (b 46), .ref (b 47), .ref (b 48)])), (b 32, .inl (dA 1, 40, .inl (fun _ => 0))), (b 33, .inl (dA 0, 40, .inl (fun _ => 0))), (b 34, .inl (dA 0, 40, .inl (fun _ => 0))), (b 35, .inl (dA 0, 40, .inl (fun _ => 0))), (b 36, .inl (dA 0, 40, .inl (fun _ => 0))), (b 37, .inl (dA 0, 40, .inl (fun _ => 0))), (o, .inl (dA 3, 1, .inr (.inl u13)))] := hD
    have hP := hP.sub (ws' := [(o, .inl (dA 3, 1, .inr (.inl u13))), (b 0, .inr (12, [.int 0, .int 0, .ref (b 2), .ref (b 3), .ref (b 4), .int 0, .int 0, .int 0, .int 0, .ref (b 9), .int 0, .ref (b 11), .ref (b 12), .ref (b 13), .ref (b 14), .ref (b 15), .ref (b 16), .ref (b 17), .ref (b 18), .int 0, .ref (b 20), .int 0, .int 0, .int 0, .ref (b 24), .ref (b 25), .ref (b 26), .int 0, .int 0, .ref (b 29), .ref (b 30), .int 0, .ref (b 32), .ref (b 33), .ref (b 34), .ref (b 35), .ref (b 36), .ref (b 37), .int 0, .int 0, .ref (b 40), .ref (b 41), .ref (b 42), .ref (b 43), .ref (b 44), .int 0, .ref (b 46), .ref (b 47), .ref (b 48)])), (b 32, .inl (dA 1, 40, .inl (fun _ => 0))), (b 33, .inl (dA 0, 40, .inl (fun _ => 0))), (b 34, .inl (dA 0, 40, .inl (fun _ => 0))), (b 35, .inl (dA 0, 40, .inl (fun _ => 0))), (b 36, .inl (dA 0, 40, .inl (fun _ => 0))), (b 37, .inl (dA 0, 40, .inl (fun _ => 0)))]) [7, 0, 1, 2, 3, 4, 5, 6] rfl
    have hD := hD.sub (ws' := [(o, .inl (dA 3, 1, .inr (.inl u13))), (b 0, .inr (12, [.int 0, .int 0, .ref (b 2), .ref (b 3), .ref (b 4), .int 0, .int 0, .int 0, .int 0, .ref (b 9), .int 0, .ref (b 11), .ref (b 12), .ref (b 13), .ref (b 14), .ref (b 15), .ref (b 16), .ref (b 17), .ref (b 18), .int 0, .ref (b 20), .int 0, .int 0, .int 0, .ref (b 24), .ref (b 25), .ref (b 26), .int 0, .int 0, .ref (b 29), .ref (b 30), .int 0, .ref (b 32), .ref (b 33), .ref (b 34), .ref (b 35), .ref (b 36), .ref (b 37), .int 0, .int 0, .ref (b 40), .ref (b 41), .ref (b 42), .ref (b 43), .ref (b 44), .int 0, .ref (b 46), .ref (b 47), .ref (b 48)])), (b 32, .inl (dA 1, 40, .inl (fun _ => 0))), (b 33, .inl (dA 0, 40, .inl (fun _ => 0))), (b 34, .inl (dA 0, 40, .inl (fun _ => 0))), (b 35, .inl (dA 0, 40, .inl (fun _ => 0))), (b 36, .inl (dA 0, 40, .inl (fun _ => 0))), (b 37, .inl (dA 0, 40, .inl (fun _ => 0)))]) [7, 0, 1, 2, 3, 4, 5, 6] (by decide) rfl
    rcases hw14 with ⟨hq, hk, ho⟩ | ⟨hq, hk⟩
    · obtain rfl : r12 = 0 := hk
      refine lv_istore (lv' := [(6, .int 0), (5, .int 0), (4, .ref od), (3, .ref o), (2, .ref (b 0)), (1, .ref (a 0)), (0, .ref bs)]) hx hb dL_law_1178 hl (by decide) rfl (fun ls hl => ?_)
      refine lv_aload_n hx hb dL_law_1180 rfl (lv_at hl 4 rfl) ?_
      refine lv_aload_n hx hb dL_law_1181 rfl (lv_at hl 6 rfl) ?_
      refine lv_iload hx hb dL_law_1182 (lv_at hl 1 rfl) ?_
      refine lv_iconst (v := 1) hx hb dL_law_1184 (by decide) ?_
      refine lv_iadd hx hb dL_law_1185 ?_
      refine lv_topi (fun x15 ex15 => ?_)
      replace ex15 : x15 = 1 := ex15.trans (by decide)
      subst ex15
      refine va_sld hx hb hX hbl hbA hS (vi_c (by decide)) dL_law_1186 ?_
      refine lv_topi (fun x16 ex16 => ?_)
      obtain rfl : x2 = x16 := ex2.trans ex16.symm
      refine lv_i2c (v := x3) hx hb dL_law_1187 ex3.symm ?_
      refine lv_aload_n hx hb dL_law_1188 rfl (lv_at hl 6 rfl) ?_
      refine lv_iload hx hb dL_law_1189 (lv_at hl 1 rfl) ?_
      refine lv_iconst (v := 2) hx hb dL_law_1191 (by decide) ?_
      refine lv_iadd hx hb dL_law_1192 ?_
      refine lv_topi (fun x17 ex17 => ?_)
      replace ex17 : x17 = 2 := ex17.trans (by decide)
      subst ex17
      refine va_sld hx hb hX hbl hbA hS (vi_c (by decide)) dL_law_1193 ?_
      refine lv_topi (fun x18 ex18 => ?_)
      obtain rfl : x5 = x18 := ex5.trans ex18.symm
      refine lv_aload_n hx hb dL_law_1194 rfl (lv_at hl 6 rfl) ?_
      refine lv_iload hx hb dL_law_1195 (lv_at hl 1 rfl) ?_
      refine lv_iconst (v := 3) hx hb dL_law_1197 (by decide) ?_
      refine lv_iadd hx hb dL_law_1198 ?_
      refine lv_topi (fun x19 ex19 => ?_)
      replace ex19 : x19 = 3 := ex19.trans (by decide)
      subst ex19
      refine va_sld hx hb hX hbl hbA hS (vi_c (by decide)) dL_law_1199 ?_
      refine lv_topi (fun x20 ex20 => ?_)
      obtain rfl : x7 = x20 := ex7.trans ex20.symm
      refine lv_aload_n hx hb dL_law_1200 rfl (lv_at hl 6 rfl) ?_
      refine lv_iload hx hb dL_law_1201 (lv_at hl 1 rfl) ?_
      refine lv_iconst (v := 4) hx hb dL_law_1203 (by decide) ?_
      refine lv_iadd hx hb dL_law_1204 ?_
      refine lv_topi (fun x21 ex21 => ?_)
      replace ex21 : x21 = 4 := ex21.trans (by decide)
      subst ex21
      refine va_sld hx hb hX hbl hbA hS (vi_c (by decide)) dL_law_1205 ?_
      refine lv_topi (fun x22 ex22 => ?_)
      obtain rfl : x9 = x22 := ex9.trans ex22.symm
      refine lv_aload_n hx hb dL_law_1206 rfl (lv_at hl 6 rfl) ?_
      refine lv_iload hx hb dL_law_1207 (lv_at hl 1 rfl) ?_
      refine lv_iconst (v := 5) hx hb dL_law_1209 (by decide) ?_
      refine lv_iadd hx hb dL_law_1210 ?_
      refine lv_topi (fun x23 ex23 => ?_)
      replace ex23 : x23 = 5 := ex23.trans (by decide)
      subst ex23
      refine va_sld hx hb hX hbl hbA hS (vi_c (by decide)) dL_law_1211 ?_
      refine lv_topi (fun x24 ex24 => ?_)
      obtain rfl : x11 = x24 := ex11.trans ex24.symm
      have hPc := hP.sub (ws' := [(b 0, .inr (12, [.int 0, .int 0, .ref (b 2), .ref (b 3), .ref (b 4), .int 0, .int 0, .int 0, .int 0, .ref (b 9), .int 0, .ref (b 11), .ref (b 12), .ref (b 13), .ref (b 14), .ref (b 15), .ref (b 16), .ref (b 17), .ref (b 18), .int 0, .ref (b 20), .int 0, .int 0, .int 0, .ref (b 24), .ref (b 25), .ref (b 26), .int 0, .int 0, .ref (b 29), .ref (b 30), .int 0, .ref (b 32), .ref (b 33), .ref (b 34), .ref (b 35), .ref (b 36), .ref (b 37), .int 0, .int 0, .ref (b 40), .ref (b 41), .ref (b 42), .ref (b 43), .ref (b 44), .int 0, .ref (b 46), .ref (b 47), .ref (b 48)])), (b 32, .inl (dA 1, 40, .inl (fun _ => 0))), (b 33, .inl (dA 0, 40, .inl (fun _ => 0))), (b 34, .inl (dA 0, 40, .inl (fun _ => 0))), (b 35, .inl (dA 0, 40, .inl (fun _ => 0))), (b 36, .inl (dA 0, 40, .inl (fun _ => 0))), (b 37, .inl (dA 0, 40, .inl (fun _ => 0)))]) [1, 2, 3, 4, 5, 6, 7] rfl
      have hDc := hD.sub (ws' := [(b 0, .inr (12, [.int 0, .int 0, .ref (b 2), .ref (b 3), .ref (b 4), .int 0, .int 0, .int 0, .int 0, .ref (b 9), .int 0, .ref (b 11), .ref (b 12), .ref (b 13), .ref (b 14), .ref (b 15), .ref (b 16), .ref (b 17), .ref (b 18), .int 0, .ref (b 20), .int 0, .int 0, .int 0, .ref (b 24), .ref (b 25), .ref (b 26), .int 0, .int 0, .ref (b 29), .ref (b 30), .int 0, .ref (b 32), .ref (b 33), .ref (b 34), .ref (b 35), .ref (b 36), .ref (b 37), .int 0, .int 0, .ref (b 40), .ref (b 41), .ref (b 42), .ref (b 43), .ref (b 44), .int 0, .ref (b 46), .ref (b 47), .ref (b 48)])), (b 32, .inl (dA 1, 40, .inl (fun _ => 0))), (b 33, .inl (dA 0, 40, .inl (fun _ => 0))), (b 34, .inl (dA 0, 40, .inl (fun _ => 0))), (b 35, .inl (dA 0, 40, .inl (fun _ => 0))), (b 36, .inl (dA 0, 40, .inl (fun _ => 0))), (b 37, .inl (dA 0, 40, .inl (fun _ => 0)))]) [1, 2, 3, 4, 5, 6, 7] (by decide) rfl
      have hFc := va_free (wc := [(b 0, .inr (12, [.int 0, .int 0, .ref (b 2), .ref (b 3), .ref (b 4), .int 0, .int 0, .int 0, .int 0, .ref (b 9), .int 0, .ref (b 11), .ref (b 12), .ref (b 13), .ref (b 14), .ref (b 15), .ref (b 16), .ref (b 17), .ref (b 18), .int 0, .ref (b 20), .int 0, .int 0, .int 0, .ref (b 24), .ref (b 25), .ref (b 26), .int 0, .int 0, .ref (b 29), .ref (b 30), .int 0, .ref (b 32), .ref (b 33), .ref (b 34), .ref (b 35), .ref (b 36), .ref (b 37), .int 0, .int 0, .ref (b 40), .ref (b 41), .ref (b 42), .ref (b 43), .ref (b 44), .int 0, .ref (b 46), .ref (b 47), .ref (b 48)])), (b 32, .inl (dA 1, 40, .inl (fun _ => 0))), (b 33, .inl (dA 0, 40, .inl (fun _ => 0))), (b 34, .inl (dA 0, 40, .inl (fun _ => 0))), (b 35, .inl (dA 0, 40, .inl (fun _ => 0))), (b 36, .inl (dA 0, 40, .inl (fun _ => 0))), (b 37, .inl (dA 0, 40, .inl (fun _ => 0)))]) hD hS hA [1, 2, 3, 4, 5, 6, 7] rfl
      refine va_calli (va_runV (As := [.int x3, .int x5, .int x7, .int x9, .int x11]) (rest := []) ⟨hx, hb, hml, hown, hts⟩ (c_M_ask l D dA E b x3 x5 x7 x9 x11 H.size ) (cwV 5 hts (ga_V q615 q616 q613 q278 q614) rfl rfl rfl (by decide +kernel) ⟨(Nat.le_of_ble_eq_true rfl), (Nat.le_of_ble_eq_true rfl)⟩) ⟨pb_blind, va_recv hK hPc (ci := 12) (q0 := 0) rfl rfl, pb_pre hK hPc hDc hZ hS hFc _⟩ rfl rfl hl.1 rfl (lv_room (Nat.le_of_ble_eq_true rfl)) dL_law_1212 ⟨(Nat.le_of_ble_eq_true rfl), (Nat.le_of_ble_eq_true rfl)⟩) hS (fun q _ h => hFc q h) hFc (fun r u t H1 locs ht hvm hw hB hz1 hk1 hS => ?_)
      refine W.widen (k := 67) (n := 11794) (Nat.le_of_ble_eq_true rfl) (Nat.le_of_ble_eq_true rfl) ?_
      obtain ⟨r25, rfl⟩ : ∃ z, z = r := ⟨_, rfl⟩
      obtain ⟨u26, rfl⟩ : ∃ z, z = u := ⟨_, rfl⟩
      have hw27 := hw
      clear hw
      obtain ⟨hP1, hD1⟩ := hB
      rw [ht] at hP1
      obtain ⟨hP, hD⟩ := va_join (wr := [(o, .inl (dA 3, 1, .inr (.inl u13)))]) (w1 := [(b 0, .inr (12, .int u26.1 :: u26.2))]) hP hD [1, 2, 3, 4, 5, 6, 7] [0] rfl rfl (by decide) (by decide) hk1 hFc hP1 hD1
      generalize H1 = H at hP hS ⊢
      have hP : va_P D vwCl [(o, .inl (dA 3, 1, .inr (.inl u13))), (b 0, .inr (12, .int u26.1 :: u26.2))] H := hP
      have hD : va_D A [(o, .inl (dA 3, 1, .inr (.inl u13))), (b 0, .inr (12, .int u26.1 :: u26.2))] := hD
      have hP := hP.sub (ws' := [(b 0, .inr (12, .int u26.1 :: u26.2)), (o, .inl (dA 3, 1, .inr (.inl u13)))]) [1, 0] rfl
      have hD := hD.sub (ws' := [(b 0, .inr (12, .int u26.1 :: u26.2)), (o, .inl (dA 3, 1, .inr (.inl u13)))]) [1, 0] (by decide) rfl
      have hm : u26.1 = 0 ∧ r25 = 0 := by
        rcases hw27 with h9 | h9
        · exact h9.2
        · exact absurd (hq.symm.trans h9.1) (by decide)
      obtain ⟨hm, hv9⟩ := hm
      obtain rfl : r25 = 0 := hv9
      rw [hm] at hP hD
      have hP : va_P D vwCl [(b 0, .inr (12, .int 0 :: u26.2)), (o, .inl (dA 3, 1, .inr (.inl u13)))] H := hP
      have hD : va_D A [(b 0, .inr (12, .int 0 :: u26.2)), (o, .inl (dA 3, 1, .inr (.inl u13)))] := hD
      refine lv_istore (lv' := [(7, .int 0), (6, .int 0), (5, .int 0), (4, .ref od), (3, .ref o), (2, .ref (b 0)), (1, .ref (a 0)), (0, .ref bs)]) hx hb dL_law_1215 hl (by decide) rfl (fun ls hl => ?_)
      refine lv_aload_n hx hb dL_law_1217 rfl (lv_at hl 5 rfl) ?_
      have hPc := hP.sub (ws' := [(b 0, .inr (12, .int 0 :: u26.2))]) [0] rfl
      have hDc := hD.sub (ws' := [(b 0, .inr (12, .int 0 :: u26.2))]) [0] (by decide) rfl
      have hFc := va_free (wc := [(b 0, .inr (12, .int 0 :: u26.2))]) hD hS hA [0] rfl
      refine va_calli (va_runV (As := []) (rest := []) ⟨hx, hb, hml, hown, hts⟩ (c_M_thrown l D dA E (b 0) 0 u26.2 H.size ) (cwV 0 hts (ga_V q470 q471 q468 q278 q469) rfl rfl rfl (by decide +kernel) ⟨(Nat.le_of_ble_eq_true rfl), (Nat.le_of_ble_eq_true rfl)⟩) ⟨pb_blind, va_recv hK hPc (ci := 12) (q0 := 0) rfl rfl, pb_pre hK hPc hDc hZ hS hFc _⟩ rfl rfl hl.1 rfl (lv_room (Nat.le_of_ble_eq_true rfl)) dL_law_1218 ⟨(Nat.le_of_ble_eq_true rfl), (Nat.le_of_ble_eq_true rfl)⟩) hS (fun q _ h => hFc q h) hFc (fun r u t H1 locs ht hvm hw hB hz1 hk1 hS => ?_)
      refine W.widen (k := 67) (n := 11794) (Nat.le_of_ble_eq_true rfl) (Nat.le_of_ble_eq_true rfl) ?_
      obtain ⟨r28, rfl⟩ : ∃ z, z = r := ⟨_, rfl⟩
      obtain ⟨u29, rfl⟩ : ∃ z, z = u := ⟨_, rfl⟩
      have hw30 := hw
      clear hw
      obtain ⟨hP, hD⟩ := jn_drop (wr := [(o, .inl (dA 3, 1, .inr (.inl u13)))]) hP hD [0] [1] rfl rfl (by decide) (by decide) hk1 hFc
      generalize H1 = H at hP hS ⊢
      have hP : va_P D vwCl [(o, .inl (dA 3, 1, .inr (.inl u13)))] H := hP
      have hD : va_D A [(o, .inl (dA 3, 1, .inr (.inl u13)))] := hD
      obtain rfl : r28 = 0 := hw30
      refine lv_iload hx hb dL_law_1221 (lv_at hl 1 rfl) ?_
      refine lv_icmp_eq (tgt := 1228) hx hb dL_law_1223 (by decide) (fun _ => ?_) (fun c31 => absurd (by decide) c31)
      refine lv_iload hx hb dL_law_1228 (lv_at hl 1 rfl) ?_
      refine lv_if_ne (tgt := 1245) hx hb dL_law_1230 (by decide) (fun c32 => absurd (by decide) c32) (fun _ => ?_)
      refine lv_aload_n hx hb dL_law_1233 rfl (lv_at hl 4 rfl) ?_
      refine lv_iconst (v := 0) hx hb dL_law_1234 (by decide) ?_
      refine va_lald hx hb hK hP 0 3 rfl rfl (vi_c (by decide)) dL_law_1235 ?_
      refine lv_topl (fun x33 ex33 => ?_)
      obtain rfl : x33 = 0 := ex33.trans ho
      refine lv_iload hx hb dL_law_1236 (lv_at hl 0 rfl) ?_
      refine lv_i2l (v := 0) hx hb dL_law_1238 (by decide) ?_
      refine W.lcmp hx hb dL_law_1239 ?_
      refine lv_topi (fun x34 ex34 => ?_)
      replace ex34 : x34 = 0 := ex34.trans (by decide)
      subst ex34
      refine lv_if_eq (tgt := 1245) hx hb dL_law_1240 (by decide) (fun _ => ?_) (fun c35 => absurd (by decide) c35)
      refine lv_goto (tgt := 2346) hx hb dL_law_1245 (by decide) ?_
      exact law_tail l C0 rfl (by rw [hAe]; exact hS) (Nat.le_of_ble_eq_true rfl) (Nat.le_of_ble_eq_true rfl) ls (lv_sub hl [7, 2] rfl)
    · obtain rfl : r12 = 1 := hk
      refine lv_istore (lv' := [(6, .int 1), (5, .int 0), (4, .ref od), (3, .ref o), (2, .ref (b 0)), (1, .ref (a 0)), (0, .ref bs)]) hx hb dL_law_1178 hl (by decide) rfl (fun ls hl => ?_)
      refine lv_aload_n hx hb dL_law_1180 rfl (lv_at hl 4 rfl) ?_
      refine lv_aload_n hx hb dL_law_1181 rfl (lv_at hl 6 rfl) ?_
      refine lv_iload hx hb dL_law_1182 (lv_at hl 1 rfl) ?_
      refine lv_iconst (v := 1) hx hb dL_law_1184 (by decide) ?_
      refine lv_iadd hx hb dL_law_1185 ?_
      refine lv_topi (fun x36 ex36 => ?_)
      replace ex36 : x36 = 1 := ex36.trans (by decide)
      subst ex36
      refine va_sld hx hb hX hbl hbA hS (vi_c (by decide)) dL_law_1186 ?_
      refine lv_topi (fun x37 ex37 => ?_)
      obtain rfl : x2 = x37 := ex2.trans ex37.symm
      refine lv_i2c (v := x3) hx hb dL_law_1187 ex3.symm ?_
      refine lv_aload_n hx hb dL_law_1188 rfl (lv_at hl 6 rfl) ?_
      refine lv_iload hx hb dL_law_1189 (lv_at hl 1 rfl) ?_
      refine lv_iconst (v := 2) hx hb dL_law_1191 (by decide) ?_
      refine lv_iadd hx hb dL_law_1192 ?_
      refine lv_topi (fun x38 ex38 => ?_)
      replace ex38 : x38 = 2 := ex38.trans (by decide)
      subst ex38
      refine va_sld hx hb hX hbl hbA hS (vi_c (by decide)) dL_law_1193 ?_
      refine lv_topi (fun x39 ex39 => ?_)
      obtain rfl : x5 = x39 := ex5.trans ex39.symm
      refine lv_aload_n hx hb dL_law_1194 rfl (lv_at hl 6 rfl) ?_
      refine lv_iload hx hb dL_law_1195 (lv_at hl 1 rfl) ?_
      refine lv_iconst (v := 3) hx hb dL_law_1197 (by decide) ?_
      refine lv_iadd hx hb dL_law_1198 ?_
      refine lv_topi (fun x40 ex40 => ?_)
      replace ex40 : x40 = 3 := ex40.trans (by decide)
      subst ex40
      refine va_sld hx hb hX hbl hbA hS (vi_c (by decide)) dL_law_1199 ?_
      refine lv_topi (fun x41 ex41 => ?_)
      obtain rfl : x7 = x41 := ex7.trans ex41.symm
      refine lv_aload_n hx hb dL_law_1200 rfl (lv_at hl 6 rfl) ?_
      refine lv_iload hx hb dL_law_1201 (lv_at hl 1 rfl) ?_
      refine lv_iconst (v := 4) hx hb dL_law_1203 (by decide) ?_
      refine lv_iadd hx hb dL_law_1204 ?_
      refine lv_topi (fun x42 ex42 => ?_)
      replace ex42 : x42 = 4 := ex42.trans (by decide)
      subst ex42
      refine va_sld hx hb hX hbl hbA hS (vi_c (by decide)) dL_law_1205 ?_
      refine lv_topi (fun x43 ex43 => ?_)
      obtain rfl : x9 = x43 := ex9.trans ex43.symm
      refine lv_aload_n hx hb dL_law_1206 rfl (lv_at hl 6 rfl) ?_
      refine lv_iload hx hb dL_law_1207 (lv_at hl 1 rfl) ?_
      refine lv_iconst (v := 5) hx hb dL_law_1209 (by decide) ?_
      refine lv_iadd hx hb dL_law_1210 ?_
      refine lv_topi (fun x44 ex44 => ?_)
      replace ex44 : x44 = 5 := ex44.trans (by decide)
      subst ex44
      refine va_sld hx hb hX hbl hbA hS (vi_c (by decide)) dL_law_1211 ?_
      refine lv_topi (fun x45 ex45 => ?_)
      obtain rfl : x11 = x45 := ex11.trans ex45.symm
      have hPc := hP.sub (ws' := [(b 0, .inr (12, [.int 0, .int 0, .ref (b 2), .ref (b 3), .ref (b 4), .int 0, .int 0, .int 0, .int 0, .ref (b 9), .int 0, .ref (b 11), .ref (b 12), .ref (b 13), .ref (b 14), .ref (b 15), .ref (b 16), .ref (b 17), .ref (b 18), .int 0, .ref (b 20), .int 0, .int 0, .int 0, .ref (b 24), .ref (b 25), .ref (b 26), .int 0, .int 0, .ref (b 29), .ref (b 30), .int 0, .ref (b 32), .ref (b 33), .ref (b 34), .ref (b 35), .ref (b 36), .ref (b 37), .int 0, .int 0, .ref (b 40), .ref (b 41), .ref (b 42), .ref (b 43), .ref (b 44), .int 0, .ref (b 46), .ref (b 47), .ref (b 48)])), (b 32, .inl (dA 1, 40, .inl (fun _ => 0))), (b 33, .inl (dA 0, 40, .inl (fun _ => 0))), (b 34, .inl (dA 0, 40, .inl (fun _ => 0))), (b 35, .inl (dA 0, 40, .inl (fun _ => 0))), (b 36, .inl (dA 0, 40, .inl (fun _ => 0))), (b 37, .inl (dA 0, 40, .inl (fun _ => 0)))]) [1, 2, 3, 4, 5, 6, 7] rfl
      have hDc := hD.sub (ws' := [(b 0, .inr (12, [.int 0, .int 0, .ref (b 2), .ref (b 3), .ref (b 4), .int 0, .int 0, .int 0, .int 0, .ref (b 9), .int 0, .ref (b 11), .ref (b 12), .ref (b 13), .ref (b 14), .ref (b 15), .ref (b 16), .ref (b 17), .ref (b 18), .int 0, .ref (b 20), .int 0, .int 0, .int 0, .ref (b 24), .ref (b 25), .ref (b 26), .int 0, .int 0, .ref (b 29), .ref (b 30), .int 0, .ref (b 32), .ref (b 33), .ref (b 34), .ref (b 35), .ref (b 36), .ref (b 37), .int 0, .int 0, .ref (b 40), .ref (b 41), .ref (b 42), .ref (b 43), .ref (b 44), .int 0, .ref (b 46), .ref (b 47), .ref (b 48)])), (b 32, .inl (dA 1, 40, .inl (fun _ => 0))), (b 33, .inl (dA 0, 40, .inl (fun _ => 0))), (b 34, .inl (dA 0, 40, .inl (fun _ => 0))), (b 35, .inl (dA 0, 40, .inl (fun _ => 0))), (b 36, .inl (dA 0, 40, .inl (fun _ => 0))), (b 37, .inl (dA 0, 40, .inl (fun _ => 0)))]) [1, 2, 3, 4, 5, 6, 7] (by decide) rfl
      have hFc := va_free (wc := [(b 0, .inr (12, [.int 0, .int 0, .ref (b 2), .ref (b 3), .ref (b 4), .int 0, .int 0, .int 0, .int 0, .ref (b 9), .int 0, .ref (b 11), .ref (b 12), .ref (b 13), .ref (b 14), .ref (b 15), .ref (b 16), .ref (b 17), .ref (b 18), .int 0, .ref (b 20), .int 0, .int 0, .int 0, .ref (b 24), .ref (b 25), .ref (b 26), .int 0, .int 0, .ref (b 29), .ref (b 30), .int 0, .ref (b 32), .ref (b 33), .ref (b 34), .ref (b 35), .ref (b 36), .ref (b 37), .int 0, .int 0, .ref (b 40), .ref (b 41), .ref (b 42), .ref (b 43), .ref (b 44), .int 0, .ref (b 46), .ref (b 47), .ref (b 48)])), (b 32, .inl (dA 1, 40, .inl (fun _ => 0))), (b 33, .inl (dA 0, 40, .inl (fun _ => 0))), (b 34, .inl (dA 0, 40, .inl (fun _ => 0))), (b 35, .inl (dA 0, 40, .inl (fun _ => 0))), (b 36, .inl (dA 0, 40, .inl (fun _ => 0))), (b 37, .inl (dA 0, 40, .inl (fun _ => 0)))]) hD hS hA [1, 2, 3, 4, 5, 6, 7] rfl
      refine va_calli (va_runV (As := [.int x3, .int x5, .int x7, .int x9, .int x11]) (rest := []) ⟨hx, hb, hml, hown, hts⟩ (c_M_ask l D dA E b x3 x5 x7 x9 x11 H.size ) (cwV 5 hts (ga_V q615 q616 q613 q278 q614) rfl rfl rfl (by decide +kernel) ⟨(Nat.le_of_ble_eq_true rfl), (Nat.le_of_ble_eq_true rfl)⟩) ⟨pb_blind, va_recv hK hPc (ci := 12) (q0 := 0) rfl rfl, pb_pre hK hPc hDc hZ hS hFc _⟩ rfl rfl hl.1 rfl (lv_room (Nat.le_of_ble_eq_true rfl)) dL_law_1212 ⟨(Nat.le_of_ble_eq_true rfl), (Nat.le_of_ble_eq_true rfl)⟩) hS (fun q _ h => hFc q h) hFc (fun r u t H1 locs ht hvm hw hB hz1 hk1 hS => ?_)
      refine W.widen (k := 67) (n := 11794) (Nat.le_of_ble_eq_true rfl) (Nat.le_of_ble_eq_true rfl) ?_
      obtain ⟨r46, rfl⟩ : ∃ z, z = r := ⟨_, rfl⟩
      obtain ⟨u47, rfl⟩ : ∃ z, z = u := ⟨_, rfl⟩
      have hw48 := hw
      clear hw
      obtain ⟨hP1, hD1⟩ := hB
      rw [ht] at hP1
      obtain ⟨hP, hD⟩ := va_join (wr := [(o, .inl (dA 3, 1, .inr (.inl u13)))]) (w1 := [(b 0, .inr (12, .int u47.1 :: u47.2))]) hP hD [1, 2, 3, 4, 5, 6, 7] [0] rfl rfl (by decide) (by decide) hk1 hFc hP1 hD1
      generalize H1 = H at hP hS ⊢
      have hP : va_P D vwCl [(o, .inl (dA 3, 1, .inr (.inl u13))), (b 0, .inr (12, .int u47.1 :: u47.2))] H := hP
      have hD : va_D A [(o, .inl (dA 3, 1, .inr (.inl u13))), (b 0, .inr (12, .int u47.1 :: u47.2))] := hD
      have hP := hP.sub (ws' := [(b 0, .inr (12, .int u47.1 :: u47.2)), (o, .inl (dA 3, 1, .inr (.inl u13)))]) [1, 0] rfl
      have hD := hD.sub (ws' := [(b 0, .inr (12, .int u47.1 :: u47.2)), (o, .inl (dA 3, 1, .inr (.inl u13)))]) [1, 0] (by decide) rfl
      have hm : u47.1 = 1 := by
        rcases hw48 with h9 | h9
        · exact absurd (hq.symm.trans h9.1) (by decide)
        · exact h9.2
      rw [hm] at hP hD
      have hP : va_P D vwCl [(b 0, .inr (12, .int 1 :: u47.2)), (o, .inl (dA 3, 1, .inr (.inl u13)))] H := hP
      have hD : va_D A [(b 0, .inr (12, .int 1 :: u47.2)), (o, .inl (dA 3, 1, .inr (.inl u13)))] := hD
      refine lv_istore (lv' := [(7, .int r46), (6, .int 1), (5, .int 0), (4, .ref od), (3, .ref o), (2, .ref (b 0)), (1, .ref (a 0)), (0, .ref bs)]) hx hb dL_law_1215 hl (by decide) rfl (fun ls hl => ?_)
      refine lv_aload_n hx hb dL_law_1217 rfl (lv_at hl 5 rfl) ?_
      have hPc := hP.sub (ws' := [(b 0, .inr (12, .int 1 :: u47.2))]) [0] rfl
      have hDc := hD.sub (ws' := [(b 0, .inr (12, .int 1 :: u47.2))]) [0] (by decide) rfl
      have hFc := va_free (wc := [(b 0, .inr (12, .int 1 :: u47.2))]) hD hS hA [0] rfl
      refine va_calli (va_runV (As := []) (rest := []) ⟨hx, hb, hml, hown, hts⟩ (c_M_thrown l D dA E (b 0) 1 u47.2 H.size ) (cwV 0 hts (ga_V q470 q471 q468 q278 q469) rfl rfl rfl (by decide +kernel) ⟨(Nat.le_of_ble_eq_true rfl), (Nat.le_of_ble_eq_true rfl)⟩) ⟨pb_blind, va_recv hK hPc (ci := 12) (q0 := 0) rfl rfl, pb_pre hK hPc hDc hZ hS hFc _⟩ rfl rfl hl.1 rfl (lv_room (Nat.le_of_ble_eq_true rfl)) dL_law_1218 ⟨(Nat.le_of_ble_eq_true rfl), (Nat.le_of_ble_eq_true rfl)⟩) hS (fun q _ h => hFc q h) hFc (fun r u t H1 locs ht hvm hw hB hz1 hk1 hS => ?_)
      refine W.widen (k := 67) (n := 11794) (Nat.le_of_ble_eq_true rfl) (Nat.le_of_ble_eq_true rfl) ?_
      obtain ⟨r49, rfl⟩ : ∃ z, z = r := ⟨_, rfl⟩
      obtain ⟨u50, rfl⟩ : ∃ z, z = u := ⟨_, rfl⟩
      have hw51 := hw
      clear hw
      obtain ⟨hP, hD⟩ := jn_drop (wr := [(o, .inl (dA 3, 1, .inr (.inl u13)))]) hP hD [0] [1] rfl rfl (by decide) (by decide) hk1 hFc
      generalize H1 = H at hP hS ⊢
      have hP : va_P D vwCl [(o, .inl (dA 3, 1, .inr (.inl u13)))] H := hP
      have hD : va_D A [(o, .inl (dA 3, 1, .inr (.inl u13)))] := hD
      obtain rfl : r49 = 1 := hw51
      refine lv_iload hx hb dL_law_1221 (lv_at hl 1 rfl) ?_
      refine lv_icmp_eq (tgt := 1228) hx hb dL_law_1223 (by decide) (fun _ => ?_) (fun c52 => absurd (by decide) c52)
      refine lv_iload hx hb dL_law_1228 (lv_at hl 1 rfl) ?_
      refine lv_if_ne (tgt := 1245) hx hb dL_law_1230 (by decide) (fun _ => ?_) (fun c53 => absurd c53 (by decide))
      refine lv_goto (tgt := 2346) hx hb dL_law_1245 (by decide) ?_
      exact law_tail l C0 rfl (by rw [hAe]; exact hS) (Nat.le_of_ble_eq_true rfl) (Nat.le_of_ble_eq_true rfl) ls (lv_sub hl [7, 2] rfl)
