/-! CONTRACTS, general -/
set_option maxHeartbeats 4000000 in
set_option maxRecDepth 100000 in
theorem q_nameParts1 (l : Launch) (D : va_G) (dA : Nat → ClassId) (E : Nat) (qo qa qb : Nat) (qk qd qw qn : Int32) (h r0 : Nat) (pp : Nat → Int32) (sz : Nat) (hqa : qa < 40) (hqb : qb < 40) (hoj : (okJ qk) = true) : Met l yX1_nameParts (wq (.code yX1_nameParts cX1_nameParts 3 none)) { frames := 2, cells := 0, slots := 0, locals := 40 } (va_Pc [.ref qo, .ref h, .int 1] (PcB D dA E [(qo, .inr (4, [.int qk, .int (nI qa), .int (nI qb), .int qd, .int qw, .int qn])), (h, .inr (5, [.ref r0])), (r0, .inl (dA 0, 40, .inl pp))] sz)) (va_Qv (fun (u : Nat → Int32) => True) (fun u t => va_P D vwCl [(qo, .inr (4, [.int qk, .int (nI qa), .int (nI qb), .int qd, .int qw, .int qn])), (h, .inr (5, [.ref r0])), (r0, .inl (dA 0, 40, .inl u))] t.heap ∧ va_D (va_A [(qo, .inr (4, [.int qk, .int (nI qa), .int (nI qb), .int qd, .int qw, .int qn])), (h, .inr (5, [.ref r0])), (r0, .inl (dA 0, 40, .inl pp))] sz) [(qo, .inr (4, [.int qk, .int (nI qa), .int (nI qb), .int qd, .int qw, .int qn])), (h, .inr (5, [.ref r0])), (r0, .inl (dA 0, 40, .inl u))]) (va_A [(qo, .inr (4, [.int qk, .int (nI qa), .int (nI qb), .int qd, .int qw, .int qn])), (h, .inr (5, [.ref r0])), (r0, .inl (dA 0, 40, .inl pp))] sz)) 0 0 (va_A [(qo, .inr (4, [.int qk, .int (nI qa), .int (nI qb), .int qd, .int qw, .int qn])), (h, .inr (5, [.ref r0])), (r0, .inl (dA 0, 40, .inl pp))] sz) := by
  refine mb_of (Qc := fun A => va_Qv (fun (u : Nat → Int32) => True) (fun u t => va_P D vwCl [(qo, .inr (4, [.int qk, .int (nI qa), .int (nI qb), .int qd, .int qw, .int qn])), (h, .inr (5, [.ref r0])), (r0, .inl (dA 0, 40, .inl u))] t.heap ∧ va_D A [(qo, .inr (4, [.int qk, .int (nI qa), .int (nI qb), .int qd, .int qw, .int qn])), (h, .inr (5, [.ref r0])), (r0, .inl (dA 0, 40, .inl u))]) A) RX1 rfl (by decide) (Nat.le_of_ble_eq_true rfl) ?_
  intro p e s m args below meth c hae hx hb hr hts hown hlocks hml hnm hP hK A hAe hD hZ hS hA ls hl
  replace hl : lv_has ls 3 [(0, .ref qo), (1, .ref h), (2, .int 1)] := hl
  refine lv_aload_n hx hb dX1_nameParts_0 rfl (lv_at hl 0 rfl) ?_
  replace hPc := hP.sub (ws' := [(qo, .inr (4, [.int qk, .int (nI qa), .int (nI qb), .int qd, .int qw, .int qn]))]) [0] rfl
  replace hDc := hD.sub (ws' := [(qo, .inr (4, [.int qk, .int (nI qa), .int (nI qb), .int qd, .int qw, .int qn]))]) [0] (by decide) rfl
  replace hFc := va_free (wc := [(qo, .inr (4, [.int qk, .int (nI qa), .int (nI qb), .int qd, .int qw, .int qn]))]) hD hS hA [0] rfl
  refine va_calli (va_runV (As := []) (rest := []) ⟨hx, hb, hml, hown, hts⟩ (q_isOfWords l D dA E qo qk (nI qa) (nI qb) qd qw qn s.heap.size ) (cwV 0 hts (ga_V q417 q418 q415 q414 q416) rfl rfl rfl (by decide +kernel) ⟨(Nat.le_of_ble_eq_true rfl), (Nat.le_of_ble_eq_true rfl)⟩) ⟨pb_blind, va_recv hK hPc (ci := 4) (q0 := 0) rfl rfl, pb_pre hK hPc hDc hZ hS hFc _⟩ rfl rfl hl.1 rfl (lv_room (Nat.le_of_ble_eq_true rfl)) dX1_nameParts_1 ⟨(Nat.le_of_ble_eq_true rfl), (Nat.le_of_ble_eq_true rfl)⟩) hS (fun q _ h => hFc q h) hFc (fun r u t H1 locs ht hvm hw hB hz1 hk1 hS => ?_)
  refine W.widen (k := 0) (n := 0) (Nat.le_of_ble_eq_true rfl) (Nat.le_of_ble_eq_true rfl) ?_
  obtain ⟨r1, rfl⟩ : ∃ z, z = r := ⟨_, rfl⟩
  obtain ⟨u2, rfl⟩ : ∃ z, z = u := ⟨_, rfl⟩
  have hw3 := hw
  clear hw
  obtain ⟨hP1, hD1⟩ := hB
  rw [ht] at hP1
  obtain ⟨hP, hD⟩ := va_join (wr := [(h, .inr (5, [.ref r0])), (r0, .inl (dA 0, 40, .inl pp))]) (w1 := [(qo, .inr (4, [.int qk, .int (nI qa), .int (nI qb), .int qd, .int qw, .int qn]))]) hP hD [0] [1, 2] rfl rfl (by decide) (by decide) hk1 hFc hP1 hD1
  generalize H1 = H at hP hS ⊢
  replace hP : va_P D vwCl [(h, .inr (5, [.ref r0])), (r0, .inl (dA 0, 40, .inl pp)), (qo, .inr (4, [.int qk, .int (nI qa), .int (nI qb), .int qd, .int qw, .int qn]))] H := hP
  replace hD : va_D A [(h, .inr (5, [.ref r0])), (r0, .inl (dA 0, 40, .inl pp)), (qo, .inr (4, [.int qk, .int (nI qa), .int (nI qb), .int qd, .int qw, .int qn]))] := hD
  obtain rfl : r1 = 0 := hw3.trans (by rw [hoj]; rfl)
  refine lv_if_eq (tgt := 8) hx hb dX1_nameParts_4 (by decide) (fun _ => ?_) (fun c4 => absurd (by decide) c4)
  refine lv_aload_n hx hb dX1_nameParts_8 rfl (lv_at hl 1 rfl) ?_
  refine lv_aload_n hx hb dX1_nameParts_9 rfl (lv_at hl 0 rfl) ?_
  refine va_get (D := D) (ci := 4) (v := .int (nI qa)) (C := RX1) (T := TX1) (N := 6) hx hb hts inAX1 hown hK hP 2 rfl rfl 1 (by decide) (hts _ q302) (fun _ h9 => h9) rfl dX1_nameParts_10 ?_
  refine lv_iconst (v := 1) hx hb dX1_nameParts_13 (by decide) ?_
  replace hPc := hP.sub (ws' := [(h, .inr (5, [.ref r0])), (r0, .inl (dA 0, 40, .inl pp))]) [0, 1] rfl
  replace hDc := hD.sub (ws' := [(h, .inr (5, [.ref r0])), (r0, .inl (dA 0, 40, .inl pp))]) [0, 1] (by decide) rfl
  replace hFc := va_free (wc := [(h, .inr (5, [.ref r0])), (r0, .inl (dA 0, 40, .inl pp))]) hD hS hA [0, 1] rfl
  refine va_callv (va_runV (As := [.int (nI qa), .int 1]) (rest := []) ⟨hx, hb, hml, hown, hts⟩ (t_putN l D dA E h r0 40 pp qa 1 H.size  (by omega) (by decide)) (cwV 2 hts (ga_V q419 q210 q207 q204 q208) rfl rfl rfl (by decide +kernel) ⟨(Nat.le_of_ble_eq_true rfl), (Nat.le_of_ble_eq_true rfl)⟩) ⟨pb_blind, va_recv hK hPc (ci := 5) (q0 := 0) rfl rfl, pb_pre hK hPc hDc hZ hS hFc _⟩ rfl rfl hl.1 rfl (lv_room (Nat.le_of_ble_eq_true rfl)) dX1_nameParts_14 ⟨(Nat.le_of_ble_eq_true rfl), (Nat.le_of_ble_eq_true rfl)⟩) hS (fun q _ h => hFc q h) hFc (fun u t H1 locs ht hvm hw hB hz1 hk1 hS => ?_)
  refine W.widen (k := 0) (n := 0) (Nat.le_of_ble_eq_true rfl) (Nat.le_of_ble_eq_true rfl) ?_
  obtain ⟨u5, rfl⟩ : ∃ z, z = u := ⟨_, rfl⟩
  have hw6 := hw
  clear hw
  obtain ⟨hP1, hD1⟩ := hB
  rw [ht] at hP1
  obtain ⟨hP, hD⟩ := va_join (wr := [(qo, .inr (4, [.int qk, .int (nI qa), .int (nI qb), .int qd, .int qw, .int qn]))]) (w1 := [(h, .inr (5, [.ref r0])), (r0, .inl (dA 0, 40, .inl (upd pp qa 1)))]) hP hD [0, 1] [2] rfl rfl (by decide) (by decide) hk1 hFc hP1 hD1
  generalize H1 = H at hP hS ⊢
  replace hP : va_P D vwCl [(qo, .inr (4, [.int qk, .int (nI qa), .int (nI qb), .int qd, .int qw, .int qn])), (h, .inr (5, [.ref r0])), (r0, .inl (dA 0, 40, .inl (upd pp qa 1)))] H := hP
  replace hD : va_D A [(qo, .inr (4, [.int qk, .int (nI qa), .int (nI qb), .int qd, .int qw, .int qn])), (h, .inr (5, [.ref r0])), (r0, .inl (dA 0, 40, .inl (upd pp qa 1)))] := hD
  refine lv_aload_n hx hb dX1_nameParts_17 rfl (lv_at hl 0 rfl) ?_
  refine va_get (D := D) (ci := 4) (v := .int qk) (C := RX1) (T := TX1) (N := 6) hx hb hts inAX1 hown hK hP 0 rfl rfl 0 (by decide) (hts _ q301) (fun _ h9 => h9) rfl dX1_nameParts_18 ?_
  refine lv_bipush (v := 120) hx hb dX1_nameParts_21 (by decide) ?_
  refine lv_icmp_ne (tgt := 30) hx hb dX1_nameParts_23 (by decide) (fun c7 => ?_) (fun c7 => ?_)
  · refine lv_aload_n hx hb dX1_nameParts_30 rfl (lv_at hl 1 rfl) ?_
    refine lv_aload_n hx hb dX1_nameParts_31 rfl (lv_at hl 0 rfl) ?_
    refine va_get (D := D) (ci := 4) (v := .int (nI qb)) (C := RX1) (T := TX1) (N := 6) hx hb hts inAX1 hown hK hP 0 rfl rfl 2 (by decide) (hts _ q303) (fun _ h9 => h9) rfl dX1_nameParts_32 ?_
    refine lv_iconst (v := 1) hx hb dX1_nameParts_35 (by decide) ?_
    replace hPc := hP.sub (ws' := [(h, .inr (5, [.ref r0])), (r0, .inl (dA 0, 40, .inl (upd pp qa 1)))]) [1, 2] rfl
    replace hDc := hD.sub (ws' := [(h, .inr (5, [.ref r0])), (r0, .inl (dA 0, 40, .inl (upd pp qa 1)))]) [1, 2] (by decide) rfl
    replace hFc := va_free (wc := [(h, .inr (5, [.ref r0])), (r0, .inl (dA 0, 40, .inl (upd pp qa 1)))]) hD hS hA [1, 2] rfl
    refine va_callv (va_runV (As := [.int (nI qb), .int 1]) (rest := []) ⟨hx, hb, hml, hown, hts⟩ (t_putN l D dA E h r0 40 (upd pp qa 1) qb 1 H.size  (by omega) (by decide)) (cwV 2 hts (ga_V q419 q210 q207 q204 q208) rfl rfl rfl (by decide +kernel) ⟨(Nat.le_of_ble_eq_true rfl), (Nat.le_of_ble_eq_true rfl)⟩) ⟨pb_blind, va_recv hK hPc (ci := 5) (q0 := 0) rfl rfl, pb_pre hK hPc hDc hZ hS hFc _⟩ rfl rfl hl.1 rfl (lv_room (Nat.le_of_ble_eq_true rfl)) dX1_nameParts_36 ⟨(Nat.le_of_ble_eq_true rfl), (Nat.le_of_ble_eq_true rfl)⟩) hS (fun q _ h => hFc q h) hFc (fun u t H1 locs ht hvm hw hB hz1 hk1 hS => ?_)
    refine W.widen (k := 0) (n := 0) (Nat.le_of_ble_eq_true rfl) (Nat.le_of_ble_eq_true rfl) ?_
    obtain ⟨u8, rfl⟩ : ∃ z, z = u := ⟨_, rfl⟩
    have hw9 := hw
    clear hw
    obtain ⟨hP1, hD1⟩ := hB
    rw [ht] at hP1
    obtain ⟨hP, hD⟩ := va_join (wr := [(qo, .inr (4, [.int qk, .int (nI qa), .int (nI qb), .int qd, .int qw, .int qn]))]) (w1 := [(h, .inr (5, [.ref r0])), (r0, .inl (dA 0, 40, .inl (upd (upd pp qa 1) qb 1)))]) hP hD [1, 2] [0] rfl rfl (by decide) (by decide) hk1 hFc hP1 hD1
    generalize H1 = H at hP hS ⊢
    replace hP : va_P D vwCl [(qo, .inr (4, [.int qk, .int (nI qa), .int (nI qb), .int qd, .int qw, .int qn])), (h, .inr (5, [.ref r0])), (r0, .inl (dA 0, 40, .inl (upd (upd pp qa 1) qb 1)))] H := hP
    replace hD : va_D A [(qo, .inr (4, [.int qk, .int (nI qa), .int (nI qb), .int qd, .int qw, .int qn])), (h, .inr (5, [.ref r0])), (r0, .inl (dA 0, 40, .inl (upd (upd pp qa 1) qb 1)))] := hD
    refine W.widen (k := 0) (n := 0) (Nat.le_of_ble_eq_true rfl) (Nat.le_of_ble_eq_true rfl) ?_
    have hP9 := hP.sub (ws' := [(qo, .inr (4, [.int qk, .int (nI qa), .int (nI qb), .int qd, .int qw, .int qn])), (h, .inr (5, [.ref r0])), (r0, .inl (dA 0, 40, .inl (upd (upd pp qa 1) qb 1)))]) [0, 1, 2] rfl
    have hD9 := hD.sub (ws' := [(qo, .inr (4, [.int qk, .int (nI qa), .int (nI qb), .int qd, .int qw, .int qn])), (h, .inr (5, [.ref r0])), (r0, .inl (dA 0, 40, .inl (upd (upd pp qa 1) qb 1)))]) [0, 1, 2] (by decide) rfl
    exact W.vret hx hb hr (fun t ht hW => ⟨⟨upd (upd pp qa 1) qb 1, rfl, trivial, ⟨by rw [ht]; exact hP9, hD9⟩⟩, hS.F ht⟩) hS.2.2 dX1_nameParts_39
  · refine lv_iload_n hx hb dX1_nameParts_26 rfl (lv_at hl 2 rfl) ?_
    refine lv_if_ne (tgt := 39) hx hb dX1_nameParts_27 (by decide) (fun _ => ?_) (fun c10 => absurd c10 (by decide))
    refine W.widen (k := 0) (n := 0) (Nat.le_of_ble_eq_true rfl) (Nat.le_of_ble_eq_true rfl) ?_
    have hP9 := hP.sub (ws' := [(qo, .inr (4, [.int qk, .int (nI qa), .int (nI qb), .int qd, .int qw, .int qn])), (h, .inr (5, [.ref r0])), (r0, .inl (dA 0, 40, .inl (upd pp qa 1)))]) [0, 1, 2] rfl
    have hD9 := hD.sub (ws' := [(qo, .inr (4, [.int qk, .int (nI qa), .int (nI qb), .int qd, .int qw, .int qn])), (h, .inr (5, [.ref r0])), (r0, .inl (dA 0, 40, .inl (upd pp qa 1)))]) [0, 1, 2] (by decide) rfl
    exact W.vret hx hb hr (fun t ht hW => ⟨⟨upd pp qa 1, rfl, trivial, ⟨by rw [ht]; exact hP9, hD9⟩⟩, hS.F ht⟩) hS.2.2 dX1_nameParts_39

set_option maxHeartbeats 4000000 in
set_option maxRecDepth 100000 in
theorem q_namePartsW (l : Launch) (D : va_G) (dA : Nat → ClassId) (E : Nat) (qo : Nat) (qk qa qb qd qw qn : Int32) (h r0 : Nat) (pp : Nat → Int32) (fm : Int32) (sz : Nat)  (hoj : (okJ qk) = false) : Met l yX1_nameParts (wq (.code yX1_nameParts cX1_nameParts 3 none)) { frames := 2, cells := 0, slots := 0, locals := 40 } (va_Pc [.ref qo, .ref h, .int fm] (PcB D dA E [(qo, .inr (4, [.int qk, .int qa, .int qb, .int qd, .int qw, .int qn])), (h, .inr (5, [.ref r0])), (r0, .inl (dA 0, 40, .inl pp))] sz)) (va_Qv (fun (u : Unit) => True) (fun u t => va_P D vwCl [(qo, .inr (4, [.int qk, .int qa, .int qb, .int qd, .int qw, .int qn])), (h, .inr (5, [.ref r0])), (r0, .inl (dA 0, 40, .inl pp))] t.heap ∧ va_D (va_A [(qo, .inr (4, [.int qk, .int qa, .int qb, .int qd, .int qw, .int qn])), (h, .inr (5, [.ref r0])), (r0, .inl (dA 0, 40, .inl pp))] sz) [(qo, .inr (4, [.int qk, .int qa, .int qb, .int qd, .int qw, .int qn])), (h, .inr (5, [.ref r0])), (r0, .inl (dA 0, 40, .inl pp))]) (va_A [(qo, .inr (4, [.int qk, .int qa, .int qb, .int qd, .int qw, .int qn])), (h, .inr (5, [.ref r0])), (r0, .inl (dA 0, 40, .inl pp))] sz)) 0 0 (va_A [(qo, .inr (4, [.int qk, .int qa, .int qb, .int qd, .int qw, .int qn])), (h, .inr (5, [.ref r0])), (r0, .inl (dA 0, 40, .inl pp))] sz) := by
  refine mb_of (Qc := fun A => va_Qv (fun (u : Unit) => True) (fun u t => va_P D vwCl [(qo, .inr (4, [.int qk, .int qa, .int qb, .int qd, .int qw, .int qn])), (h, .inr (5, [.ref r0])), (r0, .inl (dA 0, 40, .inl pp))] t.heap ∧ va_D A [(qo, .inr (4, [.int qk, .int qa, .int qb, .int qd, .int qw, .int qn])), (h, .inr (5, [.ref r0])), (r0, .inl (dA 0, 40, .inl pp))]) A) RX1 rfl (by decide) (Nat.le_of_ble_eq_true rfl) ?_
  intro p e s m args below meth c hae hx hb hr hts hown hlocks hml hnm hP hK A hAe hD hZ hS hA ls hl
  replace hl : lv_has ls 3 [(0, .ref qo), (1, .ref h), (2, .int fm)] := hl
  refine lv_aload_n hx hb dX1_nameParts_0 rfl (lv_at hl 0 rfl) ?_
  replace hPc := hP.sub (ws' := [(qo, .inr (4, [.int qk, .int qa, .int qb, .int qd, .int qw, .int qn]))]) [0] rfl
  replace hDc := hD.sub (ws' := [(qo, .inr (4, [.int qk, .int qa, .int qb, .int qd, .int qw, .int qn]))]) [0] (by decide) rfl
  replace hFc := va_free (wc := [(qo, .inr (4, [.int qk, .int qa, .int qb, .int qd, .int qw, .int qn]))]) hD hS hA [0] rfl
  refine va_calli (va_runV (As := []) (rest := []) ⟨hx, hb, hml, hown, hts⟩ (q_isOfWords l D dA E qo qk qa qb qd qw qn s.heap.size ) (cwV 0 hts (ga_V q417 q418 q415 q414 q416) rfl rfl rfl (by decide +kernel) ⟨(Nat.le_of_ble_eq_true rfl), (Nat.le_of_ble_eq_true rfl)⟩) ⟨pb_blind, va_recv hK hPc (ci := 4) (q0 := 0) rfl rfl, pb_pre hK hPc hDc hZ hS hFc _⟩ rfl rfl hl.1 rfl (lv_room (Nat.le_of_ble_eq_true rfl)) dX1_nameParts_1 ⟨(Nat.le_of_ble_eq_true rfl), (Nat.le_of_ble_eq_true rfl)⟩) hS (fun q _ h => hFc q h) hFc (fun r u t H1 locs ht hvm hw hB hz1 hk1 hS => ?_)
  refine W.widen (k := 0) (n := 0) (Nat.le_of_ble_eq_true rfl) (Nat.le_of_ble_eq_true rfl) ?_
  obtain ⟨r1, rfl⟩ : ∃ z, z = r := ⟨_, rfl⟩
  obtain ⟨u2, rfl⟩ : ∃ z, z = u := ⟨_, rfl⟩
  have hw3 := hw
  clear hw
  obtain ⟨hP1, hD1⟩ := hB
  rw [ht] at hP1
  obtain ⟨hP, hD⟩ := va_join (wr := [(h, .inr (5, [.ref r0])), (r0, .inl (dA 0, 40, .inl pp))]) (w1 := [(qo, .inr (4, [.int qk, .int qa, .int qb, .int qd, .int qw, .int qn]))]) hP hD [0] [1, 2] rfl rfl (by decide) (by decide) hk1 hFc hP1 hD1
  generalize H1 = H at hP hS ⊢
  replace hP : va_P D vwCl [(h, .inr (5, [.ref r0])), (r0, .inl (dA 0, 40, .inl pp)), (qo, .inr (4, [.int qk, .int qa, .int qb, .int qd, .int qw, .int qn]))] H := hP
  replace hD : va_D A [(h, .inr (5, [.ref r0])), (r0, .inl (dA 0, 40, .inl pp)), (qo, .inr (4, [.int qk, .int qa, .int qb, .int qd, .int qw, .int qn]))] := hD
  obtain rfl : r1 = 1 := hw3.trans (by rw [hoj]; rfl)
  refine lv_if_eq (tgt := 8) hx hb dX1_nameParts_4 (by decide) (fun c4 => absurd c4 (by decide)) (fun _ => ?_)
  refine W.widen (k := 0) (n := 0) (Nat.le_of_ble_eq_true rfl) (Nat.le_of_ble_eq_true rfl) ?_
  have hP9 := hP.sub (ws' := [(qo, .inr (4, [.int qk, .int qa, .int qb, .int qd, .int qw, .int qn])), (h, .inr (5, [.ref r0])), (r0, .inl (dA 0, 40, .inl pp))]) [2, 0, 1] rfl
  have hD9 := hD.sub (ws' := [(qo, .inr (4, [.int qk, .int qa, .int qb, .int qd, .int qw, .int qn])), (h, .inr (5, [.ref r0])), (r0, .inl (dA 0, 40, .inl pp))]) [2, 0, 1] (by decide) rfl
  exact W.vret hx hb hr (fun t ht hW => ⟨⟨(), rfl, trivial, ⟨by rw [ht]; exact hP9, hD9⟩⟩, hS.F ht⟩) hS.2.2 dX1_nameParts_7
