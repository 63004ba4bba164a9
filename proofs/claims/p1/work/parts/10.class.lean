/-! CONTRACTS, p1 -/
theorem q0 : (.fieldLink RJx4a65c 48 "java/util/ArrayList" "size" "I" : Cond) ∈ WA := WA_of (tb_1 53 rfl) rfl
theorem q1 : (.fieldLink RJx4a65c 9 "java/util/ArrayList" "elementData" "[Ljava/lang/Object;" : Cond) ∈ WA := WA_of (tb_1 52 rfl) rfl
theorem q2 : (.fieldLink RJx4a65c 39 "java/util/ArrayList" "DEFAULTCAPACITY_EMPTY_ELEMENTDATA" "[Ljava/lang/Object;" : Cond) ∈ WA := WA_of (tb_1 50 rfl) rfl
theorem q3 : (.methodLink RJx4a65c 79 Lib.Math.max.name : Cond) ∈ WA := WA_of (tb_2 169 rfl) rfl
theorem q4 : (.static Lib.Math.max.name : Cond) ∈ WA := WA_of (tb_2 127 rfl) rfl
theorem q5 : (.initialized RJ9 : Cond) ∈ WA := WA_of (tb_1 16 rfl) rfl
theorem q6 : (.code Lib.Math.max.name Lib.Math.max.code 2 (some .int) : Cond) ∈ WA := WA_of (tb_2 128 rfl) rfl
theorem q7 : (.classLink RJx4a65c 7 "java/lang/Object" : Cond) ∈ WA := WA_of (tb_2 170 rfl) rfl
theorem q8 : (.selects RJx4a65c yJx4a65c_grow_92f84 yJx4a65c_grow_92f84 : Cond) ∈ WA := WA_of (sb_1 3 rfl) rfl
theorem q9 : (.code yJx4a65c_grow_92f84 cJx4a65c_grow_92f84 4 (some (.array (.object "java/lang/Object"))) : Cond) ∈ WA := WA_of (tb_2 122 rfl) rfl
theorem q10 : (.methodLink RJx4a65c 69 yJx4a65c_grow_92f84 : Cond) ∈ WA := WA_of (tb_2 119 rfl) rfl
theorem q11 : (.instanceMethod yJx4a65c_grow_92f84 : Cond) ∈ WA := WA_of (tb_2 121 rfl) rfl
theorem q12 : (.initialized RJx4a65c : Cond) ∈ WA := WA_of (tb_1 4 rfl) rfl
theorem q13 : (.selects RJx4a65c yJx4a65c_grow_d5877 yJx4a65c_grow_d5877 : Cond) ∈ WA := WA_of (sb_1 2 rfl) rfl
theorem q14 : (.code yJx4a65c_grow_d5877 cJx4a65c_grow_d5877 1 (some (.array (.object "java/lang/Object"))) : Cond) ∈ WA := WA_of (tb_2 118 rfl) rfl
theorem q15 : (.methodLink RJx4a65c 129 yJx4a65c_grow_d5877 : Cond) ∈ WA := WA_of (tb_2 115 rfl) rfl
theorem q16 : (.instanceMethod yJx4a65c_grow_d5877 : Cond) ∈ WA := WA_of (tb_2 117 rfl) rfl
theorem q17 : (.fieldLink RJx4a65c 63 "java/util/ArrayList" "modCount" "I" : Cond) ∈ WA := WA_of (tb_1 55 rfl) rfl
theorem q18 : (.sameField "java/util/ArrayList" "java/util/AbstractList" "modCount" "I" : Cond) ∈ WA := WA_of (tb_1 56 rfl) rfl
theorem q19 : (.selects RJx4a65c yJx4a65c_add_72be8 yJx4a65c_add_72be8 : Cond) ∈ WA := WA_of (sb_1 1 rfl) rfl
theorem q20 : (.code yJx4a65c_add_72be8 cJx4a65c_add_72be8 4 none : Cond) ∈ WA := WA_of (tb_2 114 rfl) rfl
theorem q21 : (.methodLink RJx4a65c 131 yJx4a65c_add_72be8 : Cond) ∈ WA := WA_of (tb_2 111 rfl) rfl
theorem q22 : (.instanceMethod yJx4a65c_add_72be8 : Cond) ∈ WA := WA_of (tb_2 113 rfl) rfl
set_option maxHeartbeats 4000000 in
set_option maxRecDepth 100000 in
theorem c_size (l : Launch) (D : va_G) (dA : Nat → ClassId) (E : Nat) (h : Nat) (md : Int32) (ar : Value) (n : Int32) (sz : Nat)  : Met l yJx4a65c_size_8abf5 (wq (.code yJx4a65c_size_8abf5 cJx4a65c_size_8abf5 1 (some .int))) { frames := 0, cells := 0, slots := 0, locals := 0 } (va_Pc [.ref h] (PcB D dA E [(h, .inr (2, [.int md, ar, .int n]))] sz)) (va_Qi (fun (r : Int32) (u : Unit) => r = n) (fun u t => va_P D vwCl [(h, .inr (2, [.int md, ar, .int n]))] t.heap ∧ va_D (va_A [(h, .inr (2, [.int md, ar, .int n]))] sz) [(h, .inr (2, [.int md, ar, .int n]))]) (va_A [(h, .inr (2, [.int md, ar, .int n]))] sz)) 0 0 (va_A [(h, .inr (2, [.int md, ar, .int n]))] sz) := by
  refine mb_of (Qc := fun A => va_Qi (fun (r : Int32) (u : Unit) => r = n) (fun u t => va_P D vwCl [(h, .inr (2, [.int md, ar, .int n]))] t.heap ∧ va_D A [(h, .inr (2, [.int md, ar, .int n]))]) A) RJx4a65c rfl (by decide) (Nat.le_of_ble_eq_true rfl) ?_
  intro p e s m args below meth c hae hx hb hr hts hown hlocks hml hnm hP hK A hAe hD hZ hS hA ls hl
  have hl : lv_has ls 1 [(0, .ref h)] := hl
  refine lv_aload_n hx hb dJx4a65c_size_8abf5_0 rfl (lv_at hl 0 rfl) ?_
  refine va_get (D := D) (ci := 2) (v := .int n) (C := RJx4a65c) (T := TJx4a65c) (N := 3) hx hb hts inAJx4a65c hown hK hP 0 rfl rfl 2 (by decide) (hts _ q0) (fun _ h9 => h9) rfl dJx4a65c_size_8abf5_1 ?_
  refine W.widen (k := 0) (n := 0) (Nat.le_of_ble_eq_true rfl) (Nat.le_of_ble_eq_true rfl) ?_
  have hP9 := hP.sub (ws' := [(h, .inr (2, [.int md, ar, .int n]))]) [0] rfl
  have hD9 := hD.sub (ws' := [(h, .inr (2, [.int md, ar, .int n]))]) [0] (by decide) rfl
  exact W.iret (v := n) hx hb hr (fun t ht hW => ⟨⟨n, (), rfl, rfl, ⟨by rw [ht]; exact hP9, hD9⟩⟩, hS.F ht⟩) hS.2.2 dJx4a65c_size_8abf5_4

set_option maxHeartbeats 4000000 in
set_option maxRecDepth 100000 in
theorem c_grow1 (l : Launch) (D : va_G) (dA : Nat → ClassId) (E : Nat) (h : Nat) (md : Int32) (sz : Nat)  : Met l yJx4a65c_grow_92f84 (wq (.code yJx4a65c_grow_92f84 cJx4a65c_grow_92f84 4 (some (.array (.object "java/lang/Object"))))) { frames := 1, cells := 1, slots := 10, locals := 14 } (va_Pc [.ref h, .int 1] (PcB D dA E [(h, .inr (2, [.int md, .ref E, .int 0]))] sz)) (va_Qr (fun (u : Unit) => True) (fun u ra t => va_P D vwCl [(h, .inr (2, [.int md, .ref ra, .int 0])), (ra, .inl (dA 5, 10, .inr (.inr (.inr (.inr (fun _ => none))))))] t.heap ∧ va_D (va_A [(h, .inr (2, [.int md, .ref E, .int 0]))] sz) [(h, .inr (2, [.int md, .ref ra, .int 0])), (ra, .inl (dA 5, 10, .inr (.inr (.inr (.inr (fun _ => none))))))]) (va_A [(h, .inr (2, [.int md, .ref E, .int 0]))] sz)) 1 10 (va_A [(h, .inr (2, [.int md, .ref E, .int 0]))] sz) := by
  refine mb_of (Qc := fun A => va_Qr (fun (u : Unit) => True) (fun u ra t => va_P D vwCl [(h, .inr (2, [.int md, .ref ra, .int 0])), (ra, .inl (dA 5, 10, .inr (.inr (.inr (.inr (fun _ => none))))))] t.heap ∧ va_D A [(h, .inr (2, [.int md, .ref ra, .int 0])), (ra, .inl (dA 5, 10, .inr (.inr (.inr (.inr (fun _ => none))))))]) A) RJx4a65c rfl (by decide) (Nat.le_of_ble_eq_true rfl) ?_
  intro p e s m args below meth c hae hx hb hr hts hown hlocks hml hnm hP hK A hAe hD hZ hS hA ls hl
  have hl : lv_has ls 4 [(0, .ref h), (1, .int 1)] := hl
  refine lv_aload_n hx hb dJx4a65c_grow_92f84_0 rfl (lv_at hl 0 rfl) ?_
  refine va_get (D := D) (ci := 2) (v := .ref E) (C := RJx4a65c) (T := TJx4a65c) (N := 3) hx hb hts inAJx4a65c hown hK hP 0 rfl rfl 1 (by decide) (hts _ q1) (fun _ h9 => h9) rfl dJx4a65c_grow_92f84_1 ?_
  refine va_tlen hx hb hZ.2.2.2.2 hS (v := 0) rfl dJx4a65c_grow_92f84_4 ?_
  refine lv_istore_n (lv' := [(2, .int 0), (0, .ref h), (1, .int 1)]) hx hb dJx4a65c_grow_92f84_5 rfl hl (by decide) rfl (fun ls hl => ?_)
  refine lv_iload_n hx hb dJx4a65c_grow_92f84_6 rfl (lv_at hl 0 rfl) ?_
  refine lv_if_gt (tgt := 20) hx hb dJx4a65c_grow_92f84_7 (by decide) (fun c1 => absurd c1 (by decide)) (fun _ => ?_)
  refine lv_aload_n hx hb dJx4a65c_grow_92f84_10 rfl (lv_at hl 1 rfl) ?_
  refine va_get (D := D) (ci := 2) (v := .ref E) (C := RJx4a65c) (T := TJx4a65c) (N := 3) hx hb hts inAJx4a65c hown hK hP 0 rfl rfl 1 (by decide) (hts _ q1) (fun _ h9 => h9) rfl dJx4a65c_grow_92f84_11 ?_
  refine va_gets hx hb hZ.2.2.2.1 hS hown (hts _ q2) (fun _ h9 => h9) dJx4a65c_grow_92f84_14 ?_
  refine lv_acmp_eq (rx := some E) (ry := some E) (tgt := 45) hx hb dJx4a65c_grow_92f84_17 (by decide) (fun _ => ?_) (fun h9 => absurd rfl h9)
  refine lv_aload_n hx hb dJx4a65c_grow_92f84_45 rfl (lv_at hl 1 rfl) ?_
  refine lv_bipush (v := 10) hx hb dJx4a65c_grow_92f84_46 (by decide) ?_
  refine lv_iload_n hx hb dJx4a65c_grow_92f84_48 rfl (lv_at hl 2 rfl) ?_
  refine va_mmax hx hb (hml.trans hl.1.symm) hown (hts _ q3) (hts _ q4) (hts _ q5) (hts _ q6) (Nat.le_of_ble_eq_true rfl) (Nat.le_of_ble_eq_true rfl) (Nat.le_of_ble_eq_true rfl) (Nat.le_of_ble_eq_true rfl) dJx4a65c_grow_92f84_49 ?_
  refine lv_topi (fun x2 ex2 => ?_)
  replace ex2 : x2 = 10 := ex2.trans (by decide)
  subst ex2
  refine va_newq (N' := 10) hx hb hown (hts _ q7) hZ.1.2.2.2.2.2.1 hK hP hD hS hA (by decide) (by decide) (by decide) (Nat.le_of_ble_eq_true rfl) (Nat.le_of_ble_eq_true rfl) dJx4a65c_grow_92f84_52 (fun q3 cAq3 H hKn hP hD hS => ?_)
  obtain rfl : cAq3 = dA 5 := ty_eq 5 hKn rfl
  have hP : va_P D vwCl [(h, .inr (2, [.int md, .ref E, .int 0])), (q3, .inl (dA 5, 10, .inr (.inr (.inr (.inr (fun _ => none))))))] H := hP
  have hD : va_D A [(h, .inr (2, [.int md, .ref E, .int 0])), (q3, .inl (dA 5, 10, .inr (.inr (.inr (.inr (fun _ => none))))))] := hD
  refine W.widen (k := 1) (n := 10) (Nat.le_of_ble_eq_true rfl) (Nat.le_of_ble_eq_true rfl) ?_
  refine lv_dup_x1 hx hb dJx4a65c_grow_92f84_55 rfl rfl ?_
  refine va_put (D := D) (ci := 2) (v := .ref q3) (ty := .array (.object "java/lang/Object")) (C := RJx4a65c) (T := TJx4a65c) (N := 3) hx hb hts inAJx4a65c tyJx4a65c tyJx4a65c_ok nmJx4a65c hown hK hP hD hS 0 rfl rfl 1 (by decide) (hts _ q1) (fun _ h9 => h9) rfl (tyJx4a65c_ok 1 (by decide)) rfl rfl (Nat.le_of_ble_eq_true rfl) dJx4a65c_grow_92f84_56 (fun H locs hP hD hS => ?_)
  have hP : va_P D vwCl [(h, .inr (2, [.int md, .ref q3, .int 0])), (q3, .inl (dA 5, 10, .inr (.inr (.inr (.inr (fun _ => none))))))] H := hP
  have hD : va_D A [(h, .inr (2, [.int md, .ref q3, .int 0])), (q3, .inl (dA 5, 10, .inr (.inr (.inr (.inr (fun _ => none))))))] := hD
  refine W.widen (k := 1) (n := 10) (Nat.le_of_ble_eq_true rfl) (Nat.le_of_ble_eq_true rfl) ?_
  have hP9 := hP.sub (ws' := [(h, .inr (2, [.int md, .ref q3, .int 0])), (q3, .inl (dA 5, 10, .inr (.inr (.inr (.inr (fun _ => none))))))]) [0, 1] rfl
  have hD9 := hD.sub (ws' := [(h, .inr (2, [.int md, .ref q3, .int 0])), (q3, .inl (dA 5, 10, .inr (.inr (.inr (.inr (fun _ => none))))))]) [0, 1] (by decide) rfl
  exact W.aret (v := .ref q3) hx hb hr (Or.inr ⟨_, rfl⟩) (Or.inr ⟨_, rfl⟩) (fun t ht hW => ⟨⟨(), q3, rfl, trivial, ⟨by rw [ht]; exact hP9, hD9⟩⟩, hS.F ht⟩) hS.2.2 dJx4a65c_grow_92f84_59

set_option maxHeartbeats 4000000 in
set_option maxRecDepth 100000 in
theorem c_grow0 (l : Launch) (D : va_G) (dA : Nat → ClassId) (E : Nat) (h : Nat) (md : Int32) (sz : Nat)  : Met l yJx4a65c_grow_d5877 (wq (.code yJx4a65c_grow_d5877 cJx4a65c_grow_d5877 1 (some (.array (.object "java/lang/Object"))))) { frames := 2, cells := 1, slots := 10, locals := 37 } (va_Pc [.ref h] (PcB D dA E [(h, .inr (2, [.int md, .ref E, .int 0]))] sz)) (va_Qr (fun (u : Unit) => True) (fun u ra t => va_P D vwCl [(h, .inr (2, [.int md, .ref ra, .int 0])), (ra, .inl (dA 5, 10, .inr (.inr (.inr (.inr (fun _ => none))))))] t.heap ∧ va_D (va_A [(h, .inr (2, [.int md, .ref E, .int 0]))] sz) [(h, .inr (2, [.int md, .ref ra, .int 0])), (ra, .inl (dA 5, 10, .inr (.inr (.inr (.inr (fun _ => none))))))]) (va_A [(h, .inr (2, [.int md, .ref E, .int 0]))] sz)) 1 10 (va_A [(h, .inr (2, [.int md, .ref E, .int 0]))] sz) := by
  refine mb_of (Qc := fun A => va_Qr (fun (u : Unit) => True) (fun u ra t => va_P D vwCl [(h, .inr (2, [.int md, .ref ra, .int 0])), (ra, .inl (dA 5, 10, .inr (.inr (.inr (.inr (fun _ => none))))))] t.heap ∧ va_D A [(h, .inr (2, [.int md, .ref ra, .int 0])), (ra, .inl (dA 5, 10, .inr (.inr (.inr (.inr (fun _ => none))))))]) A) RJx4a65c rfl (by decide) (Nat.le_of_ble_eq_true rfl) ?_
  intro p e s m args below meth c hae hx hb hr hts hown hlocks hml hnm hP hK A hAe hD hZ hS hA ls hl
  have hl : lv_has ls 1 [(0, .ref h)] := hl
  refine lv_aload_n hx hb dJx4a65c_grow_d5877_0 rfl (lv_at hl 0 rfl) ?_
  refine lv_aload_n hx hb dJx4a65c_grow_d5877_1 rfl (lv_at hl 0 rfl) ?_
  refine va_get (D := D) (ci := 2) (v := .int 0) (C := RJx4a65c) (T := TJx4a65c) (N := 3) hx hb hts inAJx4a65c hown hK hP 0 rfl rfl 2 (by decide) (hts _ q0) (fun _ h9 => h9) rfl dJx4a65c_grow_d5877_2 ?_
  refine lv_iconst (v := 1) hx hb dJx4a65c_grow_d5877_5 (by decide) ?_
  refine lv_iadd hx hb dJx4a65c_grow_d5877_6 ?_
  refine lv_topi (fun x1 ex1 => ?_)
  replace ex1 : x1 = 1 := ex1.trans (by decide)
  subst ex1
  have hPc := hP.sub (ws' := [(h, .inr (2, [.int md, .ref E, .int 0]))]) [0] rfl
  have hDc := hD.sub (ws' := [(h, .inr (2, [.int md, .ref E, .int 0]))]) [0] (by decide) rfl
  have hFc := va_free (wc := [(h, .inr (2, [.int md, .ref E, .int 0]))]) hD hS hA [0] rfl
  refine va_callr (va_runV (As := [.int 1]) (rest := []) ⟨hx, hb, hml, hown, hts⟩ (c_grow1 l D dA E h md s.heap.size ) (cwV 1 hts (ga_V q10 q11 q8 q12 q9) rfl rfl rfl (by decide +kernel) ⟨(Nat.le_of_ble_eq_true rfl), (Nat.le_of_ble_eq_true rfl)⟩) ⟨pb_blind, va_recv hK hPc (ci := 2) (q0 := 0) rfl rfl, pb_pre hK hPc hDc hZ hS hFc _⟩ rfl rfl hl.1 rfl (lv_room (Nat.le_of_ble_eq_true rfl)) dJx4a65c_grow_d5877_7 ⟨(Nat.le_of_ble_eq_true rfl), (Nat.le_of_ble_eq_true rfl)⟩) hS (fun q _ h => hFc q h) hFc (fun u ra t H1 locs ht hvm hw hB hz1 hk1 hS => ?_)
  refine W.widen (k := 1) (n := 10) (Nat.le_of_ble_eq_true rfl) (Nat.le_of_ble_eq_true rfl) ?_
  obtain ⟨q2, rfl⟩ : ∃ z, z = ra := ⟨_, rfl⟩
  obtain ⟨u3, rfl⟩ : ∃ z, z = u := ⟨_, rfl⟩
  have hw4 := hw
  clear hw
  obtain ⟨hP1, hD1⟩ := hB
  rw [ht] at hP1
  obtain ⟨hP, hD⟩ := va_join (wr := []) (w1 := [(h, .inr (2, [.int md, .ref q2, .int 0])), (q2, .inl (dA 5, 10, .inr (.inr (.inr (.inr (fun _ => none))))))]) hP hD [0] [] rfl rfl (by decide) (by decide) hk1 hFc hP1 hD1
  generalize H1 = H at hP hS ⊢
  have hP : va_P D vwCl [(h, .inr (2, [.int md, .ref q2, .int 0])), (q2, .inl (dA 5, 10, .inr (.inr (.inr (.inr (fun _ => none))))))] H := hP
  have hD : va_D A [(h, .inr (2, [.int md, .ref q2, .int 0])), (q2, .inl (dA 5, 10, .inr (.inr (.inr (.inr (fun _ => none))))))] := hD
  refine W.widen (k := 1) (n := 10) (Nat.le_of_ble_eq_true rfl) (Nat.le_of_ble_eq_true rfl) ?_
  have hP9 := hP.sub (ws' := [(h, .inr (2, [.int md, .ref q2, .int 0])), (q2, .inl (dA 5, 10, .inr (.inr (.inr (.inr (fun _ => none))))))]) [0, 1] rfl
  have hD9 := hD.sub (ws' := [(h, .inr (2, [.int md, .ref q2, .int 0])), (q2, .inl (dA 5, 10, .inr (.inr (.inr (.inr (fun _ => none))))))]) [0, 1] (by decide) rfl
  exact W.aret (v := .ref q2) hx hb hr (Or.inr ⟨_, rfl⟩) (Or.inr ⟨_, rfl⟩) (fun t ht hW => ⟨⟨(), q2, rfl, trivial, ⟨by rw [ht]; exact hP9, hD9⟩⟩, hS.F ht⟩) hS.2.2 dJx4a65c_grow_d5877_10

set_option maxHeartbeats 4000000 in
set_option maxRecDepth 100000 in
theorem c_add3_Step (l : Launch) (D : va_G) (dA : Nat → ClassId) (E : Nat) (h e0 : Nat) (md : Int32) (f0 : Value) (f1 : Value) (f2 : Value) (sz : Nat)  : Met l yJx4a65c_add_72be8 (wq (.code yJx4a65c_add_72be8 cJx4a65c_add_72be8 4 none)) { frames := 3, cells := 1, slots := 10, locals := 57 } (va_Pc [.ref h, .ref e0, .ref E, .int 0] (PcB D dA E [(h, .inr (2, [.int md, .ref E, .int 0])), (e0, .inr (8, [f0, f1, f2]))] sz)) (va_Qv (fun (u : Nat) => True) (fun u t => va_P D vwCl [(h, .inr (2, [.int md, .ref u, .int 1]))] t.heap ∧ va_D (va_A [(h, .inr (2, [.int md, .ref E, .int 0])), (e0, .inr (8, [f0, f1, f2]))] sz) [(h, .inr (2, [.int md, .ref u, .int 1]))]) (va_A [(h, .inr (2, [.int md, .ref E, .int 0])), (e0, .inr (8, [f0, f1, f2]))] sz)) 1 10 (va_A [(h, .inr (2, [.int md, .ref E, .int 0])), (e0, .inr (8, [f0, f1, f2]))] sz) := by
  refine mb_of (Qc := fun A => va_Qv (fun (u : Nat) => True) (fun u t => va_P D vwCl [(h, .inr (2, [.int md, .ref u, .int 1]))] t.heap ∧ va_D A [(h, .inr (2, [.int md, .ref u, .int 1]))]) A) RJx4a65c rfl (by decide) (Nat.le_of_ble_eq_true rfl) ?_
  intro p e s m args below meth c hae hx hb hr hts hown hlocks hml hnm hP hK A hAe hD hZ hS hA ls hl
  have hl : lv_has ls 4 [(0, .ref h), (1, .ref e0), (2, .ref E), (3, .int 0)] := hl
  refine lv_iload_n hx hb dJx4a65c_add_72be8_0 rfl (lv_at hl 3 rfl) ?_
  refine lv_aload_n hx hb dJx4a65c_add_72be8_1 rfl (lv_at hl 2 rfl) ?_
  refine va_tlen hx hb hZ.2.2.2.2 hS (v := 0) rfl dJx4a65c_add_72be8_2 ?_
  refine lv_icmp_ne (tgt := 11) hx hb dJx4a65c_add_72be8_3 (by decide) (fun c1 => absurd (by decide) c1) (fun _ => ?_)
  refine lv_aload_n hx hb dJx4a65c_add_72be8_6 rfl (lv_at hl 0 rfl) ?_
  have hPc := hP.sub (ws' := [(h, .inr (2, [.int md, .ref E, .int 0]))]) [0] rfl
  have hDc := hD.sub (ws' := [(h, .inr (2, [.int md, .ref E, .int 0]))]) [0] (by decide) rfl
  have hFc := va_free (wc := [(h, .inr (2, [.int md, .ref E, .int 0]))]) hD hS hA [0] rfl
  refine va_callr (va_runV (As := []) (rest := []) ⟨hx, hb, hml, hown, hts⟩ (c_grow0 l D dA E h md s.heap.size ) (cwV 0 hts (ga_V q15 q16 q13 q12 q14) rfl rfl rfl (by decide +kernel) ⟨(Nat.le_of_ble_eq_true rfl), (Nat.le_of_ble_eq_true rfl)⟩) ⟨pb_blind, va_recv hK hPc (ci := 2) (q0 := 0) rfl rfl, pb_pre hK hPc hDc hZ hS hFc _⟩ rfl rfl hl.1 rfl (lv_room (Nat.le_of_ble_eq_true rfl)) dJx4a65c_add_72be8_7 ⟨(Nat.le_of_ble_eq_true rfl), (Nat.le_of_ble_eq_true rfl)⟩) hS (fun q _ h => hFc q h) hFc (fun u ra t H1 locs ht hvm hw hB hz1 hk1 hS => ?_)
  refine W.widen (k := 1) (n := 10) (Nat.le_of_ble_eq_true rfl) (Nat.le_of_ble_eq_true rfl) ?_
  obtain ⟨q2, rfl⟩ : ∃ z, z = ra := ⟨_, rfl⟩
  obtain ⟨u3, rfl⟩ : ∃ z, z = u := ⟨_, rfl⟩
  have hw4 := hw
  clear hw
  obtain ⟨hP1, hD1⟩ := hB
  rw [ht] at hP1
  obtain ⟨hP, hD⟩ := va_join (wr := [(e0, .inr (8, [f0, f1, f2]))]) (w1 := [(h, .inr (2, [.int md, .ref q2, .int 0])), (q2, .inl (dA 5, 10, .inr (.inr (.inr (.inr (fun _ => none))))))]) hP hD [0] [1] rfl rfl (by decide) (by decide) hk1 hFc hP1 hD1
  generalize H1 = H at hP hS ⊢
  have hP : va_P D vwCl [(e0, .inr (8, [f0, f1, f2])), (h, .inr (2, [.int md, .ref q2, .int 0])), (q2, .inl (dA 5, 10, .inr (.inr (.inr (.inr (fun _ => none))))))] H := hP
  have hD : va_D A [(e0, .inr (8, [f0, f1, f2])), (h, .inr (2, [.int md, .ref q2, .int 0])), (q2, .inl (dA 5, 10, .inr (.inr (.inr (.inr (fun _ => none))))))] := hD
  refine lv_astore_n (lv' := [(2, .ref q2), (0, .ref h), (1, .ref e0), (3, .int 0)]) hx hb dJx4a65c_add_72be8_10 rfl hl (by decide) rfl (fun ls hl => ?_)
  refine lv_aload_n hx hb dJx4a65c_add_72be8_11 rfl (lv_at hl 0 rfl) ?_
  refine lv_iload_n hx hb dJx4a65c_add_72be8_12 rfl (lv_at hl 3 rfl) ?_
  refine lv_aload_n hx hb dJx4a65c_add_72be8_13 rfl (lv_at hl 2 rfl) ?_
  refine va_astqO (r := (RX5, TX5, 3)) hx hb hK hP hD hS 2 5 0 8 rfl rfl (hZ.1.1 _ (List.mem_of_getElem? (i := 15) rfl)) rfl rfl (vi_c (by decide)) dJx4a65c_add_72be8_14 (fun H locs hP hD hS => ?_)
  have hP : va_P D vwCl [(e0, .inr (8, [f0, f1, f2])), (h, .inr (2, [.int md, .ref q2, .int 0])), (q2, .inl (dA 5, 10, .inr (.inr (.inr (.inr (va_up (fun _ => none) (0 : Int32).toNatClampNeg (some e0)))))))] H := hP
  have hD : va_D A [(e0, .inr (8, [f0, f1, f2])), (h, .inr (2, [.int md, .ref q2, .int 0])), (q2, .inl (dA 5, 10, .inr (.inr (.inr (.inr (va_up (fun _ => none) (0 : Int32).toNatClampNeg (some e0)))))))] := hD
  refine lv_aload_n hx hb dJx4a65c_add_72be8_15 rfl (lv_at hl 1 rfl) ?_
  refine lv_iload_n hx hb dJx4a65c_add_72be8_16 rfl (lv_at hl 3 rfl) ?_
  refine lv_iconst (v := 1) hx hb dJx4a65c_add_72be8_17 (by decide) ?_
  refine lv_iadd hx hb dJx4a65c_add_72be8_18 ?_
  refine lv_topi (fun x5 ex5 => ?_)
  replace ex5 : x5 = 1 := ex5.trans (by decide)
  subst ex5
  refine va_put (D := D) (ci := 2) (v := .int 1) (ty := .int) (C := RJx4a65c) (T := TJx4a65c) (N := 3) hx hb hts inAJx4a65c tyJx4a65c tyJx4a65c_ok nmJx4a65c hown hK hP hD hS 1 rfl rfl 2 (by decide) (hts _ q0) (fun _ h9 => h9) rfl (tyJx4a65c_ok 2 (by decide)) rfl rfl (Nat.le_of_ble_eq_true rfl) dJx4a65c_add_72be8_19 (fun H locs hP hD hS => ?_)
  have hP : va_P D vwCl [(e0, .inr (8, [f0, f1, f2])), (h, .inr (2, [.int md, .ref q2, .int 1])), (q2, .inl (dA 5, 10, .inr (.inr (.inr (.inr (va_up (fun _ => none) (0 : Int32).toNatClampNeg (some e0)))))))] H := hP
  have hD : va_D A [(e0, .inr (8, [f0, f1, f2])), (h, .inr (2, [.int md, .ref q2, .int 1])), (q2, .inl (dA 5, 10, .inr (.inr (.inr (.inr (va_up (fun _ => none) (0 : Int32).toNatClampNeg (some e0)))))))] := hD
  refine W.widen (k := 1) (n := 10) (Nat.le_of_ble_eq_true rfl) (Nat.le_of_ble_eq_true rfl) ?_
  have hP9 := hP.sub (ws' := [(h, .inr (2, [.int md, .ref q2, .int 1]))]) [1] rfl
  have hD9 := hD.sub (ws' := [(h, .inr (2, [.int md, .ref q2, .int 1]))]) [1] (by decide) rfl
  exact W.vret hx hb hr (fun t ht hW => ⟨⟨q2, rfl, trivial, ⟨by rw [ht]; exact hP9, hD9⟩⟩, hS.F ht⟩) hS.2.2 dJx4a65c_add_72be8_22

set_option maxHeartbeats 4000000 in
set_option maxRecDepth 100000 in
theorem c_add3_View (l : Launch) (D : va_G) (dA : Nat → ClassId) (E : Nat) (h e0 : Nat) (md : Int32) (f0 : Value) (f1 : Value) (f2 : Value) (sz : Nat)  : Met l yJx4a65c_add_72be8 (wq (.code yJx4a65c_add_72be8 cJx4a65c_add_72be8 4 none)) { frames := 3, cells := 1, slots := 10, locals := 57 } (va_Pc [.ref h, .ref e0, .ref E, .int 0] (PcB D dA E [(h, .inr (2, [.int md, .ref E, .int 0])), (e0, .inr (10, [f0, f1, f2]))] sz)) (va_Qv (fun (u : Nat) => True) (fun u t => va_P D vwCl [(h, .inr (2, [.int md, .ref u, .int 1]))] t.heap ∧ va_D (va_A [(h, .inr (2, [.int md, .ref E, .int 0])), (e0, .inr (10, [f0, f1, f2]))] sz) [(h, .inr (2, [.int md, .ref u, .int 1]))]) (va_A [(h, .inr (2, [.int md, .ref E, .int 0])), (e0, .inr (10, [f0, f1, f2]))] sz)) 1 10 (va_A [(h, .inr (2, [.int md, .ref E, .int 0])), (e0, .inr (10, [f0, f1, f2]))] sz) := by
  refine mb_of (Qc := fun A => va_Qv (fun (u : Nat) => True) (fun u t => va_P D vwCl [(h, .inr (2, [.int md, .ref u, .int 1]))] t.heap ∧ va_D A [(h, .inr (2, [.int md, .ref u, .int 1]))]) A) RJx4a65c rfl (by decide) (Nat.le_of_ble_eq_true rfl) ?_
  intro p e s m args below meth c hae hx hb hr hts hown hlocks hml hnm hP hK A hAe hD hZ hS hA ls hl
  have hl : lv_has ls 4 [(0, .ref h), (1, .ref e0), (2, .ref E), (3, .int 0)] := hl
  refine lv_iload_n hx hb dJx4a65c_add_72be8_0 rfl (lv_at hl 3 rfl) ?_
  refine lv_aload_n hx hb dJx4a65c_add_72be8_1 rfl (lv_at hl 2 rfl) ?_
  refine va_tlen hx hb hZ.2.2.2.2 hS (v := 0) rfl dJx4a65c_add_72be8_2 ?_
  refine lv_icmp_ne (tgt := 11) hx hb dJx4a65c_add_72be8_3 (by decide) (fun c1 => absurd (by decide) c1) (fun _ => ?_)
  refine lv_aload_n hx hb dJx4a65c_add_72be8_6 rfl (lv_at hl 0 rfl) ?_
  have hPc := hP.sub (ws' := [(h, .inr (2, [.int md, .ref E, .int 0]))]) [0] rfl
  have hDc := hD.sub (ws' := [(h, .inr (2, [.int md, .ref E, .int 0]))]) [0] (by decide) rfl
  have hFc := va_free (wc := [(h, .inr (2, [.int md, .ref E, .int 0]))]) hD hS hA [0] rfl
  refine va_callr (va_runV (As := []) (rest := []) ⟨hx, hb, hml, hown, hts⟩ (c_grow0 l D dA E h md s.heap.size ) (cwV 0 hts (ga_V q15 q16 q13 q12 q14) rfl rfl rfl (by decide +kernel) ⟨(Nat.le_of_ble_eq_true rfl), (Nat.le_of_ble_eq_true rfl)⟩) ⟨pb_blind, va_recv hK hPc (ci := 2) (q0 := 0) rfl rfl, pb_pre hK hPc hDc hZ hS hFc _⟩ rfl rfl hl.1 rfl (lv_room (Nat.le_of_ble_eq_true rfl)) dJx4a65c_add_72be8_7 ⟨(Nat.le_of_ble_eq_true rfl), (Nat.le_of_ble_eq_true rfl)⟩) hS (fun q _ h => hFc q h) hFc (fun u ra t H1 locs ht hvm hw hB hz1 hk1 hS => ?_)
  refine W.widen (k := 1) (n := 10) (Nat.le_of_ble_eq_true rfl) (Nat.le_of_ble_eq_true rfl) ?_
  obtain ⟨q2, rfl⟩ : ∃ z, z = ra := ⟨_, rfl⟩
  obtain ⟨u3, rfl⟩ : ∃ z, z = u := ⟨_, rfl⟩
  have hw4 := hw
  clear hw
  obtain ⟨hP1, hD1⟩ := hB
  rw [ht] at hP1
  obtain ⟨hP, hD⟩ := va_join (wr := [(e0, .inr (10, [f0, f1, f2]))]) (w1 := [(h, .inr (2, [.int md, .ref q2, .int 0])), (q2, .inl (dA 5, 10, .inr (.inr (.inr (.inr (fun _ => none))))))]) hP hD [0] [1] rfl rfl (by decide) (by decide) hk1 hFc hP1 hD1
  generalize H1 = H at hP hS ⊢
  have hP : va_P D vwCl [(e0, .inr (10, [f0, f1, f2])), (h, .inr (2, [.int md, .ref q2, .int 0])), (q2, .inl (dA 5, 10, .inr (.inr (.inr (.inr (fun _ => none))))))] H := hP
  have hD : va_D A [(e0, .inr (10, [f0, f1, f2])), (h, .inr (2, [.int md, .ref q2, .int 0])), (q2, .inl (dA 5, 10, .inr (.inr (.inr (.inr (fun _ => none))))))] := hD
  refine lv_astore_n (lv' := [(2, .ref q2), (0, .ref h), (1, .ref e0), (3, .int 0)]) hx hb dJx4a65c_add_72be8_10 rfl hl (by decide) rfl (fun ls hl => ?_)
  refine lv_aload_n hx hb dJx4a65c_add_72be8_11 rfl (lv_at hl 0 rfl) ?_
  refine lv_iload_n hx hb dJx4a65c_add_72be8_12 rfl (lv_at hl 3 rfl) ?_
  refine lv_aload_n hx hb dJx4a65c_add_72be8_13 rfl (lv_at hl 2 rfl) ?_
  refine va_astqO (r := (RX7, TX7, 3)) hx hb hK hP hD hS 2 5 0 10 rfl rfl (hZ.1.1 _ (List.mem_of_getElem? (i := 20) rfl)) rfl rfl (vi_c (by decide)) dJx4a65c_add_72be8_14 (fun H locs hP hD hS => ?_)
  have hP : va_P D vwCl [(e0, .inr (10, [f0, f1, f2])), (h, .inr (2, [.int md, .ref q2, .int 0])), (q2, .inl (dA 5, 10, .inr (.inr (.inr (.inr (va_up (fun _ => none) (0 : Int32).toNatClampNeg (some e0)))))))] H := hP
  have hD : va_D A [(e0, .inr (10, [f0, f1, f2])), (h, .inr (2, [.int md, .ref q2, .int 0])), (q2, .inl (dA 5, 10, .inr (.inr (.inr (.inr (va_up (fun _ => none) (0 : Int32).toNatClampNeg (some e0)))))))] := hD
  refine lv_aload_n hx hb dJx4a65c_add_72be8_15 rfl (lv_at hl 1 rfl) ?_
  refine lv_iload_n hx hb dJx4a65c_add_72be8_16 rfl (lv_at hl 3 rfl) ?_
  refine lv_iconst (v := 1) hx hb dJx4a65c_add_72be8_17 (by decide) ?_
  refine lv_iadd hx hb dJx4a65c_add_72be8_18 ?_
  refine lv_topi (fun x5 ex5 => ?_)
  replace ex5 : x5 = 1 := ex5.trans (by decide)
  subst ex5
  refine va_put (D := D) (ci := 2) (v := .int 1) (ty := .int) (C := RJx4a65c) (T := TJx4a65c) (N := 3) hx hb hts inAJx4a65c tyJx4a65c tyJx4a65c_ok nmJx4a65c hown hK hP hD hS 1 rfl rfl 2 (by decide) (hts _ q0) (fun _ h9 => h9) rfl (tyJx4a65c_ok 2 (by decide)) rfl rfl (Nat.le_of_ble_eq_true rfl) dJx4a65c_add_72be8_19 (fun H locs hP hD hS => ?_)
  have hP : va_P D vwCl [(e0, .inr (10, [f0, f1, f2])), (h, .inr (2, [.int md, .ref q2, .int 1])), (q2, .inl (dA 5, 10, .inr (.inr (.inr (.inr (va_up (fun _ => none) (0 : Int32).toNatClampNeg (some e0)))))))] H := hP
  have hD : va_D A [(e0, .inr (10, [f0, f1, f2])), (h, .inr (2, [.int md, .ref q2, .int 1])), (q2, .inl (dA 5, 10, .inr (.inr (.inr (.inr (va_up (fun _ => none) (0 : Int32).toNatClampNeg (some e0)))))))] := hD
  refine W.widen (k := 1) (n := 10) (Nat.le_of_ble_eq_true rfl) (Nat.le_of_ble_eq_true rfl) ?_
  have hP9 := hP.sub (ws' := [(h, .inr (2, [.int md, .ref q2, .int 1]))]) [1] rfl
  have hD9 := hD.sub (ws' := [(h, .inr (2, [.int md, .ref q2, .int 1]))]) [1] (by decide) rfl
  exact W.vret hx hb hr (fun t ht hW => ⟨⟨q2, rfl, trivial, ⟨by rw [ht]; exact hP9, hD9⟩⟩, hS.F ht⟩) hS.2.2 dJx4a65c_add_72be8_22

set_option maxHeartbeats 4000000 in
set_option maxRecDepth 100000 in
theorem c_add3_Query (l : Launch) (D : va_G) (dA : Nat → ClassId) (E : Nat) (h e0 : Nat) (md : Int32) (f0 : Value) (f1 : Value) (f2 : Value) (f3 : Value) (f4 : Value) (f5 : Value) (sz : Nat)  : Met l yJx4a65c_add_72be8 (wq (.code yJx4a65c_add_72be8 cJx4a65c_add_72be8 4 none)) { frames := 3, cells := 1, slots := 10, locals := 57 } (va_Pc [.ref h, .ref e0, .ref E, .int 0] (PcB D dA E [(h, .inr (2, [.int md, .ref E, .int 0])), (e0, .inr (4, [f0, f1, f2, f3, f4, f5]))] sz)) (va_Qv (fun (u : Nat) => True) (fun u t => va_P D vwCl [(h, .inr (2, [.int md, .ref u, .int 1]))] t.heap ∧ va_D (va_A [(h, .inr (2, [.int md, .ref E, .int 0])), (e0, .inr (4, [f0, f1, f2, f3, f4, f5]))] sz) [(h, .inr (2, [.int md, .ref u, .int 1]))]) (va_A [(h, .inr (2, [.int md, .ref E, .int 0])), (e0, .inr (4, [f0, f1, f2, f3, f4, f5]))] sz)) 1 10 (va_A [(h, .inr (2, [.int md, .ref E, .int 0])), (e0, .inr (4, [f0, f1, f2, f3, f4, f5]))] sz) := by
  refine mb_of (Qc := fun A => va_Qv (fun (u : Nat) => True) (fun u t => va_P D vwCl [(h, .inr (2, [.int md, .ref u, .int 1]))] t.heap ∧ va_D A [(h, .inr (2, [.int md, .ref u, .int 1]))]) A) RJx4a65c rfl (by decide) (Nat.le_of_ble_eq_true rfl) ?_
  intro p e s m args below meth c hae hx hb hr hts hown hlocks hml hnm hP hK A hAe hD hZ hS hA ls hl
  have hl : lv_has ls 4 [(0, .ref h), (1, .ref e0), (2, .ref E), (3, .int 0)] := hl
  refine lv_iload_n hx hb dJx4a65c_add_72be8_0 rfl (lv_at hl 3 rfl) ?_
  refine lv_aload_n hx hb dJx4a65c_add_72be8_1 rfl (lv_at hl 2 rfl) ?_
  refine va_tlen hx hb hZ.2.2.2.2 hS (v := 0) rfl dJx4a65c_add_72be8_2 ?_
  refine lv_icmp_ne (tgt := 11) hx hb dJx4a65c_add_72be8_3 (by decide) (fun c1 => absurd (by decide) c1) (fun _ => ?_)
  refine lv_aload_n hx hb dJx4a65c_add_72be8_6 rfl (lv_at hl 0 rfl) ?_
  have hPc := hP.sub (ws' := [(h, .inr (2, [.int md, .ref E, .int 0]))]) [0] rfl
  have hDc := hD.sub (ws' := [(h, .inr (2, [.int md, .ref E, .int 0]))]) [0] (by decide) rfl
  have hFc := va_free (wc := [(h, .inr (2, [.int md, .ref E, .int 0]))]) hD hS hA [0] rfl
  refine va_callr (va_runV (As := []) (rest := []) ⟨hx, hb, hml, hown, hts⟩ (c_grow0 l D dA E h md s.heap.size ) (cwV 0 hts (ga_V q15 q16 q13 q12 q14) rfl rfl rfl (by decide +kernel) ⟨(Nat.le_of_ble_eq_true rfl), (Nat.le_of_ble_eq_true rfl)⟩) ⟨pb_blind, va_recv hK hPc (ci := 2) (q0 := 0) rfl rfl, pb_pre hK hPc hDc hZ hS hFc _⟩ rfl rfl hl.1 rfl (lv_room (Nat.le_of_ble_eq_true rfl)) dJx4a65c_add_72be8_7 ⟨(Nat.le_of_ble_eq_true rfl), (Nat.le_of_ble_eq_true rfl)⟩) hS (fun q _ h => hFc q h) hFc (fun u ra t H1 locs ht hvm hw hB hz1 hk1 hS => ?_)
  refine W.widen (k := 1) (n := 10) (Nat.le_of_ble_eq_true rfl) (Nat.le_of_ble_eq_true rfl) ?_
  obtain ⟨q2, rfl⟩ : ∃ z, z = ra := ⟨_, rfl⟩
  obtain ⟨u3, rfl⟩ : ∃ z, z = u := ⟨_, rfl⟩
  have hw4 := hw
  clear hw
  obtain ⟨hP1, hD1⟩ := hB
  rw [ht] at hP1
  obtain ⟨hP, hD⟩ := va_join (wr := [(e0, .inr (4, [f0, f1, f2, f3, f4, f5]))]) (w1 := [(h, .inr (2, [.int md, .ref q2, .int 0])), (q2, .inl (dA 5, 10, .inr (.inr (.inr (.inr (fun _ => none))))))]) hP hD [0] [1] rfl rfl (by decide) (by decide) hk1 hFc hP1 hD1
  generalize H1 = H at hP hS ⊢
  have hP : va_P D vwCl [(e0, .inr (4, [f0, f1, f2, f3, f4, f5])), (h, .inr (2, [.int md, .ref q2, .int 0])), (q2, .inl (dA 5, 10, .inr (.inr (.inr (.inr (fun _ => none))))))] H := hP
  have hD : va_D A [(e0, .inr (4, [f0, f1, f2, f3, f4, f5])), (h, .inr (2, [.int md, .ref q2, .int 0])), (q2, .inl (dA 5, 10, .inr (.inr (.inr (.inr (fun _ => none))))))] := hD
  refine lv_astore_n (lv' := [(2, .ref q2), (0, .ref h), (1, .ref e0), (3, .int 0)]) hx hb dJx4a65c_add_72be8_10 rfl hl (by decide) rfl (fun ls hl => ?_)
  refine lv_aload_n hx hb dJx4a65c_add_72be8_11 rfl (lv_at hl 0 rfl) ?_
  refine lv_iload_n hx hb dJx4a65c_add_72be8_12 rfl (lv_at hl 3 rfl) ?_
  refine lv_aload_n hx hb dJx4a65c_add_72be8_13 rfl (lv_at hl 2 rfl) ?_
  refine va_astqO (r := (RX1, TX1, 6)) hx hb hK hP hD hS 2 5 0 4 rfl rfl (hZ.1.1 _ (List.mem_of_getElem? (i := 21) rfl)) rfl rfl (vi_c (by decide)) dJx4a65c_add_72be8_14 (fun H locs hP hD hS => ?_)
  have hP : va_P D vwCl [(e0, .inr (4, [f0, f1, f2, f3, f4, f5])), (h, .inr (2, [.int md, .ref q2, .int 0])), (q2, .inl (dA 5, 10, .inr (.inr (.inr (.inr (va_up (fun _ => none) (0 : Int32).toNatClampNeg (some e0)))))))] H := hP
  have hD : va_D A [(e0, .inr (4, [f0, f1, f2, f3, f4, f5])), (h, .inr (2, [.int md, .ref q2, .int 0])), (q2, .inl (dA 5, 10, .inr (.inr (.inr (.inr (va_up (fun _ => none) (0 : Int32).toNatClampNeg (some e0)))))))] := hD
  refine lv_aload_n hx hb dJx4a65c_add_72be8_15 rfl (lv_at hl 1 rfl) ?_
  refine lv_iload_n hx hb dJx4a65c_add_72be8_16 rfl (lv_at hl 3 rfl) ?_
  refine lv_iconst (v := 1) hx hb dJx4a65c_add_72be8_17 (by decide) ?_
  refine lv_iadd hx hb dJx4a65c_add_72be8_18 ?_
  refine lv_topi (fun x5 ex5 => ?_)
  replace ex5 : x5 = 1 := ex5.trans (by decide)
  subst ex5
  refine va_put (D := D) (ci := 2) (v := .int 1) (ty := .int) (C := RJx4a65c) (T := TJx4a65c) (N := 3) hx hb hts inAJx4a65c tyJx4a65c tyJx4a65c_ok nmJx4a65c hown hK hP hD hS 1 rfl rfl 2 (by decide) (hts _ q0) (fun _ h9 => h9) rfl (tyJx4a65c_ok 2 (by decide)) rfl rfl (Nat.le_of_ble_eq_true rfl) dJx4a65c_add_72be8_19 (fun H locs hP hD hS => ?_)
  have hP : va_P D vwCl [(e0, .inr (4, [f0, f1, f2, f3, f4, f5])), (h, .inr (2, [.int md, .ref q2, .int 1])), (q2, .inl (dA 5, 10, .inr (.inr (.inr (.inr (va_up (fun _ => none) (0 : Int32).toNatClampNeg (some e0)))))))] H := hP
  have hD : va_D A [(e0, .inr (4, [f0, f1, f2, f3, f4, f5])), (h, .inr (2, [.int md, .ref q2, .int 1])), (q2, .inl (dA 5, 10, .inr (.inr (.inr (.inr (va_up (fun _ => none) (0 : Int32).toNatClampNeg (some e0)))))))] := hD
  refine W.widen (k := 1) (n := 10) (Nat.le_of_ble_eq_true rfl) (Nat.le_of_ble_eq_true rfl) ?_
  have hP9 := hP.sub (ws' := [(h, .inr (2, [.int md, .ref q2, .int 1]))]) [1] rfl
  have hD9 := hD.sub (ws' := [(h, .inr (2, [.int md, .ref q2, .int 1]))]) [1] (by decide) rfl
  exact W.vret hx hb hr (fun t ht hW => ⟨⟨q2, rfl, trivial, ⟨by rw [ht]; exact hP9, hD9⟩⟩, hS.F ht⟩) hS.2.2 dJx4a65c_add_72be8_22

set_option maxHeartbeats 4000000 in
set_option maxRecDepth 100000 in
theorem c_add_Step (l : Launch) (D : va_G) (dA : Nat → ClassId) (E : Nat) (h e0 : Nat) (f0 : Value) (f1 : Value) (f2 : Value) (sz : Nat)  : Met l yJx4a65c_add_9ea2d (wq (.code yJx4a65c_add_9ea2d cJx4a65c_add_9ea2d 2 (some .boolean))) { frames := 4, cells := 1, slots := 10, locals := 80 } (va_Pc [.ref h, .ref e0] (PcB D dA E [(h, .inr (2, [.int 0, .ref E, .int 0])), (e0, .inr (8, [f0, f1, f2]))] sz)) (va_Qi (fun (r : Int32) (u : Nat) => r = 1) (fun u t => va_P D vwCl [(h, .inr (2, [.int 1, .ref u, .int 1]))] t.heap ∧ va_D (va_A [(h, .inr (2, [.int 0, .ref E, .int 0])), (e0, .inr (8, [f0, f1, f2]))] sz) [(h, .inr (2, [.int 1, .ref u, .int 1]))]) (va_A [(h, .inr (2, [.int 0, .ref E, .int 0])), (e0, .inr (8, [f0, f1, f2]))] sz)) 1 10 (va_A [(h, .inr (2, [.int 0, .ref E, .int 0])), (e0, .inr (8, [f0, f1, f2]))] sz) := by
  refine mb_of (Qc := fun A => va_Qi (fun (r : Int32) (u : Nat) => r = 1) (fun u t => va_P D vwCl [(h, .inr (2, [.int 1, .ref u, .int 1]))] t.heap ∧ va_D A [(h, .inr (2, [.int 1, .ref u, .int 1]))]) A) RJx4a65c rfl (by decide) (Nat.le_of_ble_eq_true rfl) ?_
  intro p e s m args below meth c hae hx hb hr hts hown hlocks hml hnm hP hK A hAe hD hZ hS hA ls hl
  have hl : lv_has ls 2 [(0, .ref h), (1, .ref e0)] := hl
  refine lv_aload_n hx hb dJx4a65c_add_9ea2d_0 rfl (lv_at hl 0 rfl) ?_
  refine lv_dup hx hb dJx4a65c_add_9ea2d_1 rfl ?_
  refine va_get (D := D) (ci := 2) (v := .int 0) (C := RJx4a65c) (T := TJx4a65c) (N := 3) hx hb hts inAJx4a65c hown hK hP 0 rfl rfl 0 (by decide) (hts _ q17) (u_same (hts _ q18)) rfl dJx4a65c_add_9ea2d_2 ?_
  refine lv_iconst (v := 1) hx hb dJx4a65c_add_9ea2d_5 (by decide) ?_
  refine lv_iadd hx hb dJx4a65c_add_9ea2d_6 ?_
  refine lv_topi (fun x1 ex1 => ?_)
  replace ex1 : x1 = 1 := ex1.trans (by decide)
  subst ex1
  refine va_put (D := D) (ci := 2) (v := .int 1) (ty := .int) (C := RJx4a65c) (T := TJx4a65c) (N := 3) hx hb hts inAJx4a65c tyJx4a65c tyJx4a65c_ok nmJx4a65c hown hK hP hD hS 0 rfl rfl 0 (by decide) (hts _ q17) (u_same (hts _ q18)) rfl (tyJx4a65c_ok 0 (by decide)) rfl rfl (Nat.le_of_ble_eq_true rfl) dJx4a65c_add_9ea2d_7 (fun H locs hP hD hS => ?_)
  have hP : va_P D vwCl [(h, .inr (2, [.int 1, .ref E, .int 0])), (e0, .inr (8, [f0, f1, f2]))] H := hP
  have hD : va_D A [(h, .inr (2, [.int 1, .ref E, .int 0])), (e0, .inr (8, [f0, f1, f2]))] := hD
  refine lv_aload_n hx hb dJx4a65c_add_9ea2d_10 rfl (lv_at hl 0 rfl) ?_
  refine lv_aload_n hx hb dJx4a65c_add_9ea2d_11 rfl (lv_at hl 1 rfl) ?_
  refine lv_aload_n hx hb dJx4a65c_add_9ea2d_12 rfl (lv_at hl 0 rfl) ?_
  refine va_get (D := D) (ci := 2) (v := .ref E) (C := RJx4a65c) (T := TJx4a65c) (N := 3) hx hb hts inAJx4a65c hown hK hP 0 rfl rfl 1 (by decide) (hts _ q1) (fun _ h9 => h9) rfl dJx4a65c_add_9ea2d_13 ?_
  refine lv_aload_n hx hb dJx4a65c_add_9ea2d_16 rfl (lv_at hl 0 rfl) ?_
  refine va_get (D := D) (ci := 2) (v := .int 0) (C := RJx4a65c) (T := TJx4a65c) (N := 3) hx hb hts inAJx4a65c hown hK hP 0 rfl rfl 2 (by decide) (hts _ q0) (fun _ h9 => h9) rfl dJx4a65c_add_9ea2d_17 ?_
  have hPc := hP.sub (ws' := [(h, .inr (2, [.int 1, .ref E, .int 0])), (e0, .inr (8, [f0, f1, f2]))]) [0, 1] rfl
  have hDc := hD.sub (ws' := [(h, .inr (2, [.int 1, .ref E, .int 0])), (e0, .inr (8, [f0, f1, f2]))]) [0, 1] (by decide) rfl
  have hFc := va_free (wc := [(h, .inr (2, [.int 1, .ref E, .int 0])), (e0, .inr (8, [f0, f1, f2]))]) hD hS hA [0, 1] rfl
  refine va_callv (va_runV (As := [.ref e0, .ref E, .int 0]) (rest := []) ⟨hx, hb, hml, hown, hts⟩ (c_add3_Step l D dA E h e0 1 (f0) (f1) (f2) H.size ) (cwV 3 hts (ga_V q21 q22 q19 q12 q20) rfl rfl rfl (by decide +kernel) ⟨(Nat.le_of_ble_eq_true rfl), (Nat.le_of_ble_eq_true rfl)⟩) ⟨pb_blind, va_recv hK hPc (ci := 2) (q0 := 0) rfl rfl, pb_pre hK hPc hDc hZ hS hFc _⟩ rfl rfl hl.1 rfl (lv_room (Nat.le_of_ble_eq_true rfl)) dJx4a65c_add_9ea2d_20 ⟨(Nat.le_of_ble_eq_true rfl), (Nat.le_of_ble_eq_true rfl)⟩) hS (fun q _ h => hFc q h) hFc (fun u t H1 locs ht hvm hw hB hz1 hk1 hS => ?_)
  refine W.widen (k := 1) (n := 10) (Nat.le_of_ble_eq_true rfl) (Nat.le_of_ble_eq_true rfl) ?_
  obtain ⟨u2, rfl⟩ : ∃ z, z = u := ⟨_, rfl⟩
  have hw3 := hw
  clear hw
  obtain ⟨hP1, hD1⟩ := hB
  rw [ht] at hP1
  obtain ⟨hP, hD⟩ := va_join (wr := []) (w1 := [(h, .inr (2, [.int 1, .ref u2, .int 1]))]) hP hD [0, 1] [] rfl rfl (by decide) (by decide) hk1 hFc hP1 hD1
  generalize H1 = H at hP hS ⊢
  have hP : va_P D vwCl [(h, .inr (2, [.int 1, .ref u2, .int 1]))] H := hP
  have hD : va_D A [(h, .inr (2, [.int 1, .ref u2, .int 1]))] := hD
  refine lv_iconst (v := 1) hx hb dJx4a65c_add_9ea2d_23 (by decide) ?_
  refine W.widen (k := 1) (n := 10) (Nat.le_of_ble_eq_true rfl) (Nat.le_of_ble_eq_true rfl) ?_
  have hP9 := hP.sub (ws' := [(h, .inr (2, [.int 1, .ref u2, .int 1]))]) [0] rfl
  have hD9 := hD.sub (ws' := [(h, .inr (2, [.int 1, .ref u2, .int 1]))]) [0] (by decide) rfl
  exact W.zret (v := 1) hx hb hr rfl (fun t ht hW => ⟨⟨1, u2, rfl, rfl, ⟨by rw [ht]; exact hP9, hD9⟩⟩, hS.F ht⟩) hS.2.2 dJx4a65c_add_9ea2d_24

set_option maxHeartbeats 4000000 in
set_option maxRecDepth 100000 in
theorem c_add_View (l : Launch) (D : va_G) (dA : Nat → ClassId) (E : Nat) (h e0 : Nat) (f0 : Value) (f1 : Value) (f2 : Value) (sz : Nat)  : Met l yJx4a65c_add_9ea2d (wq (.code yJx4a65c_add_9ea2d cJx4a65c_add_9ea2d 2 (some .boolean))) { frames := 4, cells := 1, slots := 10, locals := 80 } (va_Pc [.ref h, .ref e0] (PcB D dA E [(h, .inr (2, [.int 0, .ref E, .int 0])), (e0, .inr (10, [f0, f1, f2]))] sz)) (va_Qi (fun (r : Int32) (u : Nat) => r = 1) (fun u t => va_P D vwCl [(h, .inr (2, [.int 1, .ref u, .int 1]))] t.heap ∧ va_D (va_A [(h, .inr (2, [.int 0, .ref E, .int 0])), (e0, .inr (10, [f0, f1, f2]))] sz) [(h, .inr (2, [.int 1, .ref u, .int 1]))]) (va_A [(h, .inr (2, [.int 0, .ref E, .int 0])), (e0, .inr (10, [f0, f1, f2]))] sz)) 1 10 (va_A [(h, .inr (2, [.int 0, .ref E, .int 0])), (e0, .inr (10, [f0, f1, f2]))] sz) := by
  refine mb_of (Qc := fun A => va_Qi (fun (r : Int32) (u : Nat) => r = 1) (fun u t => va_P D vwCl [(h, .inr (2, [.int 1, .ref u, .int 1]))] t.heap ∧ va_D A [(h, .inr (2, [.int 1, .ref u, .int 1]))]) A) RJx4a65c rfl (by decide) (Nat.le_of_ble_eq_true rfl) ?_
  intro p e s m args below meth c hae hx hb hr hts hown hlocks hml hnm hP hK A hAe hD hZ hS hA ls hl
  have hl : lv_has ls 2 [(0, .ref h), (1, .ref e0)] := hl
  refine lv_aload_n hx hb dJx4a65c_add_9ea2d_0 rfl (lv_at hl 0 rfl) ?_
  refine lv_dup hx hb dJx4a65c_add_9ea2d_1 rfl ?_
  refine va_get (D := D) (ci := 2) (v := .int 0) (C := RJx4a65c) (T := TJx4a65c) (N := 3) hx hb hts inAJx4a65c hown hK hP 0 rfl rfl 0 (by decide) (hts _ q17) (u_same (hts _ q18)) rfl dJx4a65c_add_9ea2d_2 ?_
  refine lv_iconst (v := 1) hx hb dJx4a65c_add_9ea2d_5 (by decide) ?_
  refine lv_iadd hx hb dJx4a65c_add_9ea2d_6 ?_
  refine lv_topi (fun x1 ex1 => ?_)
  replace ex1 : x1 = 1 := ex1.trans (by decide)
  subst ex1
  refine va_put (D := D) (ci := 2) (v := .int 1) (ty := .int) (C := RJx4a65c) (T := TJx4a65c) (N := 3) hx hb hts inAJx4a65c tyJx4a65c tyJx4a65c_ok nmJx4a65c hown hK hP hD hS 0 rfl rfl 0 (by decide) (hts _ q17) (u_same (hts _ q18)) rfl (tyJx4a65c_ok 0 (by decide)) rfl rfl (Nat.le_of_ble_eq_true rfl) dJx4a65c_add_9ea2d_7 (fun H locs hP hD hS => ?_)
  have hP : va_P D vwCl [(h, .inr (2, [.int 1, .ref E, .int 0])), (e0, .inr (10, [f0, f1, f2]))] H := hP
  have hD : va_D A [(h, .inr (2, [.int 1, .ref E, .int 0])), (e0, .inr (10, [f0, f1, f2]))] := hD
  refine lv_aload_n hx hb dJx4a65c_add_9ea2d_10 rfl (lv_at hl 0 rfl) ?_
  refine lv_aload_n hx hb dJx4a65c_add_9ea2d_11 rfl (lv_at hl 1 rfl) ?_
  refine lv_aload_n hx hb dJx4a65c_add_9ea2d_12 rfl (lv_at hl 0 rfl) ?_
  refine va_get (D := D) (ci := 2) (v := .ref E) (C := RJx4a65c) (T := TJx4a65c) (N := 3) hx hb hts inAJx4a65c hown hK hP 0 rfl rfl 1 (by decide) (hts _ q1) (fun _ h9 => h9) rfl dJx4a65c_add_9ea2d_13 ?_
  refine lv_aload_n hx hb dJx4a65c_add_9ea2d_16 rfl (lv_at hl 0 rfl) ?_
  refine va_get (D := D) (ci := 2) (v := .int 0) (C := RJx4a65c) (T := TJx4a65c) (N := 3) hx hb hts inAJx4a65c hown hK hP 0 rfl rfl 2 (by decide) (hts _ q0) (fun _ h9 => h9) rfl dJx4a65c_add_9ea2d_17 ?_
  have hPc := hP.sub (ws' := [(h, .inr (2, [.int 1, .ref E, .int 0])), (e0, .inr (10, [f0, f1, f2]))]) [0, 1] rfl
  have hDc := hD.sub (ws' := [(h, .inr (2, [.int 1, .ref E, .int 0])), (e0, .inr (10, [f0, f1, f2]))]) [0, 1] (by decide) rfl
  have hFc := va_free (wc := [(h, .inr (2, [.int 1, .ref E, .int 0])), (e0, .inr (10, [f0, f1, f2]))]) hD hS hA [0, 1] rfl
  refine va_callv (va_runV (As := [.ref e0, .ref E, .int 0]) (rest := []) ⟨hx, hb, hml, hown, hts⟩ (c_add3_View l D dA E h e0 1 (f0) (f1) (f2) H.size ) (cwV 3 hts (ga_V q21 q22 q19 q12 q20) rfl rfl rfl (by decide +kernel) ⟨(Nat.le_of_ble_eq_true rfl), (Nat.le_of_ble_eq_true rfl)⟩) ⟨pb_blind, va_recv hK hPc (ci := 2) (q0 := 0) rfl rfl, pb_pre hK hPc hDc hZ hS hFc _⟩ rfl rfl hl.1 rfl (lv_room (Nat.le_of_ble_eq_true rfl)) dJx4a65c_add_9ea2d_20 ⟨(Nat.le_of_ble_eq_true rfl), (Nat.le_of_ble_eq_true rfl)⟩) hS (fun q _ h => hFc q h) hFc (fun u t H1 locs ht hvm hw hB hz1 hk1 hS => ?_)
  refine W.widen (k := 1) (n := 10) (Nat.le_of_ble_eq_true rfl) (Nat.le_of_ble_eq_true rfl) ?_
  obtain ⟨u2, rfl⟩ : ∃ z, z = u := ⟨_, rfl⟩
  have hw3 := hw
  clear hw
  obtain ⟨hP1, hD1⟩ := hB
  rw [ht] at hP1
  obtain ⟨hP, hD⟩ := va_join (wr := []) (w1 := [(h, .inr (2, [.int 1, .ref u2, .int 1]))]) hP hD [0, 1] [] rfl rfl (by decide) (by decide) hk1 hFc hP1 hD1
  generalize H1 = H at hP hS ⊢
  have hP : va_P D vwCl [(h, .inr (2, [.int 1, .ref u2, .int 1]))] H := hP
  have hD : va_D A [(h, .inr (2, [.int 1, .ref u2, .int 1]))] := hD
  refine lv_iconst (v := 1) hx hb dJx4a65c_add_9ea2d_23 (by decide) ?_
  refine W.widen (k := 1) (n := 10) (Nat.le_of_ble_eq_true rfl) (Nat.le_of_ble_eq_true rfl) ?_
  have hP9 := hP.sub (ws' := [(h, .inr (2, [.int 1, .ref u2, .int 1]))]) [0] rfl
  have hD9 := hD.sub (ws' := [(h, .inr (2, [.int 1, .ref u2, .int 1]))]) [0] (by decide) rfl
  exact W.zret (v := 1) hx hb hr rfl (fun t ht hW => ⟨⟨1, u2, rfl, rfl, ⟨by rw [ht]; exact hP9, hD9⟩⟩, hS.F ht⟩) hS.2.2 dJx4a65c_add_9ea2d_24

set_option maxHeartbeats 4000000 in
set_option maxRecDepth 100000 in
theorem c_add_Query (l : Launch) (D : va_G) (dA : Nat → ClassId) (E : Nat) (h e0 : Nat) (f0 : Value) (f1 : Value) (f2 : Value) (f3 : Value) (f4 : Value) (f5 : Value) (sz : Nat)  : Met l yJx4a65c_add_9ea2d (wq (.code yJx4a65c_add_9ea2d cJx4a65c_add_9ea2d 2 (some .boolean))) { frames := 4, cells := 1, slots := 10, locals := 80 } (va_Pc [.ref h, .ref e0] (PcB D dA E [(h, .inr (2, [.int 0, .ref E, .int 0])), (e0, .inr (4, [f0, f1, f2, f3, f4, f5]))] sz)) (va_Qi (fun (r : Int32) (u : Nat) => r = 1) (fun u t => va_P D vwCl [(h, .inr (2, [.int 1, .ref u, .int 1]))] t.heap ∧ va_D (va_A [(h, .inr (2, [.int 0, .ref E, .int 0])), (e0, .inr (4, [f0, f1, f2, f3, f4, f5]))] sz) [(h, .inr (2, [.int 1, .ref u, .int 1]))]) (va_A [(h, .inr (2, [.int 0, .ref E, .int 0])), (e0, .inr (4, [f0, f1, f2, f3, f4, f5]))] sz)) 1 10 (va_A [(h, .inr (2, [.int 0, .ref E, .int 0])), (e0, .inr (4, [f0, f1, f2, f3, f4, f5]))] sz) := by
  refine mb_of (Qc := fun A => va_Qi (fun (r : Int32) (u : Nat) => r = 1) (fun u t => va_P D vwCl [(h, .inr (2, [.int 1, .ref u, .int 1]))] t.heap ∧ va_D A [(h, .inr (2, [.int 1, .ref u, .int 1]))]) A) RJx4a65c rfl (by decide) (Nat.le_of_ble_eq_true rfl) ?_
  intro p e s m args below meth c hae hx hb hr hts hown hlocks hml hnm hP hK A hAe hD hZ hS hA ls hl
  have hl : lv_has ls 2 [(0, .ref h), (1, .ref e0)] := hl
  refine lv_aload_n hx hb dJx4a65c_add_9ea2d_0 rfl (lv_at hl 0 rfl) ?_
  refine lv_dup hx hb dJx4a65c_add_9ea2d_1 rfl ?_
  refine va_get (D := D) (ci := 2) (v := .int 0) (C := RJx4a65c) (T := TJx4a65c) (N := 3) hx hb hts inAJx4a65c hown hK hP 0 rfl rfl 0 (by decide) (hts _ q17) (u_same (hts _ q18)) rfl dJx4a65c_add_9ea2d_2 ?_
  refine lv_iconst (v := 1) hx hb dJx4a65c_add_9ea2d_5 (by decide) ?_
  refine lv_iadd hx hb dJx4a65c_add_9ea2d_6 ?_
  refine lv_topi (fun x1 ex1 => ?_)
  replace ex1 : x1 = 1 := ex1.trans (by decide)
  subst ex1
  refine va_put (D := D) (ci := 2) (v := .int 1) (ty := .int) (C := RJx4a65c) (T := TJx4a65c) (N := 3) hx hb hts inAJx4a65c tyJx4a65c tyJx4a65c_ok nmJx4a65c hown hK hP hD hS 0 rfl rfl 0 (by decide) (hts _ q17) (u_same (hts _ q18)) rfl (tyJx4a65c_ok 0 (by decide)) rfl rfl (Nat.le_of_ble_eq_true rfl) dJx4a65c_add_9ea2d_7 (fun H locs hP hD hS => ?_)
  have hP : va_P D vwCl [(h, .inr (2, [.int 1, .ref E, .int 0])), (e0, .inr (4, [f0, f1, f2, f3, f4, f5]))] H := hP
  have hD : va_D A [(h, .inr (2, [.int 1, .ref E, .int 0])), (e0, .inr (4, [f0, f1, f2, f3, f4, f5]))] := hD
  refine lv_aload_n hx hb dJx4a65c_add_9ea2d_10 rfl (lv_at hl 0 rfl) ?_
  refine lv_aload_n hx hb dJx4a65c_add_9ea2d_11 rfl (lv_at hl 1 rfl) ?_
  refine lv_aload_n hx hb dJx4a65c_add_9ea2d_12 rfl (lv_at hl 0 rfl) ?_
  refine va_get (D := D) (ci := 2) (v := .ref E) (C := RJx4a65c) (T := TJx4a65c) (N := 3) hx hb hts inAJx4a65c hown hK hP 0 rfl rfl 1 (by decide) (hts _ q1) (fun _ h9 => h9) rfl dJx4a65c_add_9ea2d_13 ?_
  refine lv_aload_n hx hb dJx4a65c_add_9ea2d_16 rfl (lv_at hl 0 rfl) ?_
  refine va_get (D := D) (ci := 2) (v := .int 0) (C := RJx4a65c) (T := TJx4a65c) (N := 3) hx hb hts inAJx4a65c hown hK hP 0 rfl rfl 2 (by decide) (hts _ q0) (fun _ h9 => h9) rfl dJx4a65c_add_9ea2d_17 ?_
  have hPc := hP.sub (ws' := [(h, .inr (2, [.int 1, .ref E, .int 0])), (e0, .inr (4, [f0, f1, f2, f3, f4, f5]))]) [0, 1] rfl
  have hDc := hD.sub (ws' := [(h, .inr (2, [.int 1, .ref E, .int 0])), (e0, .inr (4, [f0, f1, f2, f3, f4, f5]))]) [0, 1] (by decide) rfl
  have hFc := va_free (wc := [(h, .inr (2, [.int 1, .ref E, .int 0])), (e0, .inr (4, [f0, f1, f2, f3, f4, f5]))]) hD hS hA [0, 1] rfl
  refine va_callv (va_runV (As := [.ref e0, .ref E, .int 0]) (rest := []) ⟨hx, hb, hml, hown, hts⟩ (c_add3_Query l D dA E h e0 1 (f0) (f1) (f2) (f3) (f4) (f5) H.size ) (cwV 3 hts (ga_V q21 q22 q19 q12 q20) rfl rfl rfl (by decide +kernel) ⟨(Nat.le_of_ble_eq_true rfl), (Nat.le_of_ble_eq_true rfl)⟩) ⟨pb_blind, va_recv hK hPc (ci := 2) (q0 := 0) rfl rfl, pb_pre hK hPc hDc hZ hS hFc _⟩ rfl rfl hl.1 rfl (lv_room (Nat.le_of_ble_eq_true rfl)) dJx4a65c_add_9ea2d_20 ⟨(Nat.le_of_ble_eq_true rfl), (Nat.le_of_ble_eq_true rfl)⟩) hS (fun q _ h => hFc q h) hFc (fun u t H1 locs ht hvm hw hB hz1 hk1 hS => ?_)
  refine W.widen (k := 1) (n := 10) (Nat.le_of_ble_eq_true rfl) (Nat.le_of_ble_eq_true rfl) ?_
  obtain ⟨u2, rfl⟩ : ∃ z, z = u := ⟨_, rfl⟩
  have hw3 := hw
  clear hw
  obtain ⟨hP1, hD1⟩ := hB
  rw [ht] at hP1
  obtain ⟨hP, hD⟩ := va_join (wr := []) (w1 := [(h, .inr (2, [.int 1, .ref u2, .int 1]))]) hP hD [0, 1] [] rfl rfl (by decide) (by decide) hk1 hFc hP1 hD1
  generalize H1 = H at hP hS ⊢
  have hP : va_P D vwCl [(h, .inr (2, [.int 1, .ref u2, .int 1]))] H := hP
  have hD : va_D A [(h, .inr (2, [.int 1, .ref u2, .int 1]))] := hD
  refine lv_iconst (v := 1) hx hb dJx4a65c_add_9ea2d_23 (by decide) ?_
  refine W.widen (k := 1) (n := 10) (Nat.le_of_ble_eq_true rfl) (Nat.le_of_ble_eq_true rfl) ?_
  have hP9 := hP.sub (ws' := [(h, .inr (2, [.int 1, .ref u2, .int 1]))]) [0] rfl
  have hD9 := hD.sub (ws' := [(h, .inr (2, [.int 1, .ref u2, .int 1]))]) [0] (by decide) rfl
  exact W.zret (v := 1) hx hb hr rfl (fun t ht hW => ⟨⟨1, u2, rfl, rfl, ⟨by rw [ht]; exact hP9, hD9⟩⟩, hS.F ht⟩) hS.2.2 dJx4a65c_add_9ea2d_24

set_option maxHeartbeats 4000000 in
set_option maxRecDepth 100000 in
theorem c_clear (l : Launch) (D : va_G) (dA : Nat → ClassId) (E : Nat) (h : Nat) (sz : Nat)  : Met l yJx4a65c_clear_da8c8 (wq (.code yJx4a65c_clear_da8c8 cJx4a65c_clear_da8c8 4 none)) { frames := 0, cells := 0, slots := 0, locals := 0 } (va_Pc [.ref h] (PcB D dA E [(h, .inr (2, [.int 0, .ref E, .int 0]))] sz)) (va_Qv (fun (u : Unit) => True) (fun u t => va_P D vwCl [(h, .inr (2, [.int 1, .ref E, .int 0]))] t.heap ∧ va_D (va_A [(h, .inr (2, [.int 0, .ref E, .int 0]))] sz) [(h, .inr (2, [.int 1, .ref E, .int 0]))]) (va_A [(h, .inr (2, [.int 0, .ref E, .int 0]))] sz)) 0 0 (va_A [(h, .inr (2, [.int 0, .ref E, .int 0]))] sz) := by
  refine mb_of (Qc := fun A => va_Qv (fun (u : Unit) => True) (fun u t => va_P D vwCl [(h, .inr (2, [.int 1, .ref E, .int 0]))] t.heap ∧ va_D A [(h, .inr (2, [.int 1, .ref E, .int 0]))]) A) RJx4a65c rfl (by decide) (Nat.le_of_ble_eq_true rfl) ?_
  intro p e s m args below meth c hae hx hb hr hts hown hlocks hml hnm hP hK A hAe hD hZ hS hA ls hl
  have hl : lv_has ls 4 [(0, .ref h)] := hl
  refine lv_aload_n hx hb dJx4a65c_clear_da8c8_0 rfl (lv_at hl 0 rfl) ?_
  refine lv_dup hx hb dJx4a65c_clear_da8c8_1 rfl ?_
  refine va_get (D := D) (ci := 2) (v := .int 0) (C := RJx4a65c) (T := TJx4a65c) (N := 3) hx hb hts inAJx4a65c hown hK hP 0 rfl rfl 0 (by decide) (hts _ q17) (u_same (hts _ q18)) rfl dJx4a65c_clear_da8c8_2 ?_
  refine lv_iconst (v := 1) hx hb dJx4a65c_clear_da8c8_5 (by decide) ?_
  refine lv_iadd hx hb dJx4a65c_clear_da8c8_6 ?_
  refine lv_topi (fun x1 ex1 => ?_)
  replace ex1 : x1 = 1 := ex1.trans (by decide)
  subst ex1
  refine va_put (D := D) (ci := 2) (v := .int 1) (ty := .int) (C := RJx4a65c) (T := TJx4a65c) (N := 3) hx hb hts inAJx4a65c tyJx4a65c tyJx4a65c_ok nmJx4a65c hown hK hP hD hS 0 rfl rfl 0 (by decide) (hts _ q17) (u_same (hts _ q18)) rfl (tyJx4a65c_ok 0 (by decide)) rfl rfl (Nat.le_of_ble_eq_true rfl) dJx4a65c_clear_da8c8_7 (fun H locs hP hD hS => ?_)
  have hP : va_P D vwCl [(h, .inr (2, [.int 1, .ref E, .int 0]))] H := hP
  have hD : va_D A [(h, .inr (2, [.int 1, .ref E, .int 0]))] := hD
  refine lv_aload_n hx hb dJx4a65c_clear_da8c8_10 rfl (lv_at hl 0 rfl) ?_
  refine va_get (D := D) (ci := 2) (v := .ref E) (C := RJx4a65c) (T := TJx4a65c) (N := 3) hx hb hts inAJx4a65c hown hK hP 0 rfl rfl 1 (by decide) (hts _ q1) (fun _ h9 => h9) rfl dJx4a65c_clear_da8c8_11 ?_
  refine lv_astore_n (lv' := [(1, .ref E), (0, .ref h)]) hx hb dJx4a65c_clear_da8c8_14 rfl hl (by decide) rfl (fun ls hl => ?_)
  refine lv_aload_n hx hb dJx4a65c_clear_da8c8_15 rfl (lv_at hl 1 rfl) ?_
  refine va_get (D := D) (ci := 2) (v := .int 0) (C := RJx4a65c) (T := TJx4a65c) (N := 3) hx hb hts inAJx4a65c hown hK hP 0 rfl rfl 2 (by decide) (hts _ q0) (fun _ h9 => h9) rfl dJx4a65c_clear_da8c8_16 ?_
  refine lv_istore_n (lv' := [(2, .int 0), (1, .ref E), (0, .ref h)]) hx hb dJx4a65c_clear_da8c8_19 rfl hl (by decide) rfl (fun ls hl => ?_)
  refine lv_aload_n hx hb dJx4a65c_clear_da8c8_20 rfl (lv_at hl 2 rfl) ?_
  refine lv_iconst (v := 0) hx hb dJx4a65c_clear_da8c8_21 (by decide) ?_
  refine lv_dup_x1 hx hb dJx4a65c_clear_da8c8_22 rfl rfl ?_
  refine va_put (D := D) (ci := 2) (v := .int 0) (ty := .int) (C := RJx4a65c) (T := TJx4a65c) (N := 3) hx hb hts inAJx4a65c tyJx4a65c tyJx4a65c_ok nmJx4a65c hown hK hP hD hS 0 rfl rfl 2 (by decide) (hts _ q0) (fun _ h9 => h9) rfl (tyJx4a65c_ok 2 (by decide)) rfl rfl (Nat.le_of_ble_eq_true rfl) dJx4a65c_clear_da8c8_23 (fun H locs hP hD hS => ?_)
  have hP : va_P D vwCl [(h, .inr (2, [.int 1, .ref E, .int 0]))] H := hP
  have hD : va_D A [(h, .inr (2, [.int 1, .ref E, .int 0]))] := hD
  refine lv_istore_n (lv' := [(3, .int 0), (2, .int 0), (1, .ref E), (0, .ref h)]) hx hb dJx4a65c_clear_da8c8_26 rfl hl (by decide) rfl (fun ls hl => ?_)
  refine lv_iload_n hx hb dJx4a65c_clear_da8c8_27 rfl (lv_at hl 0 rfl) ?_
  refine lv_iload_n hx hb dJx4a65c_clear_da8c8_28 rfl (lv_at hl 1 rfl) ?_
  refine lv_icmp_ge (tgt := 42) hx hb dJx4a65c_clear_da8c8_29 (by decide) (fun _ => ?_) (fun c2 => absurd (by decide) c2)
  refine W.widen (k := 0) (n := 0) (Nat.le_of_ble_eq_true rfl) (Nat.le_of_ble_eq_true rfl) ?_
  have hP9 := hP.sub (ws' := [(h, .inr (2, [.int 1, .ref E, .int 0]))]) [0] rfl
  have hD9 := hD.sub (ws' := [(h, .inr (2, [.int 1, .ref E, .int 0]))]) [0] (by decide) rfl
  exact W.vret hx hb hr (fun t ht hW => ⟨⟨(), rfl, trivial, ⟨by rw [ht]; exact hP9, hD9⟩⟩, hS.F ht⟩) hS.2.2 dJx4a65c_clear_da8c8_42
