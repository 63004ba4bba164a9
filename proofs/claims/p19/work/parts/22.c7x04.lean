/-! CONTRACTS, general -/
set_option maxHeartbeats 4000000 in
set_option maxRecDepth 100000 in
theorem q_scoreFor (l : Launch) (D : va_G) (dA : Nat → ClassId) (E : Nat) (qo qw : Nat) (qk qa qb qd qn : Int32) (ts kl ns ms : Nat) (sz : Nat) (ht : ts ≤ 9216) (hk : kl ≤ 96) (hn : ns ≤ 30) (hm : ms ≤ 30) (hw9 : qw ≤ 9)  : Met l yX1_scoreFor (wq (.code yX1_scoreFor cX1_scoreFor 6 (some .int))) { frames := 0, cells := 0, slots := 0, locals := 0 } (va_Pc [.ref qo, .int (nI ts), .int (nI kl), .int (nI ns), .int (nI ms)] (PcB D dA E [(qo, .inr (4, [.int qk, .int qa, .int qb, .int qd, .int (nI qw), .int qn]))] sz)) (va_Qi (fun (r : Int32) (u : Unit) => r = nI (scL ts ns ms kl qw)) (fun u t => va_P D vwCl [(qo, .inr (4, [.int qk, .int qa, .int qb, .int qd, .int (nI qw), .int qn]))] t.heap ∧ va_D (va_A [(qo, .inr (4, [.int qk, .int qa, .int qb, .int qd, .int (nI qw), .int qn]))] sz) [(qo, .inr (4, [.int qk, .int qa, .int qb, .int qd, .int (nI qw), .int qn]))]) (va_A [(qo, .inr (4, [.int qk, .int qa, .int qb, .int qd, .int (nI qw), .int qn]))] sz)) 0 0 (va_A [(qo, .inr (4, [.int qk, .int qa, .int qb, .int qd, .int (nI qw), .int qn]))] sz) := by
  refine mb_of (Qc := fun A => va_Qi (fun (r : Int32) (u : Unit) => r = nI (scL ts ns ms kl qw)) (fun u t => va_P D vwCl [(qo, .inr (4, [.int qk, .int qa, .int qb, .int qd, .int (nI qw), .int qn]))] t.heap ∧ va_D A [(qo, .inr (4, [.int qk, .int qa, .int qb, .int qd, .int (nI qw), .int qn]))]) A) RX1 rfl (by decide) (Nat.le_of_ble_eq_true rfl) ?_
  intro p e s m args below meth c hae hx hb hr hts hown hlocks hml hnm hP hK A hAe hD hZ hS hA ls hl
  replace hl : lv_has ls 6 [(0, .ref qo), (1, .int (nI ts)), (2, .int (nI kl)), (3, .int (nI ns)), (4, .int (nI ms))] := hl
  have hdv0 : 0 < (ms + 1) * (kl + 4) := Nat.mul_pos (by omega) (by omega)
  have hdv1 := div31 hm hk
  have hmu := mul31 ht hn
  refine lv_iload hx hb dX1_scoreFor_0 (lv_at hl 4 rfl) ?_
  refine lv_iconst (v := 1) hx hb dX1_scoreFor_2 (by decide) ?_
  refine lv_iadd hx hb dX1_scoreFor_3 ?_
  refine lv_topi (fun x1 ex1 => ?_)
  obtain rfl : x1 = nI (ms + 1) := ex1.trans (nI_add ms 1)
  refine lv_iload_n hx hb dX1_scoreFor_4 rfl (lv_at hl 2 rfl) ?_
  refine lv_iconst (v := 4) hx hb dX1_scoreFor_5 (by decide) ?_
  refine lv_iadd hx hb dX1_scoreFor_6 ?_
  refine lv_topi (fun x2 ex2 => ?_)
  obtain rfl : x2 = nI (kl + 4) := ex2.trans (nI_add kl 4)
  refine lv_imul hx hb dX1_scoreFor_7 ?_
  refine lv_topi (fun x3 ex3 => ?_)
  obtain rfl : x3 = nI ((ms + 1) * (kl + 4)) := ex3.trans (pk_mul (ms + 1) (kl + 4))
  refine lv_istore (lv' := [(5, .int (nI ((ms + 1) * (kl + 4)))), (0, .ref qo), (1, .int (nI ts)), (2, .int (nI kl)), (3, .int (nI ns)), (4, .int (nI ms))]) hx hb dX1_scoreFor_8 hl (by decide) rfl (fun ls hl => ?_)
  refine lv_iload hx hb dX1_scoreFor_10 (lv_at hl 0 rfl) ?_
  refine lv_if_gt (tgt := 17) hx hb dX1_scoreFor_12 (by decide) (fun _ => ?_) (fun c4 => absurd ((nI_ltI (a := 0) (b := ((ms + 1) * (kl + 4))) (by omega) (by omega)).mpr (by omega)) c4)
  refine lv_bipush (v := 100) hx hb dX1_scoreFor_17 (by decide) ?_
  refine lv_iload_n hx hb dX1_scoreFor_19 rfl (lv_at hl 2 rfl) ?_
  refine lv_imul hx hb dX1_scoreFor_20 ?_
  refine lv_topi (fun x5 ex5 => ?_)
  obtain rfl : x5 = nI (100 * ts) := ex5.trans (pk_mul 100 ts)
  refine lv_iload_n hx hb dX1_scoreFor_21 rfl (lv_at hl 4 rfl) ?_
  refine lv_iconst (v := 1) hx hb dX1_scoreFor_22 (by decide) ?_
  refine lv_iadd hx hb dX1_scoreFor_23 ?_
  refine lv_topi (fun x6 ex6 => ?_)
  obtain rfl : x6 = nI (ns + 1) := ex6.trans (nI_add ns 1)
  refine lv_imul hx hb dX1_scoreFor_24 ?_
  refine lv_topi (fun x7 ex7 => ?_)
  obtain rfl : x7 = nI ((100 * ts) * (ns + 1)) := ex7.trans (pk_mul (100 * ts) (ns + 1))
  refine lv_iload hx hb dX1_scoreFor_25 (lv_at hl 0 rfl) ?_
  refine lv_idiv hx hb dX1_scoreFor_27 (nI_ne0 hdv0 hdv1) ?_
  refine lv_topi (fun x8 ex8 => ?_)
  obtain rfl : x8 = nI (((100 * ts) * (ns + 1)) / ((ms + 1) * (kl + 4))) := ex8.trans (pk_div (a := ((100 * ts) * (ns + 1))) (d := ((ms + 1) * (kl + 4))) hmu hdv0 hdv1)
  refine lv_aload_n hx hb dX1_scoreFor_28 rfl (lv_at hl 1 rfl) ?_
  refine va_get (D := D) (ci := 4) (v := .int (nI qw)) (C := RX1) (T := TX1) (N := 6) hx hb hts inAX1 hown hK hP 0 rfl rfl 4 (by decide) (hts _ q305) (fun _ h9 => h9) rfl dX1_scoreFor_29 ?_
  refine lv_imul hx hb dX1_scoreFor_32 ?_
  refine lv_topi (fun x9 ex9 => ?_)
  obtain rfl : x9 = nI ((((100 * ts) * (ns + 1)) / ((ms + 1) * (kl + 4))) * qw) := ex9.trans (pk_mul (((100 * ts) * (ns + 1)) / ((ms + 1) * (kl + 4))) qw)
  refine W.widen (k := 0) (n := 0) (Nat.le_of_ble_eq_true rfl) (Nat.le_of_ble_eq_true rfl) ?_
  have hP9 := hP.sub (ws' := [(qo, .inr (4, [.int qk, .int qa, .int qb, .int qd, .int (nI qw), .int qn]))]) [0] rfl
  have hD9 := hD.sub (ws' := [(qo, .inr (4, [.int qk, .int qa, .int qb, .int qd, .int (nI qw), .int qn]))]) [0] (by decide) rfl
  exact W.iret (v := (nI ((((100 * ts) * (ns + 1)) / ((ms + 1) * (kl + 4))) * qw))) hx hb hr (fun t ht hW => ⟨⟨(nI ((((100 * ts) * (ns + 1)) / ((ms + 1) * (kl + 4))) * qw)), (), rfl, rfl, ⟨by rw [ht]; exact hP9, hD9⟩⟩, hS.F ht⟩) hS.2.2 dX1_scoreFor_33

set_option maxHeartbeats 4000000 in
set_option maxRecDepth 100000 in
theorem q_joinScores (l : Launch) (D : va_G) (dA : Nat → ClassId) (E : Nat) (qo : Nat) (qk qa qb qd qw qn : Int32) (p0 p1 : Int32) (sz : Nat)   : Met l yX1_joinScores (wq (.code yX1_joinScores cX1_joinScores 4 (some .int))) { frames := 0, cells := 0, slots := 0, locals := 0 } (va_Pc [.ref qo, .int p0, .int p1] (PcB D dA E [(qo, .inr (4, [.int qk, .int qa, .int qb, .int qd, .int qw, .int qn]))] sz)) (va_Qi (fun (r : Int32) (u : Unit) => r = jsF qk p0 p1) (fun u t => va_P D vwCl [(qo, .inr (4, [.int qk, .int qa, .int qb, .int qd, .int qw, .int qn]))] t.heap ∧ va_D (va_A [(qo, .inr (4, [.int qk, .int qa, .int qb, .int qd, .int qw, .int qn]))] sz) [(qo, .inr (4, [.int qk, .int qa, .int qb, .int qd, .int qw, .int qn]))]) (va_A [(qo, .inr (4, [.int qk, .int qa, .int qb, .int qd, .int qw, .int qn]))] sz)) 0 0 (va_A [(qo, .inr (4, [.int qk, .int qa, .int qb, .int qd, .int qw, .int qn]))] sz) := by
  refine mb_of (Qc := fun A => va_Qi (fun (r : Int32) (u : Unit) => r = jsF qk p0 p1) (fun u t => va_P D vwCl [(qo, .inr (4, [.int qk, .int qa, .int qb, .int qd, .int qw, .int qn]))] t.heap ∧ va_D A [(qo, .inr (4, [.int qk, .int qa, .int qb, .int qd, .int qw, .int qn]))]) A) RX1 rfl (by decide) (Nat.le_of_ble_eq_true rfl) ?_
  intro p e s m args below meth c hae hx hb hr hts hown hlocks hml hnm hP hK A hAe hD hZ hS hA ls hl
  replace hl : lv_has ls 4 [(0, .ref qo), (1, .int p0), (2, .int p1)] := hl
  refine lv_iload_n hx hb dX1_joinScores_0 rfl (lv_at hl 1 rfl) ?_
  refine lv_iconst (v := (-1)) hx hb dX1_joinScores_1 (by decide) ?_
  refine lv_icmp_eq (tgt := 14) hx hb dX1_joinScores_2 (by decide) (fun c1 => ?_) (fun c1 => ?_)
  · refine lv_iconst (v := 0) hx hb dX1_joinScores_14 (by decide) ?_
    refine lv_istore_n (lv' := [(3, .int 0), (0, .ref qo), (1, .int p0), (2, .int p1)]) hx hb dX1_joinScores_15 rfl hl (by decide) rfl (fun ls hl => ?_)
    refine lv_aload_n hx hb dX1_joinScores_16 rfl (lv_at hl 1 rfl) ?_
    refine va_get (D := D) (ci := 4) (v := .int qk) (C := RX1) (T := TX1) (N := 6) hx hb hts inAX1 hown hK hP 0 rfl rfl 0 (by decide) (hts _ q301) (fun _ h9 => h9) rfl dX1_joinScores_17 ?_
    refine lv_bipush (v := 120) hx hb dX1_joinScores_20 (by decide) ?_
    refine lv_icmp_ne (tgt := 36) hx hb dX1_joinScores_22 (by decide) (fun c2 => ?_) (fun c2 => ?_)
    · refine lv_iload_n hx hb dX1_joinScores_36 rfl (lv_at hl 0 rfl) ?_
      refine lv_if_eq (tgt := 44) hx hb dX1_joinScores_37 (by decide) (fun _ => ?_) (fun c3 => absurd (by decide) c3)
      refine lv_aload_n hx hb dX1_joinScores_44 rfl (lv_at hl 1 rfl) ?_
      refine va_get (D := D) (ci := 4) (v := .int qk) (C := RX1) (T := TX1) (N := 6) hx hb hts inAX1 hown hK hP 0 rfl rfl 0 (by decide) (hts _ q301) (fun _ h9 => h9) rfl dX1_joinScores_45 ?_
      refine lv_bipush (v := 97) hx hb dX1_joinScores_48 (by decide) ?_
      refine lv_icmp_ne (tgt := 55) hx hb dX1_joinScores_50 (by decide) (fun c4 => ?_) (fun c4 => ?_)
      · refine lv_aload_n hx hb dX1_joinScores_55 rfl (lv_at hl 1 rfl) ?_
        refine va_get (D := D) (ci := 4) (v := .int qk) (C := RX1) (T := TX1) (N := 6) hx hb hts inAX1 hown hK hP 0 rfl rfl 0 (by decide) (hts _ q301) (fun _ h9 => h9) rfl dX1_joinScores_56 ?_
        refine lv_bipush (v := 105) hx hb dX1_joinScores_59 (by decide) ?_
        refine lv_icmp_ne (tgt := 66) hx hb dX1_joinScores_61 (by decide) (fun c5 => ?_) (fun c5 => ?_)
        · refine lv_iload_n hx hb dX1_joinScores_66 rfl (lv_at hl 2 rfl) ?_
          refine lv_iconst (v := (-1)) hx hb dX1_joinScores_67 (by decide) ?_
          refine lv_icmp_ne (tgt := 75) hx hb dX1_joinScores_68 (by decide) (fun c6 => absurd c1 c6) (fun _ => ?_)
          refine lv_iload_n hx hb dX1_joinScores_71 rfl (lv_at hl 3 rfl) ?_
          refine lv_goto (tgt := 76) hx hb dX1_joinScores_72 (by decide) ?_
          refine W.widen (k := 0) (n := 0) (Nat.le_of_ble_eq_true rfl) (Nat.le_of_ble_eq_true rfl) ?_
          have hP9 := hP.sub (ws' := [(qo, .inr (4, [.int qk, .int qa, .int qb, .int qd, .int qw, .int qn]))]) [0] rfl
          have hD9 := hD.sub (ws' := [(qo, .inr (4, [.int qk, .int qa, .int qb, .int qd, .int qw, .int qn]))]) [0] (by decide) rfl
          exact W.iret (v := p1) hx hb hr (fun t ht hW => ⟨⟨p1, (), rfl, (show _ = jsF qk p0 p1 from by simp [jsF, c1, c2, c4, c5]), ⟨by rw [ht]; exact hP9, hD9⟩⟩, hS.F ht⟩) hS.2.2 dX1_joinScores_76
        · refine lv_iload_n hx hb dX1_joinScores_64 rfl (lv_at hl 2 rfl) ?_
          refine W.widen (k := 0) (n := 0) (Nat.le_of_ble_eq_true rfl) (Nat.le_of_ble_eq_true rfl) ?_
          have hP9 := hP.sub (ws' := [(qo, .inr (4, [.int qk, .int qa, .int qb, .int qd, .int qw, .int qn]))]) [0] rfl
          have hD9 := hD.sub (ws' := [(qo, .inr (4, [.int qk, .int qa, .int qb, .int qd, .int qw, .int qn]))]) [0] (by decide) rfl
          exact W.iret (v := p0) hx hb hr (fun t ht hW => ⟨⟨p0, (), rfl, (show _ = jsF qk p0 p1 from by simp [jsF, c1, c2, c4, c5]), ⟨by rw [ht]; exact hP9, hD9⟩⟩, hS.F ht⟩) hS.2.2 dX1_joinScores_65
      · refine lv_iconst (v := (-1)) hx hb dX1_joinScores_53 (by decide) ?_
        refine W.widen (k := 0) (n := 0) (Nat.le_of_ble_eq_true rfl) (Nat.le_of_ble_eq_true rfl) ?_
        have hP9 := hP.sub (ws' := [(qo, .inr (4, [.int qk, .int qa, .int qb, .int qd, .int qw, .int qn]))]) [0] rfl
        have hD9 := hD.sub (ws' := [(qo, .inr (4, [.int qk, .int qa, .int qb, .int qd, .int qw, .int qn]))]) [0] (by decide) rfl
        exact W.iret (v := (-1)) hx hb hr (fun t ht hW => ⟨⟨(-1), (), rfl, (show _ = jsF qk p0 p1 from by simp [jsF, c1, c2, c4]), ⟨by rw [ht]; exact hP9, hD9⟩⟩, hS.F ht⟩) hS.2.2 dX1_joinScores_54
    · refine lv_iload_n hx hb dX1_joinScores_25 rfl (lv_at hl 3 rfl) ?_
      refine lv_iconst (v := (-1)) hx hb dX1_joinScores_26 (by decide) ?_
      refine lv_icmp_ne (tgt := 34) hx hb dX1_joinScores_27 (by decide) (fun c7 => ?_) (fun c7 => ?_)
      · refine lv_iconst (v := (-1)) hx hb dX1_joinScores_34 (by decide) ?_
        refine W.widen (k := 0) (n := 0) (Nat.le_of_ble_eq_true rfl) (Nat.le_of_ble_eq_true rfl) ?_
        have hP9 := hP.sub (ws' := [(qo, .inr (4, [.int qk, .int qa, .int qb, .int qd, .int qw, .int qn]))]) [0] rfl
        have hD9 := hD.sub (ws' := [(qo, .inr (4, [.int qk, .int qa, .int qb, .int qd, .int qw, .int qn]))]) [0] (by decide) rfl
        exact W.iret (v := (-1)) hx hb hr (fun t ht hW => ⟨⟨(-1), (), rfl, (show _ = jsF qk p0 p1 from by simp [jsF, c1, c2, c7]), ⟨by rw [ht]; exact hP9, hD9⟩⟩, hS.F ht⟩) hS.2.2 dX1_joinScores_35
      · refine lv_iload_n hx hb dX1_joinScores_30 rfl (lv_at hl 2 rfl) ?_
        refine lv_goto (tgt := 35) hx hb dX1_joinScores_31 (by decide) ?_
        refine W.widen (k := 0) (n := 0) (Nat.le_of_ble_eq_true rfl) (Nat.le_of_ble_eq_true rfl) ?_
        have hP9 := hP.sub (ws' := [(qo, .inr (4, [.int qk, .int qa, .int qb, .int qd, .int qw, .int qn]))]) [0] rfl
        have hD9 := hD.sub (ws' := [(qo, .inr (4, [.int qk, .int qa, .int qb, .int qd, .int qw, .int qn]))]) [0] (by decide) rfl
        exact W.iret (v := p0) hx hb hr (fun t ht hW => ⟨⟨p0, (), rfl, (show _ = jsF qk p0 p1 from by simp [jsF, c1, c2, c7]), ⟨by rw [ht]; exact hP9, hD9⟩⟩, hS.F ht⟩) hS.2.2 dX1_joinScores_35
  · refine lv_iload_n hx hb dX1_joinScores_5 rfl (lv_at hl 2 rfl) ?_
    refine lv_iconst (v := (-1)) hx hb dX1_joinScores_6 (by decide) ?_
    refine lv_icmp_eq (tgt := 14) hx hb dX1_joinScores_7 (by decide) (fun c8 => ?_) (fun c8 => ?_)
    · refine lv_iconst (v := 0) hx hb dX1_joinScores_14 (by decide) ?_
      refine lv_istore_n (lv' := [(3, .int 0), (0, .ref qo), (1, .int p0), (2, .int p1)]) hx hb dX1_joinScores_15 rfl hl (by decide) rfl (fun ls hl => ?_)
      refine lv_aload_n hx hb dX1_joinScores_16 rfl (lv_at hl 1 rfl) ?_
      refine va_get (D := D) (ci := 4) (v := .int qk) (C := RX1) (T := TX1) (N := 6) hx hb hts inAX1 hown hK hP 0 rfl rfl 0 (by decide) (hts _ q301) (fun _ h9 => h9) rfl dX1_joinScores_17 ?_
      refine lv_bipush (v := 120) hx hb dX1_joinScores_20 (by decide) ?_
      refine lv_icmp_ne (tgt := 36) hx hb dX1_joinScores_22 (by decide) (fun c9 => ?_) (fun c9 => ?_)
      · refine lv_iload_n hx hb dX1_joinScores_36 rfl (lv_at hl 0 rfl) ?_
        refine lv_if_eq (tgt := 44) hx hb dX1_joinScores_37 (by decide) (fun _ => ?_) (fun c10 => absurd (by decide) c10)
        refine lv_aload_n hx hb dX1_joinScores_44 rfl (lv_at hl 1 rfl) ?_
        refine va_get (D := D) (ci := 4) (v := .int qk) (C := RX1) (T := TX1) (N := 6) hx hb hts inAX1 hown hK hP 0 rfl rfl 0 (by decide) (hts _ q301) (fun _ h9 => h9) rfl dX1_joinScores_45 ?_
        refine lv_bipush (v := 97) hx hb dX1_joinScores_48 (by decide) ?_
        refine lv_icmp_ne (tgt := 55) hx hb dX1_joinScores_50 (by decide) (fun c11 => ?_) (fun c11 => ?_)
        · refine lv_aload_n hx hb dX1_joinScores_55 rfl (lv_at hl 1 rfl) ?_
          refine va_get (D := D) (ci := 4) (v := .int qk) (C := RX1) (T := TX1) (N := 6) hx hb hts inAX1 hown hK hP 0 rfl rfl 0 (by decide) (hts _ q301) (fun _ h9 => h9) rfl dX1_joinScores_56 ?_
          refine lv_bipush (v := 105) hx hb dX1_joinScores_59 (by decide) ?_
          refine lv_icmp_ne (tgt := 66) hx hb dX1_joinScores_61 (by decide) (fun c12 => ?_) (fun c12 => ?_)
          · refine lv_iload_n hx hb dX1_joinScores_66 rfl (lv_at hl 2 rfl) ?_
            refine lv_iconst (v := (-1)) hx hb dX1_joinScores_67 (by decide) ?_
            refine lv_icmp_ne (tgt := 75) hx hb dX1_joinScores_68 (by decide) (fun _ => ?_) (fun c13 => absurd c13 c1)
            refine lv_iload_n hx hb dX1_joinScores_75 rfl (lv_at hl 2 rfl) ?_
            refine W.widen (k := 0) (n := 0) (Nat.le_of_ble_eq_true rfl) (Nat.le_of_ble_eq_true rfl) ?_
            have hP9 := hP.sub (ws' := [(qo, .inr (4, [.int qk, .int qa, .int qb, .int qd, .int qw, .int qn]))]) [0] rfl
            have hD9 := hD.sub (ws' := [(qo, .inr (4, [.int qk, .int qa, .int qb, .int qd, .int qw, .int qn]))]) [0] (by decide) rfl
            exact W.iret (v := p0) hx hb hr (fun t ht hW => ⟨⟨p0, (), rfl, (show _ = jsF qk p0 p1 from by simp [jsF, c1, c8, c9, c11, c12]), ⟨by rw [ht]; exact hP9, hD9⟩⟩, hS.F ht⟩) hS.2.2 dX1_joinScores_76
          · refine lv_iload_n hx hb dX1_joinScores_64 rfl (lv_at hl 2 rfl) ?_
            refine W.widen (k := 0) (n := 0) (Nat.le_of_ble_eq_true rfl) (Nat.le_of_ble_eq_true rfl) ?_
            have hP9 := hP.sub (ws' := [(qo, .inr (4, [.int qk, .int qa, .int qb, .int qd, .int qw, .int qn]))]) [0] rfl
            have hD9 := hD.sub (ws' := [(qo, .inr (4, [.int qk, .int qa, .int qb, .int qd, .int qw, .int qn]))]) [0] (by decide) rfl
            exact W.iret (v := p0) hx hb hr (fun t ht hW => ⟨⟨p0, (), rfl, (show _ = jsF qk p0 p1 from by simp [jsF, c1, c8, c9, c11, c12]), ⟨by rw [ht]; exact hP9, hD9⟩⟩, hS.F ht⟩) hS.2.2 dX1_joinScores_65
        · refine lv_iconst (v := (-1)) hx hb dX1_joinScores_53 (by decide) ?_
          refine W.widen (k := 0) (n := 0) (Nat.le_of_ble_eq_true rfl) (Nat.le_of_ble_eq_true rfl) ?_
          have hP9 := hP.sub (ws' := [(qo, .inr (4, [.int qk, .int qa, .int qb, .int qd, .int qw, .int qn]))]) [0] rfl
          have hD9 := hD.sub (ws' := [(qo, .inr (4, [.int qk, .int qa, .int qb, .int qd, .int qw, .int qn]))]) [0] (by decide) rfl
          exact W.iret (v := (-1)) hx hb hr (fun t ht hW => ⟨⟨(-1), (), rfl, (show _ = jsF qk p0 p1 from by simp [jsF, c1, c8, c9, c11]), ⟨by rw [ht]; exact hP9, hD9⟩⟩, hS.F ht⟩) hS.2.2 dX1_joinScores_54
      · refine lv_iload_n hx hb dX1_joinScores_25 rfl (lv_at hl 3 rfl) ?_
        refine lv_iconst (v := (-1)) hx hb dX1_joinScores_26 (by decide) ?_
        refine lv_icmp_ne (tgt := 34) hx hb dX1_joinScores_27 (by decide) (fun c14 => absurd c8 c14) (fun _ => ?_)
        refine lv_iload_n hx hb dX1_joinScores_30 rfl (lv_at hl 2 rfl) ?_
        refine lv_goto (tgt := 35) hx hb dX1_joinScores_31 (by decide) ?_
        refine W.widen (k := 0) (n := 0) (Nat.le_of_ble_eq_true rfl) (Nat.le_of_ble_eq_true rfl) ?_
        have hP9 := hP.sub (ws' := [(qo, .inr (4, [.int qk, .int qa, .int qb, .int qd, .int qw, .int qn]))]) [0] rfl
        have hD9 := hD.sub (ws' := [(qo, .inr (4, [.int qk, .int qa, .int qb, .int qd, .int qw, .int qn]))]) [0] (by decide) rfl
        exact W.iret (v := p0) hx hb hr (fun t ht hW => ⟨⟨p0, (), rfl, (show _ = jsF qk p0 p1 from by simp [jsF, c1, c8, c9]), ⟨by rw [ht]; exact hP9, hD9⟩⟩, hS.F ht⟩) hS.2.2 dX1_joinScores_35
    · refine lv_iconst (v := 1) hx hb dX1_joinScores_10 (by decide) ?_
      refine lv_goto (tgt := 15) hx hb dX1_joinScores_11 (by decide) ?_
      refine lv_istore_n (lv' := [(3, .int 1), (0, .ref qo), (1, .int p0), (2, .int p1)]) hx hb dX1_joinScores_15 rfl hl (by decide) rfl (fun ls hl => ?_)
      refine lv_aload_n hx hb dX1_joinScores_16 rfl (lv_at hl 1 rfl) ?_
      refine va_get (D := D) (ci := 4) (v := .int qk) (C := RX1) (T := TX1) (N := 6) hx hb hts inAX1 hown hK hP 0 rfl rfl 0 (by decide) (hts _ q301) (fun _ h9 => h9) rfl dX1_joinScores_17 ?_
      refine lv_bipush (v := 120) hx hb dX1_joinScores_20 (by decide) ?_
      refine lv_icmp_ne (tgt := 36) hx hb dX1_joinScores_22 (by decide) (fun c15 => ?_) (fun c15 => ?_)
      · refine lv_iload_n hx hb dX1_joinScores_36 rfl (lv_at hl 0 rfl) ?_
        refine lv_if_eq (tgt := 44) hx hb dX1_joinScores_37 (by decide) (fun c16 => absurd c16 (by decide)) (fun _ => ?_)
        refine lv_iload_n hx hb dX1_joinScores_40 rfl (lv_at hl 2 rfl) ?_
        refine lv_iload_n hx hb dX1_joinScores_41 rfl (lv_at hl 3 rfl) ?_
        refine lv_iadd hx hb dX1_joinScores_42 ?_
        refine W.widen (k := 0) (n := 0) (Nat.le_of_ble_eq_true rfl) (Nat.le_of_ble_eq_true rfl) ?_
        have hP9 := hP.sub (ws' := [(qo, .inr (4, [.int qk, .int qa, .int qb, .int qd, .int qw, .int qn]))]) [0] rfl
        have hD9 := hD.sub (ws' := [(qo, .inr (4, [.int qk, .int qa, .int qb, .int qd, .int qw, .int qn]))]) [0] (by decide) rfl
        exact W.iret (v := (p0 + p1)) hx hb hr (fun t ht hW => ⟨⟨(p0 + p1), (), rfl, (show _ = jsF qk p0 p1 from by simp [jsF, c1, c8, c15]), ⟨by rw [ht]; exact hP9, hD9⟩⟩, hS.F ht⟩) hS.2.2 dX1_joinScores_43
      · refine lv_iload_n hx hb dX1_joinScores_25 rfl (lv_at hl 3 rfl) ?_
        refine lv_iconst (v := (-1)) hx hb dX1_joinScores_26 (by decide) ?_
        refine lv_icmp_ne (tgt := 34) hx hb dX1_joinScores_27 (by decide) (fun _ => ?_) (fun c17 => absurd c17 c8)
        refine lv_iconst (v := (-1)) hx hb dX1_joinScores_34 (by decide) ?_
        refine W.widen (k := 0) (n := 0) (Nat.le_of_ble_eq_true rfl) (Nat.le_of_ble_eq_true rfl) ?_
        have hP9 := hP.sub (ws' := [(qo, .inr (4, [.int qk, .int qa, .int qb, .int qd, .int qw, .int qn]))]) [0] rfl
        have hD9 := hD.sub (ws' := [(qo, .inr (4, [.int qk, .int qa, .int qb, .int qd, .int qw, .int qn]))]) [0] (by decide) rfl
        exact W.iret (v := (-1)) hx hb hr (fun t ht hW => ⟨⟨(-1), (), rfl, (show _ = jsF qk p0 p1 from by simp [jsF, c1, c8, c15]), ⟨by rw [ht]; exact hP9, hD9⟩⟩, hS.F ht⟩) hS.2.2 dX1_joinScores_35
