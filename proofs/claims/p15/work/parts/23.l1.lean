/-! CONTRACTS, general -/
theorem q693 : (.selects RX8 yX8_setBound yX8_setBound : Cond) ∈ WA := WA_of (tb_5 66 rfl) rfl
theorem q694 : (.code yX8_setBound cX8_setBound 3 (some .int) : Cond) ∈ WA := WA_of (tb_5 67 rfl) rfl
theorem q695 : (.methodLink RL 107 yX8_setBound : Cond) ∈ WA := WA_of (tb_5 64 rfl) rfl
theorem q696 : (.instanceMethod yX8_setBound : Cond) ∈ WA := WA_of (tb_5 65 rfl) rfl
theorem q697 : (.classLink RL 13 "java/lang/IllegalArgumentException" : Cond) ∈ WA := WA_of (tb_1 232 rfl) rfl
theorem q698 : (.selects RX8 yX8_length yX8_length : Cond) ∈ WA := WA_of (tb_3 142 rfl) rfl
theorem q699 : (.code yX8_length cX8_length 2 (some .int) : Cond) ∈ WA := WA_of (tb_3 143 rfl) rfl
theorem q700 : (.methodLink RL 38 yX8_length : Cond) ∈ WA := WA_of (tb_3 140 rfl) rfl
theorem q701 : (.instanceMethod yX8_length : Cond) ∈ WA := WA_of (tb_3 141 rfl) rfl
theorem q702 : (.classLink RL 21 "java/lang/IndexOutOfBoundsException" : Cond) ∈ WA := WA_of (tb_2 174 rfl) rfl
theorem q703 : (.selects RX8 yX8_standing yX8_standing : Cond) ∈ WA := WA_of (tb_3 153 rfl) rfl
theorem q704 : (.code yX8_standing cX8_standing 4 (some .int) : Cond) ∈ WA := WA_of (tb_3 154 rfl) rfl
theorem q705 : (.methodLink RL 41 yX8_standing : Cond) ∈ WA := WA_of (tb_3 151 rfl) rfl
theorem q706 : (.instanceMethod yX8_standing : Cond) ∈ WA := WA_of (tb_3 152 rfl) rfl
theorem q707 : (.selects RX8 yX8_click yX8_click : Cond) ∈ WA := WA_of (tb_5 59 rfl) rfl
theorem q708 : (.code yX8_click cX8_click 3 (some .int) : Cond) ∈ WA := WA_of (tb_5 60 rfl) rfl
theorem q709 : (.methodLink RL 104 yX8_click : Cond) ∈ WA := WA_of (tb_5 57 rfl) rfl
theorem q710 : (.instanceMethod yX8_click : Cond) ∈ WA := WA_of (tb_5 58 rfl) rfl
theorem q711 : (.selects RX8 yX8_state yX8_state : Cond) ∈ WA := WA_of (tb_3 135 rfl) rfl
theorem q712 : (.code yX8_state cX8_state 2 (some .char) : Cond) ∈ WA := WA_of (tb_3 136 rfl) rfl
theorem q713 : (.methodLink RL 35 yX8_state : Cond) ∈ WA := WA_of (tb_3 133 rfl) rfl
theorem q714 : (.instanceMethod yX8_state : Cond) ∈ WA := WA_of (tb_3 134 rfl) rfl
theorem q715 : (.selects RX8 yX8_remove yX8_remove : Cond) ∈ WA := WA_of (tb_3 121 rfl) rfl
theorem q716 : (.code yX8_remove cX8_remove 3 (some .char) : Cond) ∈ WA := WA_of (tb_3 122 rfl) rfl
theorem q717 : (.methodLink RL 31 yX8_remove : Cond) ∈ WA := WA_of (tb_3 119 rfl) rfl
theorem q718 : (.instanceMethod yX8_remove : Cond) ∈ WA := WA_of (tb_3 120 rfl) rfl
theorem q719 : (.classLink RL 15 "java/lang/IllegalStateException" : Cond) ∈ WA := WA_of (tb_1 233 rfl) rfl
theorem q720 : (.selects RX8 yX8_isOnReplica yX8_isOnReplica : Cond) ∈ WA := WA_of (tb_3 209 rfl) rfl
theorem q721 : (.code yX8_isOnReplica cX8_isOnReplica 2 (some .boolean) : Cond) ∈ WA := WA_of (tb_3 210 rfl) rfl
theorem q722 : (.methodLink RL 54 yX8_isOnReplica : Cond) ∈ WA := WA_of (tb_3 207 rfl) rfl
theorem q723 : (.instanceMethod yX8_isOnReplica : Cond) ∈ WA := WA_of (tb_3 208 rfl) rfl
theorem q724 : (.selects RX8 yX8_size yX8_size : Cond) ∈ WA := WA_of (tb_3 161 rfl) rfl
theorem q725 : (.code yX8_size cX8_size 2 (some .int) : Cond) ∈ WA := WA_of (tb_3 162 rfl) rfl
theorem q726 : (.methodLink RL 45 yX8_size : Cond) ∈ WA := WA_of (tb_3 159 rfl) rfl
theorem q727 : (.instanceMethod yX8_size : Cond) ∈ WA := WA_of (tb_3 160 rfl) rfl
theorem q728 : (.selects RX8 yX8_merge yX8_merge : Cond) ∈ WA := WA_of (tb_3 177 rfl) rfl
theorem q729 : (.code yX8_merge cX8_merge 2 (some .int) : Cond) ∈ WA := WA_of (tb_3 178 rfl) rfl
theorem q730 : (.methodLink RL 48 yX8_merge : Cond) ∈ WA := WA_of (tb_3 175 rfl) rfl
theorem q731 : (.instanceMethod yX8_merge : Cond) ∈ WA := WA_of (tb_3 176 rfl) rfl
theorem q732 : (.selects RX8 yX8_follow yX8_follow : Cond) ∈ WA := WA_of (tb_3 193 rfl) rfl
theorem q733 : (.code yX8_follow cX8_follow 1 (some .int) : Cond) ∈ WA := WA_of (tb_3 194 rfl) rfl
theorem q734 : (.methodLink RL 51 yX8_follow : Cond) ∈ WA := WA_of (tb_3 191 rfl) rfl
theorem q735 : (.instanceMethod yX8_follow : Cond) ∈ WA := WA_of (tb_3 192 rfl) rfl
theorem q736 : (.selects RX8 yX8_seen yX8_seen : Cond) ∈ WA := WA_of (tb_4 25 rfl) rfl
theorem q737 : (.code yX8_seen cX8_seen 2 (some .int) : Cond) ∈ WA := WA_of (tb_4 26 rfl) rfl
theorem q738 : (.methodLink RL 64 yX8_seen : Cond) ∈ WA := WA_of (tb_4 23 rfl) rfl
theorem q739 : (.instanceMethod yX8_seen : Cond) ∈ WA := WA_of (tb_4 24 rfl) rfl
theorem q740 : (.selects RX8 yX8_addStep yX8_addStep : Cond) ∈ WA := WA_of (tb_1 236 rfl) rfl
theorem q741 : (.code yX8_addStep cX8_addStep 4 (some .int) : Cond) ∈ WA := WA_of (tb_1 237 rfl) rfl
theorem q742 : (.methodLink RL 7 yX8_addStep : Cond) ∈ WA := WA_of (tb_1 234 rfl) rfl
theorem q743 : (.instanceMethod yX8_addStep : Cond) ∈ WA := WA_of (tb_1 235 rfl) rfl
theorem q744 : (.selects RX8 yX8_ask yX8_ask : Cond) ∈ WA := WA_of (tb_4 36 rfl) rfl
theorem q745 : (.code yX8_ask cX8_ask 6 (some .int) : Cond) ∈ WA := WA_of (tb_4 37 rfl) rfl
theorem q746 : (.methodLink RL 67 yX8_ask : Cond) ∈ WA := WA_of (tb_4 34 rfl) rfl
theorem q747 : (.instanceMethod yX8_ask : Cond) ∈ WA := WA_of (tb_4 35 rfl) rfl
theorem q748 : (.selects RX8 yX8_join yX8_join : Cond) ∈ WA := WA_of (tb_4 78 rfl) rfl
theorem q749 : (.code yX8_join cX8_join 5 (some .int) : Cond) ∈ WA := WA_of (tb_4 79 rfl) rfl
theorem q750 : (.methodLink RL 71 yX8_join : Cond) ∈ WA := WA_of (tb_4 76 rfl) rfl
theorem q751 : (.instanceMethod yX8_join : Cond) ∈ WA := WA_of (tb_4 77 rfl) rfl
theorem q752 : (.selects RX8 yX8_openView yX8_openView : Cond) ∈ WA := WA_of (tb_3 217 rfl) rfl
theorem q753 : (.code yX8_openView cX8_openView 3 (some .int) : Cond) ∈ WA := WA_of (tb_3 218 rfl) rfl
theorem q754 : (.methodLink RL 58 yX8_openView : Cond) ∈ WA := WA_of (tb_3 215 rfl) rfl
theorem q755 : (.instanceMethod yX8_openView : Cond) ∈ WA := WA_of (tb_3 216 rfl) rfl
theorem q756 : (.selects RX8 yX8_closeView yX8_closeView : Cond) ∈ WA := WA_of (tb_4 4 rfl) rfl
theorem q757 : (.code yX8_closeView cX8_closeView 3 (some .int) : Cond) ∈ WA := WA_of (tb_4 5 rfl) rfl
theorem q758 : (.methodLink RL 61 yX8_closeView : Cond) ∈ WA := WA_of (tb_4 2 rfl) rfl
theorem q759 : (.instanceMethod yX8_closeView : Cond) ∈ WA := WA_of (tb_4 3 rfl) rfl
theorem q760 : (.selects RX8 yX8_open yX8_open : Cond) ∈ WA := WA_of (tb_2 200 rfl) rfl
theorem q761 : (.code yX8_open cX8_open 3 (some .int) : Cond) ∈ WA := WA_of (tb_2 201 rfl) rfl
theorem q762 : (.methodLink RL 17 yX8_open : Cond) ∈ WA := WA_of (tb_2 198 rfl) rfl
theorem q763 : (.instanceMethod yX8_open : Cond) ∈ WA := WA_of (tb_2 199 rfl) rfl
theorem q764 : (.selects RX8 yX8_addWord yX8_addWord : Cond) ∈ WA := WA_of (tb_3 41 rfl) rfl
theorem q765 : (.code yX8_addWord cX8_addWord 4 (some .int) : Cond) ∈ WA := WA_of (tb_3 42 rfl) rfl
theorem q766 : (.methodLink RL 23 yX8_addWord : Cond) ∈ WA := WA_of (tb_3 39 rfl) rfl
theorem q767 : (.instanceMethod yX8_addWord : Cond) ∈ WA := WA_of (tb_3 40 rfl) rfl
theorem q768 : (.selects RX8 yX8_hits yX8_hits : Cond) ∈ WA := WA_of (tb_4 95 rfl) rfl
theorem q769 : (.code yX8_hits cX8_hits 3 (some .int) : Cond) ∈ WA := WA_of (tb_4 96 rfl) rfl
theorem q770 : (.methodLink RL 74 yX8_hits : Cond) ∈ WA := WA_of (tb_4 93 rfl) rfl
theorem q771 : (.instanceMethod yX8_hits : Cond) ∈ WA := WA_of (tb_4 94 rfl) rfl
theorem q772 : (.selects RX8 yX8_hit yX8_hit : Cond) ∈ WA := WA_of (tb_4 186 rfl) rfl
theorem q773 : (.code yX8_hit cX8_hit 4 (some .int) : Cond) ∈ WA := WA_of (tb_4 187 rfl) rfl
theorem q774 : (.methodLink RL 77 yX8_hit : Cond) ∈ WA := WA_of (tb_4 184 rfl) rfl
theorem q775 : (.instanceMethod yX8_hit : Cond) ∈ WA := WA_of (tb_4 185 rfl) rfl
theorem q776 : (.classLink RL 80 "java/util/NoSuchElementException" : Cond) ∈ WA := WA_of (tb_4 183 rfl) rfl
theorem q777 : (.selects RX8 yX8_score yX8_score : Cond) ∈ WA := WA_of (tb_4 217 rfl) rfl
theorem q778 : (.code yX8_score cX8_score 4 (some .long) : Cond) ∈ WA := WA_of (tb_4 218 rfl) rfl
theorem q779 : (.methodLink RL 82 yX8_score : Cond) ∈ WA := WA_of (tb_4 215 rfl) rfl
theorem q780 : (.instanceMethod yX8_score : Cond) ∈ WA := WA_of (tb_4 216 rfl) rfl
theorem q781 : (.selects RX8 yX8_scoreAlone yX8_scoreAlone : Cond) ∈ WA := WA_of (tb_4 225 rfl) rfl
theorem q782 : (.code yX8_scoreAlone cX8_scoreAlone 4 (some .long) : Cond) ∈ WA := WA_of (tb_4 226 rfl) rfl
theorem q783 : (.methodLink RL 86 yX8_scoreAlone : Cond) ∈ WA := WA_of (tb_4 223 rfl) rfl
theorem q784 : (.instanceMethod yX8_scoreAlone : Cond) ∈ WA := WA_of (tb_4 224 rfl) rfl
theorem q785 : (.selects RX8 yX8_tagged yX8_tagged : Cond) ∈ WA := WA_of (tb_5 0 rfl) rfl
theorem q786 : (.code yX8_tagged cX8_tagged 6 (some .int) : Cond) ∈ WA := WA_of (tb_5 1 rfl) rfl
theorem q787 : (.methodLink RL 89 yX8_tagged : Cond) ∈ WA := WA_of (tb_4 238 rfl) rfl
theorem q788 : (.instanceMethod yX8_tagged : Cond) ∈ WA := WA_of (tb_4 239 rfl) rfl
theorem q789 : (.selects RX8 yX8_firstTagged yX8_firstTagged : Cond) ∈ WA := WA_of (tb_5 11 rfl) rfl
theorem q790 : (.code yX8_firstTagged cX8_firstTagged 5 (some .int) : Cond) ∈ WA := WA_of (tb_5 12 rfl) rfl
theorem q791 : (.methodLink RL 92 yX8_firstTagged : Cond) ∈ WA := WA_of (tb_5 9 rfl) rfl
theorem q792 : (.instanceMethod yX8_firstTagged : Cond) ∈ WA := WA_of (tb_5 10 rfl) rfl
theorem q793 : (.selects RX8 yX8_wholes yX8_wholes : Cond) ∈ WA := WA_of (tb_5 19 rfl) rfl
theorem q794 : (.code yX8_wholes cX8_wholes 6 (some .int) : Cond) ∈ WA := WA_of (tb_5 20 rfl) rfl
theorem q795 : (.methodLink RL 95 yX8_wholes : Cond) ∈ WA := WA_of (tb_5 17 rfl) rfl
theorem q796 : (.instanceMethod yX8_wholes : Cond) ∈ WA := WA_of (tb_5 18 rfl) rfl
theorem q797 : (.selects RX8 yX8_wholeScore yX8_wholeScore : Cond) ∈ WA := WA_of (tb_5 31 rfl) rfl
theorem q798 : (.code yX8_wholeScore cX8_wholeScore 5 (some .long) : Cond) ∈ WA := WA_of (tb_5 32 rfl) rfl
theorem q799 : (.methodLink RL 98 yX8_wholeScore : Cond) ∈ WA := WA_of (tb_5 29 rfl) rfl
theorem q800 : (.instanceMethod yX8_wholeScore : Cond) ∈ WA := WA_of (tb_5 30 rfl) rfl
theorem q801 : (.selects RX8 yX8_marked yX8_marked : Cond) ∈ WA := WA_of (tb_5 39 rfl) rfl
theorem q802 : (.code yX8_marked cX8_marked 5 (some .int) : Cond) ∈ WA := WA_of (tb_5 40 rfl) rfl
theorem q803 : (.methodLink RL 101 yX8_marked : Cond) ∈ WA := WA_of (tb_5 37 rfl) rfl
theorem q804 : (.instanceMethod yX8_marked : Cond) ∈ WA := WA_of (tb_5 38 rfl) rfl
theorem q805 : (.selects RX8 yX8_turned yX8_turned : Cond) ∈ WA := WA_of (tb_5 74 rfl) rfl
theorem q806 : (.code yX8_turned cX8_turned 6 (some .int) : Cond) ∈ WA := WA_of (tb_5 75 rfl) rfl
theorem q807 : (.methodLink RL 110 yX8_turned : Cond) ∈ WA := WA_of (tb_5 72 rfl) rfl
theorem q808 : (.instanceMethod yX8_turned : Cond) ∈ WA := WA_of (tb_5 73 rfl) rfl
theorem q809 : (.selects RX8 yX8_removedShare yX8_removedShare : Cond) ∈ WA := WA_of (tb_5 95 rfl) rfl
theorem q810 : (.code yX8_removedShare cX8_removedShare 2 (some .float) : Cond) ∈ WA := WA_of (tb_5 96 rfl) rfl
theorem q811 : (.methodLink RL 113 yX8_removedShare : Cond) ∈ WA := WA_of (tb_5 93 rfl) rfl
theorem q812 : (.instanceMethod yX8_removedShare : Cond) ∈ WA := WA_of (tb_5 94 rfl) rfl
theorem q813 : (.classLink RL 117 "java/lang/ArithmeticException" : Cond) ∈ WA := WA_of (tb_5 79 rfl) rfl
theorem q814 : (.selects RX8 yX8_meanLength yX8_meanLength : Cond) ∈ WA := WA_of (tb_5 113 rfl) rfl
theorem q815 : (.code yX8_meanLength cX8_meanLength 5 (some .double) : Cond) ∈ WA := WA_of (tb_5 114 rfl) rfl
theorem q816 : (.methodLink RL 119 yX8_meanLength : Cond) ∈ WA := WA_of (tb_5 111 rfl) rfl
theorem q817 : (.instanceMethod yX8_meanLength : Cond) ∈ WA := WA_of (tb_5 112 rfl) rfl
theorem q818 : (.selects RX8 yX8_close yX8_close : Cond) ∈ WA := WA_of (tb_3 57 rfl) rfl
theorem q819 : (.code yX8_close cX8_close 3 (some .int) : Cond) ∈ WA := WA_of (tb_3 58 rfl) rfl
theorem q820 : (.methodLink RL 27 yX8_close : Cond) ∈ WA := WA_of (tb_3 55 rfl) rfl
theorem q821 : (.instanceMethod yX8_close : Cond) ∈ WA := WA_of (tb_3 56 rfl) rfl
theorem f2d_ok {x : UInt32} (h : ¬ Jvm.FP.Core.decode Jvm.FP.Core.b32 x.toNat = .nan) : vf_n64 (FP.f2d x) := by
  show (if FP.Core.fIsNaN x = true then FP.nanF2D x else FP.Core.f2d x) &&& 0x7fffffffffffffff ≤ 0x7ff0000000000000
  rw [if_neg (show ¬ FP.Core.fIsNaN x = true from fun e => h (of_decide_eq_true e))]
  show UInt64.ofNat (Jvm.FP.Core.encode Jvm.FP.Core.b64 (Jvm.FP.Core.round Jvm.FP.Core.b64 (Jvm.FP.Core.decode Jvm.FP.Core.b32 x.toNat))) &&& 0x7fffffffffffffff ≤ 0x7ff0000000000000
  generalize Jvm.FP.Core.decode Jvm.FP.Core.b32 x.toNat = y at h
  apply fe_le
  cases y with
  | nan => exact absurd rfl h
  | inf t => exact fe_inf
  | fin t d r => exact fe_rr
theorem fdn_ok : ∀ r, r < 31 → ∀ a, a < 31 → 0 < a → ¬ Jvm.FP.Core.decode Jvm.FP.Core.b32 (FP.fdiv (FP.i2f (nI r)) (FP.i2f (nI a))).toNat = .nan := by decide +kernel
set_option maxHeartbeats 4000000 in
set_option maxRecDepth 100000 in
theorem y8_setBound (l : Launch) (hlt : l.stackTraces = false) (D : va_G) (dA : Nat → ClassId) (E : Nat) (c9 : CS) (tn : Nat) (p0 : Int32) (sz : Nat) (hI : CI E tn c9) (htn : tn ≤ 600) : vx_Met l yX8_setBound (wq (.code yX8_setBound cX8_setBound 3 (some .int))) { frames := 6, cells := 1, slots := 6, locals := 82 } (va_Pc [.ref (c9.xa 0), .int p0] (PcB D dA E (HAppend.hAppend (α := va_W) (β := va_W) (γ := va_W) [] (CW dA c9)) sz)) (va_Qi (fun (r : Int32) (u : CS) => CI E (tn + 1) u ∧ u.xa = c9.xa ∧ ((True) ∧ (True) ∧ ((u.cm = c9.cm)))) (fun u t => va_P D vwCl ([] ++ (CW dA u)) t.heap ∧ va_D (va_A (HAppend.hAppend (α := va_W) (β := va_W) (γ := va_W) [] (CW dA c9)) sz) ([] ++ (CW dA u))) (va_A (HAppend.hAppend (α := va_W) (β := va_W) (γ := va_W) [] (CW dA c9)) sz)) (vx_X (fun (k : Nat × CS) => CI E (tn + 1) k.2 ∧ k.2.xa = c9.xa ∧ (k.1 = 1) ∧ ((True) ∧ ((k.2.cm = c9.cm)))) (fun E9 k t => E9 = xN k.1 ∧ va_P D vwCl ([] ++ (CW dA k.2)) t.heap ∧ va_D (va_A (HAppend.hAppend (α := va_W) (β := va_W) (γ := va_W) [] (CW dA c9)) sz) ([] ++ (CW dA k.2))) (va_A (HAppend.hAppend (α := va_W) (β := va_W) (γ := va_W) [] (CW dA c9)) sz)) 1 6 (va_A (HAppend.hAppend (α := va_W) (β := va_W) (γ := va_W) [] (CW dA c9)) sz) := x8_setBound l hlt D dA E c9.xa c9.sh c9.cs c9.rp c9.zq c9.cm c9.vs c9.bd c9.op c9.mst c9.nst c9.cps c9.ars c9.fss c9.se c9.SK c9.SA c9.SB c9.mdd c9.nd c9.capd c9.ad0 c9.fdd c9.dt c9.TG c9.WH c9.CK c9.TW c9.TP c9.TX c9.NM c9.mvv c9.nv c9.capv c9.av0 c9.fvv c9.ve c9.VN c9.VC c9.VP c9.mq c9.nq c9.capq c9.aq0 c9.fq c9.eq c9.QK c9.QA c9.QB c9.QD c9.WT c9.QN c9.tS c9.tG c9.nsg c9.kS c9.kG c9.kd c9.ksg c9.rP c9.aq c9.fd c9.pp c9.t0 c9.sc c9.R0 c9.h0 c9.mm tn p0 sz hI htn

set_option maxHeartbeats 4000000 in
set_option maxRecDepth 100000 in
theorem y8_length (l : Launch) (hlt : l.stackTraces = false) (D : va_G) (dA : Nat → ClassId) (E : Nat) (c9 : CS) (tn : Nat) (p0 : Int32) (sz : Nat) (hI : CI E tn c9) (htn : tn ≤ 600) : vx_Met l yX8_length (wq (.code yX8_length cX8_length 2 (some .int))) { frames := 8, cells := 1, slots := 6, locals := 124 } (va_Pc [.ref (c9.xa 0), .int p0] (PcB D dA E (HAppend.hAppend (α := va_W) (β := va_W) (γ := va_W) [] (CW dA c9)) sz)) (va_Qi (fun (r : Int32) (u : CS) => CI E (tn + 1) u ∧ u.xa = c9.xa ∧ ((True) ∧ (True) ∧ ((u.cm = c9.cm)))) (fun u t => va_P D vwCl ([] ++ (CW dA u)) t.heap ∧ va_D (va_A (HAppend.hAppend (α := va_W) (β := va_W) (γ := va_W) [] (CW dA c9)) sz) ([] ++ (CW dA u))) (va_A (HAppend.hAppend (α := va_W) (β := va_W) (γ := va_W) [] (CW dA c9)) sz)) (vx_X (fun (k : Nat × CS) => CI E (tn + 1) k.2 ∧ k.2.xa = c9.xa ∧ (k.1 = 2) ∧ ((True) ∧ ((k.2.cm = c9.cm)))) (fun E9 k t => E9 = xN k.1 ∧ va_P D vwCl ([] ++ (CW dA k.2)) t.heap ∧ va_D (va_A (HAppend.hAppend (α := va_W) (β := va_W) (γ := va_W) [] (CW dA c9)) sz) ([] ++ (CW dA k.2))) (va_A (HAppend.hAppend (α := va_W) (β := va_W) (γ := va_W) [] (CW dA c9)) sz)) 1 6 (va_A (HAppend.hAppend (α := va_W) (β := va_W) (γ := va_W) [] (CW dA c9)) sz) := x8_length l hlt D dA E c9.xa c9.sh c9.cs c9.rp c9.zq c9.cm c9.vs c9.bd c9.op c9.mst c9.nst c9.cps c9.ars c9.fss c9.se c9.SK c9.SA c9.SB c9.mdd c9.nd c9.capd c9.ad0 c9.fdd c9.dt c9.TG c9.WH c9.CK c9.TW c9.TP c9.TX c9.NM c9.mvv c9.nv c9.capv c9.av0 c9.fvv c9.ve c9.VN c9.VC c9.VP c9.mq c9.nq c9.capq c9.aq0 c9.fq c9.eq c9.QK c9.QA c9.QB c9.QD c9.WT c9.QN c9.tS c9.tG c9.nsg c9.kS c9.kG c9.kd c9.ksg c9.rP c9.aq c9.fd c9.pp c9.t0 c9.sc c9.R0 c9.h0 c9.mm tn p0 sz hI htn

set_option maxHeartbeats 4000000 in
set_option maxRecDepth 100000 in
theorem y8_standing (l : Launch) (hlt : l.stackTraces = false) (D : va_G) (dA : Nat → ClassId) (E : Nat) (c9 : CS) (tn : Nat) (p0 : Int32) (p1 : Int32) (p2 : Int32) (sz : Nat) (hI : CI E tn c9) (htn : tn ≤ 600) : vx_Met l yX8_standing (wq (.code yX8_standing cX8_standing 4 (some .int))) { frames := 8, cells := 1, slots := 6, locals := 124 } (va_Pc [.ref (c9.xa 0), .int p0, .int p1, .int p2] (PcB D dA E (HAppend.hAppend (α := va_W) (β := va_W) (γ := va_W) [] (CW dA c9)) sz)) (va_Qi (fun (r : Int32) (u : CS) => CI E (tn + 1) u ∧ u.xa = c9.xa ∧ ((True) ∧ (True) ∧ ((u.cm = c9.cm)))) (fun u t => va_P D vwCl ([] ++ (CW dA u)) t.heap ∧ va_D (va_A (HAppend.hAppend (α := va_W) (β := va_W) (γ := va_W) [] (CW dA c9)) sz) ([] ++ (CW dA u))) (va_A (HAppend.hAppend (α := va_W) (β := va_W) (γ := va_W) [] (CW dA c9)) sz)) (vx_X (fun (k : Nat × CS) => CI E (tn + 1) k.2 ∧ k.2.xa = c9.xa ∧ (k.1 = 2) ∧ ((True) ∧ ((k.2.cm = c9.cm)))) (fun E9 k t => E9 = xN k.1 ∧ va_P D vwCl ([] ++ (CW dA k.2)) t.heap ∧ va_D (va_A (HAppend.hAppend (α := va_W) (β := va_W) (γ := va_W) [] (CW dA c9)) sz) ([] ++ (CW dA k.2))) (va_A (HAppend.hAppend (α := va_W) (β := va_W) (γ := va_W) [] (CW dA c9)) sz)) 1 6 (va_A (HAppend.hAppend (α := va_W) (β := va_W) (γ := va_W) [] (CW dA c9)) sz) := x8_standing l hlt D dA E c9.xa c9.sh c9.cs c9.rp c9.zq c9.cm c9.vs c9.bd c9.op c9.mst c9.nst c9.cps c9.ars c9.fss c9.se c9.SK c9.SA c9.SB c9.mdd c9.nd c9.capd c9.ad0 c9.fdd c9.dt c9.TG c9.WH c9.CK c9.TW c9.TP c9.TX c9.NM c9.mvv c9.nv c9.capv c9.av0 c9.fvv c9.ve c9.VN c9.VC c9.VP c9.mq c9.nq c9.capq c9.aq0 c9.fq c9.eq c9.QK c9.QA c9.QB c9.QD c9.WT c9.QN c9.tS c9.tG c9.nsg c9.kS c9.kG c9.kd c9.ksg c9.rP c9.aq c9.fd c9.pp c9.t0 c9.sc c9.R0 c9.h0 c9.mm tn p0 p1 p2 sz hI htn

set_option maxHeartbeats 4000000 in
set_option maxRecDepth 100000 in
theorem y8_click (l : Launch) (hlt : l.stackTraces = false) (D : va_G) (dA : Nat → ClassId) (E : Nat) (c9 : CS) (tn : Nat) (p0 : Int32) (sz : Nat) (hI : CI E tn c9) (htn : tn ≤ 600) : vx_Met l yX8_click (wq (.code yX8_click cX8_click 3 (some .int))) { frames := 8, cells := 1, slots := 6, locals := 124 } (va_Pc [.ref (c9.xa 0), .int p0] (PcB D dA E (HAppend.hAppend (α := va_W) (β := va_W) (γ := va_W) [] (CW dA c9)) sz)) (va_Qi (fun (r : Int32) (u : CS) => CI E (tn + 1) u ∧ u.xa = c9.xa ∧ ((True) ∧ (True) ∧ ((u.cm = c9.cm)))) (fun u t => va_P D vwCl ([] ++ (CW dA u)) t.heap ∧ va_D (va_A (HAppend.hAppend (α := va_W) (β := va_W) (γ := va_W) [] (CW dA c9)) sz) ([] ++ (CW dA u))) (va_A (HAppend.hAppend (α := va_W) (β := va_W) (γ := va_W) [] (CW dA c9)) sz)) (vx_X (fun (k : Nat × CS) => CI E (tn + 1) k.2 ∧ k.2.xa = c9.xa ∧ (k.1 = 2) ∧ ((True) ∧ ((k.2.cm = c9.cm)))) (fun E9 k t => E9 = xN k.1 ∧ va_P D vwCl ([] ++ (CW dA k.2)) t.heap ∧ va_D (va_A (HAppend.hAppend (α := va_W) (β := va_W) (γ := va_W) [] (CW dA c9)) sz) ([] ++ (CW dA k.2))) (va_A (HAppend.hAppend (α := va_W) (β := va_W) (γ := va_W) [] (CW dA c9)) sz)) 1 6 (va_A (HAppend.hAppend (α := va_W) (β := va_W) (γ := va_W) [] (CW dA c9)) sz) := x8_click l hlt D dA E c9.xa c9.sh c9.cs c9.rp c9.zq c9.cm c9.vs c9.bd c9.op c9.mst c9.nst c9.cps c9.ars c9.fss c9.se c9.SK c9.SA c9.SB c9.mdd c9.nd c9.capd c9.ad0 c9.fdd c9.dt c9.TG c9.WH c9.CK c9.TW c9.TP c9.TX c9.NM c9.mvv c9.nv c9.capv c9.av0 c9.fvv c9.ve c9.VN c9.VC c9.VP c9.mq c9.nq c9.capq c9.aq0 c9.fq c9.eq c9.QK c9.QA c9.QB c9.QD c9.WT c9.QN c9.tS c9.tG c9.nsg c9.kS c9.kG c9.kd c9.ksg c9.rP c9.aq c9.fd c9.pp c9.t0 c9.sc c9.R0 c9.h0 c9.mm tn p0 sz hI htn

set_option maxHeartbeats 4000000 in
set_option maxRecDepth 100000 in
theorem y8_state (l : Launch) (hlt : l.stackTraces = false) (D : va_G) (dA : Nat → ClassId) (E : Nat) (c9 : CS) (tn : Nat) (p0 : Int32) (sz : Nat) (hI : CI E tn c9) (htn : tn ≤ 600) : vx_Met l yX8_state (wq (.code yX8_state cX8_state 2 (some .char))) { frames := 7, cells := 1, slots := 6, locals := 103 } (va_Pc [.ref (c9.xa 0), .int p0] (PcB D dA E (HAppend.hAppend (α := va_W) (β := va_W) (γ := va_W) [] (CW dA c9)) sz)) (va_Qi (fun (r : Int32) (u : CS) => CI E (tn + 1) u ∧ u.xa = c9.xa ∧ ((True) ∧ (True) ∧ ((u.cm = c9.cm)))) (fun u t => va_P D vwCl ([] ++ (CW dA u)) t.heap ∧ va_D (va_A (HAppend.hAppend (α := va_W) (β := va_W) (γ := va_W) [] (CW dA c9)) sz) ([] ++ (CW dA u))) (va_A (HAppend.hAppend (α := va_W) (β := va_W) (γ := va_W) [] (CW dA c9)) sz)) (vx_X (fun (k : Nat × CS) => CI E (tn + 1) k.2 ∧ k.2.xa = c9.xa ∧ (k.1 = 2) ∧ ((True) ∧ ((k.2.cm = c9.cm)))) (fun E9 k t => E9 = xN k.1 ∧ va_P D vwCl ([] ++ (CW dA k.2)) t.heap ∧ va_D (va_A (HAppend.hAppend (α := va_W) (β := va_W) (γ := va_W) [] (CW dA c9)) sz) ([] ++ (CW dA k.2))) (va_A (HAppend.hAppend (α := va_W) (β := va_W) (γ := va_W) [] (CW dA c9)) sz)) 1 6 (va_A (HAppend.hAppend (α := va_W) (β := va_W) (γ := va_W) [] (CW dA c9)) sz) := x8_state l hlt D dA E c9.xa c9.sh c9.cs c9.rp c9.zq c9.cm c9.vs c9.bd c9.op c9.mst c9.nst c9.cps c9.ars c9.fss c9.se c9.SK c9.SA c9.SB c9.mdd c9.nd c9.capd c9.ad0 c9.fdd c9.dt c9.TG c9.WH c9.CK c9.TW c9.TP c9.TX c9.NM c9.mvv c9.nv c9.capv c9.av0 c9.fvv c9.ve c9.VN c9.VC c9.VP c9.mq c9.nq c9.capq c9.aq0 c9.fq c9.eq c9.QK c9.QA c9.QB c9.QD c9.WT c9.QN c9.tS c9.tG c9.nsg c9.kS c9.kG c9.kd c9.ksg c9.rP c9.aq c9.fd c9.pp c9.t0 c9.sc c9.R0 c9.h0 c9.mm tn p0 sz hI htn

set_option maxHeartbeats 4000000 in
set_option maxRecDepth 100000 in
theorem y8_remove (l : Launch) (hlt : l.stackTraces = false) (D : va_G) (dA : Nat → ClassId) (E : Nat) (c9 : CS) (tn : Nat) (p0 : Int32) (sz : Nat) (hI : CI E tn c9) (htn : tn ≤ 600) : vx_Met l yX8_remove (wq (.code yX8_remove cX8_remove 3 (some .char))) { frames := 7, cells := 2, slots := 12, locals := 103 } (va_Pc [.ref (c9.xa 0), .int p0] (PcB D dA E (HAppend.hAppend (α := va_W) (β := va_W) (γ := va_W) [] (CW dA c9)) sz)) (va_Qi (fun (r : Int32) (u : CS) => CI E (tn + 1) u ∧ u.xa = c9.xa ∧ ((True) ∧ (True) ∧ ((u.cm = c9.cm)))) (fun u t => va_P D vwCl ([] ++ (CW dA u)) t.heap ∧ va_D (va_A (HAppend.hAppend (α := va_W) (β := va_W) (γ := va_W) [] (CW dA c9)) sz) ([] ++ (CW dA u))) (va_A (HAppend.hAppend (α := va_W) (β := va_W) (γ := va_W) [] (CW dA c9)) sz)) (vx_X (fun (k : Nat × CS) => CI E (tn + 1) k.2 ∧ k.2.xa = c9.xa ∧ (k.1 = 2 ∨ k.1 = 3) ∧ ((True) ∧ ((k.2.cm = c9.cm)))) (fun E9 k t => E9 = xN k.1 ∧ va_P D vwCl ([] ++ (CW dA k.2)) t.heap ∧ va_D (va_A (HAppend.hAppend (α := va_W) (β := va_W) (γ := va_W) [] (CW dA c9)) sz) ([] ++ (CW dA k.2))) (va_A (HAppend.hAppend (α := va_W) (β := va_W) (γ := va_W) [] (CW dA c9)) sz)) 2 12 (va_A (HAppend.hAppend (α := va_W) (β := va_W) (γ := va_W) [] (CW dA c9)) sz) := x8_remove l hlt D dA E c9.xa c9.sh c9.cs c9.rp c9.zq c9.cm c9.vs c9.bd c9.op c9.mst c9.nst c9.cps c9.ars c9.fss c9.se c9.SK c9.SA c9.SB c9.mdd c9.nd c9.capd c9.ad0 c9.fdd c9.dt c9.TG c9.WH c9.CK c9.TW c9.TP c9.TX c9.NM c9.mvv c9.nv c9.capv c9.av0 c9.fvv c9.ve c9.VN c9.VC c9.VP c9.mq c9.nq c9.capq c9.aq0 c9.fq c9.eq c9.QK c9.QA c9.QB c9.QD c9.WT c9.QN c9.tS c9.tG c9.nsg c9.kS c9.kG c9.kd c9.ksg c9.rP c9.aq c9.fd c9.pp c9.t0 c9.sc c9.R0 c9.h0 c9.mm tn p0 sz hI htn

set_option maxHeartbeats 4000000 in
set_option maxRecDepth 100000 in
theorem y8_isOnReplica (l : Launch) (hlt : l.stackTraces = false) (D : va_G) (dA : Nat → ClassId) (E : Nat) (c9 : CS) (tn : Nat) (p0 : Int32) (sz : Nat) (hI : CI E tn c9) (htn : tn ≤ 600) : vx_Met l yX8_isOnReplica (wq (.code yX8_isOnReplica cX8_isOnReplica 2 (some .boolean))) { frames := 7, cells := 1, slots := 6, locals := 103 } (va_Pc [.ref (c9.xa 0), .int p0] (PcB D dA E (HAppend.hAppend (α := va_W) (β := va_W) (γ := va_W) [] (CW dA c9)) sz)) (va_Qi (fun (r : Int32) (u : CS) => CI E (tn + 1) u ∧ u.xa = c9.xa ∧ ((True) ∧ (True) ∧ ((u.cm = c9.cm)))) (fun u t => va_P D vwCl ([] ++ (CW dA u)) t.heap ∧ va_D (va_A (HAppend.hAppend (α := va_W) (β := va_W) (γ := va_W) [] (CW dA c9)) sz) ([] ++ (CW dA u))) (va_A (HAppend.hAppend (α := va_W) (β := va_W) (γ := va_W) [] (CW dA c9)) sz)) (vx_X (fun (k : Nat × CS) => CI E (tn + 1) k.2 ∧ k.2.xa = c9.xa ∧ (k.1 = 2) ∧ ((True) ∧ ((k.2.cm = c9.cm)))) (fun E9 k t => E9 = xN k.1 ∧ va_P D vwCl ([] ++ (CW dA k.2)) t.heap ∧ va_D (va_A (HAppend.hAppend (α := va_W) (β := va_W) (γ := va_W) [] (CW dA c9)) sz) ([] ++ (CW dA k.2))) (va_A (HAppend.hAppend (α := va_W) (β := va_W) (γ := va_W) [] (CW dA c9)) sz)) 1 6 (va_A (HAppend.hAppend (α := va_W) (β := va_W) (γ := va_W) [] (CW dA c9)) sz) := x8_isOnReplica l hlt D dA E c9.xa c9.sh c9.cs c9.rp c9.zq c9.cm c9.vs c9.bd c9.op c9.mst c9.nst c9.cps c9.ars c9.fss c9.se c9.SK c9.SA c9.SB c9.mdd c9.nd c9.capd c9.ad0 c9.fdd c9.dt c9.TG c9.WH c9.CK c9.TW c9.TP c9.TX c9.NM c9.mvv c9.nv c9.capv c9.av0 c9.fvv c9.ve c9.VN c9.VC c9.VP c9.mq c9.nq c9.capq c9.aq0 c9.fq c9.eq c9.QK c9.QA c9.QB c9.QD c9.WT c9.QN c9.tS c9.tG c9.nsg c9.kS c9.kG c9.kd c9.ksg c9.rP c9.aq c9.fd c9.pp c9.t0 c9.sc c9.R0 c9.h0 c9.mm tn p0 sz hI htn

set_option maxHeartbeats 4000000 in
set_option maxRecDepth 100000 in
theorem y8_segments (l : Launch) (D : va_G) (dA : Nat → ClassId) (E : Nat) (c9 : CS) (tn : Nat) (sz : Nat) (hI : CI E tn c9) (htn : tn ≤ 600) : Met l yX8_segments (wq (.code yX8_segments cX8_segments 1 (some .int))) { frames := 0, cells := 0, slots := 0, locals := 0 } (va_Pc [.ref (c9.xa 0)] (PcB D dA E (HAppend.hAppend (α := va_W) (β := va_W) (γ := va_W) [] (CW dA c9)) sz)) (va_Qi (fun (r : Int32) (u : CS) => CI E (tn + 1) u ∧ u.xa = c9.xa ∧ ((True) ∧ (True) ∧ ((u.cm = c9.cm)))) (fun u t => va_P D vwCl ([] ++ (CW dA u)) t.heap ∧ va_D (va_A (HAppend.hAppend (α := va_W) (β := va_W) (γ := va_W) [] (CW dA c9)) sz) ([] ++ (CW dA u))) (va_A (HAppend.hAppend (α := va_W) (β := va_W) (γ := va_W) [] (CW dA c9)) sz)) 0 0 (va_A (HAppend.hAppend (α := va_W) (β := va_W) (γ := va_W) [] (CW dA c9)) sz) := x8_segments l D dA E c9.xa c9.sh c9.cs c9.rp c9.zq c9.cm c9.vs c9.bd c9.op c9.mst c9.nst c9.cps c9.ars c9.fss c9.se c9.SK c9.SA c9.SB c9.mdd c9.nd c9.capd c9.ad0 c9.fdd c9.dt c9.TG c9.WH c9.CK c9.TW c9.TP c9.TX c9.NM c9.mvv c9.nv c9.capv c9.av0 c9.fvv c9.ve c9.VN c9.VC c9.VP c9.mq c9.nq c9.capq c9.aq0 c9.fq c9.eq c9.QK c9.QA c9.QB c9.QD c9.WT c9.QN c9.tS c9.tG c9.nsg c9.kS c9.kG c9.kd c9.ksg c9.rP c9.aq c9.fd c9.pp c9.t0 c9.sc c9.R0 c9.h0 c9.mm tn sz hI htn

set_option maxHeartbeats 4000000 in
set_option maxRecDepth 100000 in
theorem y8_write (l : Launch) (D : va_G) (dA : Nat → ClassId) (E : Nat) (c9 : CS) (tn : Nat) (sz : Nat) (hI : CI E tn c9) (htn : tn ≤ 600) : Met l yX8_write (wq (.code yX8_write cX8_write 1 (some .int))) { frames := 3, cells := 0, slots := 0, locals := 64 } (va_Pc [.ref (c9.xa 0)] (PcB D dA E (HAppend.hAppend (α := va_W) (β := va_W) (γ := va_W) [] (CW dA c9)) sz)) (va_Qi (fun (r : Int32) (u : CS) => CI E (tn + 1) u ∧ u.xa = c9.xa ∧ ((True) ∧ (True) ∧ ((u.cm = c9.cm)))) (fun u t => va_P D vwCl ([] ++ (CW dA u)) t.heap ∧ va_D (va_A (HAppend.hAppend (α := va_W) (β := va_W) (γ := va_W) [] (CW dA c9)) sz) ([] ++ (CW dA u))) (va_A (HAppend.hAppend (α := va_W) (β := va_W) (γ := va_W) [] (CW dA c9)) sz)) 0 0 (va_A (HAppend.hAppend (α := va_W) (β := va_W) (γ := va_W) [] (CW dA c9)) sz) := x8_write l D dA E c9.xa c9.sh c9.cs c9.rp c9.zq c9.cm c9.vs c9.bd c9.op c9.mst c9.nst c9.cps c9.ars c9.fss c9.se c9.SK c9.SA c9.SB c9.mdd c9.nd c9.capd c9.ad0 c9.fdd c9.dt c9.TG c9.WH c9.CK c9.TW c9.TP c9.TX c9.NM c9.mvv c9.nv c9.capv c9.av0 c9.fvv c9.ve c9.VN c9.VC c9.VP c9.mq c9.nq c9.capq c9.aq0 c9.fq c9.eq c9.QK c9.QA c9.QB c9.QD c9.WT c9.QN c9.tS c9.tG c9.nsg c9.kS c9.kG c9.kd c9.ksg c9.rP c9.aq c9.fd c9.pp c9.t0 c9.sc c9.R0 c9.h0 c9.mm tn sz hI htn

set_option maxHeartbeats 4000000 in
set_option maxRecDepth 100000 in
theorem y8_size (l : Launch) (hlt : l.stackTraces = false) (D : va_G) (dA : Nat → ClassId) (E : Nat) (c9 : CS) (tn : Nat) (p0 : Int32) (sz : Nat) (hI : CI E tn c9) (htn : tn ≤ 600) : vx_Met l yX8_size (wq (.code yX8_size cX8_size 2 (some .int))) { frames := 6, cells := 1, slots := 6, locals := 82 } (va_Pc [.ref (c9.xa 0), .int p0] (PcB D dA E (HAppend.hAppend (α := va_W) (β := va_W) (γ := va_W) [] (CW dA c9)) sz)) (va_Qi (fun (r : Int32) (u : CS) => CI E (tn + 1) u ∧ u.xa = c9.xa ∧ ((True) ∧ (True) ∧ ((u.cm = c9.cm)))) (fun u t => va_P D vwCl ([] ++ (CW dA u)) t.heap ∧ va_D (va_A (HAppend.hAppend (α := va_W) (β := va_W) (γ := va_W) [] (CW dA c9)) sz) ([] ++ (CW dA u))) (va_A (HAppend.hAppend (α := va_W) (β := va_W) (γ := va_W) [] (CW dA c9)) sz)) (vx_X (fun (k : Nat × CS) => CI E (tn + 1) k.2 ∧ k.2.xa = c9.xa ∧ (k.1 = 2) ∧ ((True) ∧ ((k.2.cm = c9.cm)))) (fun E9 k t => E9 = xN k.1 ∧ va_P D vwCl ([] ++ (CW dA k.2)) t.heap ∧ va_D (va_A (HAppend.hAppend (α := va_W) (β := va_W) (γ := va_W) [] (CW dA c9)) sz) ([] ++ (CW dA k.2))) (va_A (HAppend.hAppend (α := va_W) (β := va_W) (γ := va_W) [] (CW dA c9)) sz)) 1 6 (va_A (HAppend.hAppend (α := va_W) (β := va_W) (γ := va_W) [] (CW dA c9)) sz) := x8_size l hlt D dA E c9.xa c9.sh c9.cs c9.rp c9.zq c9.cm c9.vs c9.bd c9.op c9.mst c9.nst c9.cps c9.ars c9.fss c9.se c9.SK c9.SA c9.SB c9.mdd c9.nd c9.capd c9.ad0 c9.fdd c9.dt c9.TG c9.WH c9.CK c9.TW c9.TP c9.TX c9.NM c9.mvv c9.nv c9.capv c9.av0 c9.fvv c9.ve c9.VN c9.VC c9.VP c9.mq c9.nq c9.capq c9.aq0 c9.fq c9.eq c9.QK c9.QA c9.QB c9.QD c9.WT c9.QN c9.tS c9.tG c9.nsg c9.kS c9.kG c9.kd c9.ksg c9.rP c9.aq c9.fd c9.pp c9.t0 c9.sc c9.R0 c9.h0 c9.mm tn p0 sz hI htn

set_option maxHeartbeats 4000000 in
set_option maxRecDepth 100000 in
theorem y8_merge (l : Launch) (hlt : l.stackTraces = false) (D : va_G) (dA : Nat → ClassId) (E : Nat) (c9 : CS) (tn : Nat) (p0 : Int32) (sz : Nat) (hI : CI E tn c9) (htn : tn ≤ 600) : vx_Met l yX8_merge (wq (.code yX8_merge cX8_merge 2 (some .int))) { frames := 6, cells := 1, slots := 6, locals := 82 } (va_Pc [.ref (c9.xa 0), .int p0] (PcB D dA E (HAppend.hAppend (α := va_W) (β := va_W) (γ := va_W) [] (CW dA c9)) sz)) (va_Qi (fun (r : Int32) (u : CS) => CI E (tn + 1) u ∧ u.xa = c9.xa ∧ ((True) ∧ (True) ∧ ((u.cm = c9.cm)))) (fun u t => va_P D vwCl ([] ++ (CW dA u)) t.heap ∧ va_D (va_A (HAppend.hAppend (α := va_W) (β := va_W) (γ := va_W) [] (CW dA c9)) sz) ([] ++ (CW dA u))) (va_A (HAppend.hAppend (α := va_W) (β := va_W) (γ := va_W) [] (CW dA c9)) sz)) (vx_X (fun (k : Nat × CS) => CI E (tn + 1) k.2 ∧ k.2.xa = c9.xa ∧ (k.1 = 2) ∧ ((True) ∧ ((k.2.cm = c9.cm)))) (fun E9 k t => E9 = xN k.1 ∧ va_P D vwCl ([] ++ (CW dA k.2)) t.heap ∧ va_D (va_A (HAppend.hAppend (α := va_W) (β := va_W) (γ := va_W) [] (CW dA c9)) sz) ([] ++ (CW dA k.2))) (va_A (HAppend.hAppend (α := va_W) (β := va_W) (γ := va_W) [] (CW dA c9)) sz)) 1 6 (va_A (HAppend.hAppend (α := va_W) (β := va_W) (γ := va_W) [] (CW dA c9)) sz) := x8_merge l hlt D dA E c9.xa c9.sh c9.cs c9.rp c9.zq c9.cm c9.vs c9.bd c9.op c9.mst c9.nst c9.cps c9.ars c9.fss c9.se c9.SK c9.SA c9.SB c9.mdd c9.nd c9.capd c9.ad0 c9.fdd c9.dt c9.TG c9.WH c9.CK c9.TW c9.TP c9.TX c9.NM c9.mvv c9.nv c9.capv c9.av0 c9.fvv c9.ve c9.VN c9.VC c9.VP c9.mq c9.nq c9.capq c9.aq0 c9.fq c9.eq c9.QK c9.QA c9.QB c9.QD c9.WT c9.QN c9.tS c9.tG c9.nsg c9.kS c9.kG c9.kd c9.ksg c9.rP c9.aq c9.fd c9.pp c9.t0 c9.sc c9.R0 c9.h0 c9.mm tn p0 sz hI htn

set_option maxHeartbeats 4000000 in
set_option maxRecDepth 100000 in
theorem y8_commit (l : Launch) (D : va_G) (dA : Nat → ClassId) (E : Nat) (c9 : CS) (tn : Nat) (sz : Nat) (hI : CI E tn c9) (htn : tn ≤ 600) : Met l yX8_commit (wq (.code yX8_commit cX8_commit 1 (some .int))) { frames := 3, cells := 0, slots := 0, locals := 64 } (va_Pc [.ref (c9.xa 0)] (PcB D dA E (HAppend.hAppend (α := va_W) (β := va_W) (γ := va_W) [] (CW dA c9)) sz)) (va_Qi (fun (r : Int32) (u : CS) => CI E (tn + 1) u ∧ u.xa = c9.xa ∧ ((True) ∧ (r = nI (c9.cm + 1)) ∧ ((u.cm = c9.cm + 1)))) (fun u t => va_P D vwCl ([] ++ (CW dA u)) t.heap ∧ va_D (va_A (HAppend.hAppend (α := va_W) (β := va_W) (γ := va_W) [] (CW dA c9)) sz) ([] ++ (CW dA u))) (va_A (HAppend.hAppend (α := va_W) (β := va_W) (γ := va_W) [] (CW dA c9)) sz)) 0 0 (va_A (HAppend.hAppend (α := va_W) (β := va_W) (γ := va_W) [] (CW dA c9)) sz) := x8_commit l D dA E c9.xa c9.sh c9.cs c9.rp c9.zq c9.cm c9.vs c9.bd c9.op c9.mst c9.nst c9.cps c9.ars c9.fss c9.se c9.SK c9.SA c9.SB c9.mdd c9.nd c9.capd c9.ad0 c9.fdd c9.dt c9.TG c9.WH c9.CK c9.TW c9.TP c9.TX c9.NM c9.mvv c9.nv c9.capv c9.av0 c9.fvv c9.ve c9.VN c9.VC c9.VP c9.mq c9.nq c9.capq c9.aq0 c9.fq c9.eq c9.QK c9.QA c9.QB c9.QD c9.WT c9.QN c9.tS c9.tG c9.nsg c9.kS c9.kG c9.kd c9.ksg c9.rP c9.aq c9.fd c9.pp c9.t0 c9.sc c9.R0 c9.h0 c9.mm tn sz hI htn

set_option maxHeartbeats 4000000 in
set_option maxRecDepth 100000 in
theorem y8_follow (l : Launch) (hlt : l.stackTraces = false) (D : va_G) (dA : Nat → ClassId) (E : Nat) (c9 : CS) (tn : Nat) (sz : Nat) (hI : CI E tn c9) (htn : tn ≤ 600) : vx_Met l yX8_follow (wq (.code yX8_follow cX8_follow 1 (some .int))) { frames := 6, cells := 1, slots := 6, locals := 82 } (va_Pc [.ref (c9.xa 0)] (PcB D dA E (HAppend.hAppend (α := va_W) (β := va_W) (γ := va_W) [] (CW dA c9)) sz)) (va_Qi (fun (r : Int32) (u : CS) => CI E (tn + 1) u ∧ u.xa = c9.xa ∧ ((True) ∧ (True) ∧ ((u.cm = c9.cm)))) (fun u t => va_P D vwCl ([] ++ (CW dA u)) t.heap ∧ va_D (va_A (HAppend.hAppend (α := va_W) (β := va_W) (γ := va_W) [] (CW dA c9)) sz) ([] ++ (CW dA u))) (va_A (HAppend.hAppend (α := va_W) (β := va_W) (γ := va_W) [] (CW dA c9)) sz)) (vx_X (fun (k : Nat × CS) => CI E (tn + 1) k.2 ∧ k.2.xa = c9.xa ∧ (k.1 = 3) ∧ ((True) ∧ ((k.2.cm = c9.cm)))) (fun E9 k t => E9 = xN k.1 ∧ va_P D vwCl ([] ++ (CW dA k.2)) t.heap ∧ va_D (va_A (HAppend.hAppend (α := va_W) (β := va_W) (γ := va_W) [] (CW dA c9)) sz) ([] ++ (CW dA k.2))) (va_A (HAppend.hAppend (α := va_W) (β := va_W) (γ := va_W) [] (CW dA c9)) sz)) 1 6 (va_A (HAppend.hAppend (α := va_W) (β := va_W) (γ := va_W) [] (CW dA c9)) sz) := x8_follow l hlt D dA E c9.xa c9.sh c9.cs c9.rp c9.zq c9.cm c9.vs c9.bd c9.op c9.mst c9.nst c9.cps c9.ars c9.fss c9.se c9.SK c9.SA c9.SB c9.mdd c9.nd c9.capd c9.ad0 c9.fdd c9.dt c9.TG c9.WH c9.CK c9.TW c9.TP c9.TX c9.NM c9.mvv c9.nv c9.capv c9.av0 c9.fvv c9.ve c9.VN c9.VC c9.VP c9.mq c9.nq c9.capq c9.aq0 c9.fq c9.eq c9.QK c9.QA c9.QB c9.QD c9.WT c9.QN c9.tS c9.tG c9.nsg c9.kS c9.kG c9.kd c9.ksg c9.rP c9.aq c9.fd c9.pp c9.t0 c9.sc c9.R0 c9.h0 c9.mm tn sz hI htn

set_option maxHeartbeats 4000000 in
set_option maxRecDepth 100000 in
theorem y8_seen (l : Launch) (hlt : l.stackTraces = false) (D : va_G) (dA : Nat → ClassId) (E : Nat) (c9 : CS) (tn : Nat) (p0 : Int32) (sz : Nat) (hI : CI E tn c9) (htn : tn ≤ 600) : vx_Met l yX8_seen (wq (.code yX8_seen cX8_seen 2 (some .int))) { frames := 7, cells := 1, slots := 6, locals := 108 } (va_Pc [.ref (c9.xa 0), .int p0] (PcB D dA E (HAppend.hAppend (α := va_W) (β := va_W) (γ := va_W) [] (CW dA c9)) sz)) (va_Qi (fun (r : Int32) (u : CS) => CI E (tn + 1) u ∧ u.xa = c9.xa ∧ ((True) ∧ (True) ∧ ((u.cm = c9.cm)))) (fun u t => va_P D vwCl ([] ++ (CW dA u)) t.heap ∧ va_D (va_A (HAppend.hAppend (α := va_W) (β := va_W) (γ := va_W) [] (CW dA c9)) sz) ([] ++ (CW dA u))) (va_A (HAppend.hAppend (α := va_W) (β := va_W) (γ := va_W) [] (CW dA c9)) sz)) (vx_X (fun (k : Nat × CS) => CI E (tn + 1) k.2 ∧ k.2.xa = c9.xa ∧ (k.1 = 2) ∧ ((True) ∧ ((k.2.cm = c9.cm)))) (fun E9 k t => E9 = xN k.1 ∧ va_P D vwCl ([] ++ (CW dA k.2)) t.heap ∧ va_D (va_A (HAppend.hAppend (α := va_W) (β := va_W) (γ := va_W) [] (CW dA c9)) sz) ([] ++ (CW dA k.2))) (va_A (HAppend.hAppend (α := va_W) (β := va_W) (γ := va_W) [] (CW dA c9)) sz)) 1 6 (va_A (HAppend.hAppend (α := va_W) (β := va_W) (γ := va_W) [] (CW dA c9)) sz) := x8_seen l hlt D dA E c9.xa c9.sh c9.cs c9.rp c9.zq c9.cm c9.vs c9.bd c9.op c9.mst c9.nst c9.cps c9.ars c9.fss c9.se c9.SK c9.SA c9.SB c9.mdd c9.nd c9.capd c9.ad0 c9.fdd c9.dt c9.TG c9.WH c9.CK c9.TW c9.TP c9.TX c9.NM c9.mvv c9.nv c9.capv c9.av0 c9.fvv c9.ve c9.VN c9.VC c9.VP c9.mq c9.nq c9.capq c9.aq0 c9.fq c9.eq c9.QK c9.QA c9.QB c9.QD c9.WT c9.QN c9.tS c9.tG c9.nsg c9.kS c9.kG c9.kd c9.ksg c9.rP c9.aq c9.fd c9.pp c9.t0 c9.sc c9.R0 c9.h0 c9.mm tn p0 sz hI htn

set_option maxHeartbeats 4000000 in
set_option maxRecDepth 100000 in
theorem y8_dropSteps (l : Launch) (D : va_G) (dA : Nat → ClassId) (E : Nat) (c9 : CS) (tn : Nat) (sz : Nat) (hI : CI E tn c9) (htn : tn ≤ 600) : Met l yX8_dropSteps (wq (.code yX8_dropSteps cX8_dropSteps 2 (some .int))) { frames := 1, cells := 0, slots := 0, locals := 23 } (va_Pc [.ref (c9.xa 0)] (PcB D dA E (HAppend.hAppend (α := va_W) (β := va_W) (γ := va_W) [] (CW dA c9)) sz)) (va_Qi (fun (r : Int32) (u : CS) => CI E (tn + 1) u ∧ u.xa = c9.xa ∧ ((True) ∧ (True) ∧ ((u.cm = c9.cm)))) (fun u t => va_P D vwCl ([] ++ (CW dA u)) t.heap ∧ va_D (va_A (HAppend.hAppend (α := va_W) (β := va_W) (γ := va_W) [] (CW dA c9)) sz) ([] ++ (CW dA u))) (va_A (HAppend.hAppend (α := va_W) (β := va_W) (γ := va_W) [] (CW dA c9)) sz)) 0 0 (va_A (HAppend.hAppend (α := va_W) (β := va_W) (γ := va_W) [] (CW dA c9)) sz) := x8_dropSteps l D dA E c9.xa c9.sh c9.cs c9.rp c9.zq c9.cm c9.vs c9.bd c9.op c9.mst c9.nst c9.cps c9.ars c9.fss c9.se c9.SK c9.SA c9.SB c9.mdd c9.nd c9.capd c9.ad0 c9.fdd c9.dt c9.TG c9.WH c9.CK c9.TW c9.TP c9.TX c9.NM c9.mvv c9.nv c9.capv c9.av0 c9.fvv c9.ve c9.VN c9.VC c9.VP c9.mq c9.nq c9.capq c9.aq0 c9.fq c9.eq c9.QK c9.QA c9.QB c9.QD c9.WT c9.QN c9.tS c9.tG c9.nsg c9.kS c9.kG c9.kd c9.ksg c9.rP c9.aq c9.fd c9.pp c9.t0 c9.sc c9.R0 c9.h0 c9.mm tn sz hI htn

set_option maxHeartbeats 4000000 in
set_option maxRecDepth 100000 in
theorem y8_addStep (l : Launch) (hlt : l.stackTraces = false) (D : va_G) (dA : Nat → ClassId) (E : Nat) (c9 : CS) (tn : Nat) (p0 : Int32) (p1 : Int32) (p2 : Int32) (sz : Nat) (hI : CI E tn c9) (htn : tn ≤ 600) (hch : narrow .char (.int p0) = .int p0 ∧ fits .char (.int p0) = true) : vx_Met l yX8_addStep (wq (.code yX8_addStep cX8_addStep 4 (some .int))) { frames := 6, cells := 2, slots := 13, locals := 101 } (va_Pc [.ref (c9.xa 0), .int p0, .int p1, .int p2] (PcB D dA E (HAppend.hAppend (α := va_W) (β := va_W) (γ := va_W) [] (CW dA c9)) sz)) (va_Qi (fun (r : Int32) (u : CS) => CI E (tn + 1) u ∧ u.xa = c9.xa ∧ ((True) ∧ (True) ∧ ((u.cm = c9.cm)))) (fun u t => va_P D vwCl ([] ++ (CW dA u)) t.heap ∧ va_D (va_A (HAppend.hAppend (α := va_W) (β := va_W) (γ := va_W) [] (CW dA c9)) sz) ([] ++ (CW dA u))) (va_A (HAppend.hAppend (α := va_W) (β := va_W) (γ := va_W) [] (CW dA c9)) sz)) (vx_X (fun (k : Nat × CS) => CI E (tn + 1) k.2 ∧ k.2.xa = c9.xa ∧ (k.1 = 1 ∨ k.1 = 3) ∧ ((True) ∧ ((k.2.cm = c9.cm)))) (fun E9 k t => E9 = xN k.1 ∧ va_P D vwCl ([] ++ (CW dA k.2)) t.heap ∧ va_D (va_A (HAppend.hAppend (α := va_W) (β := va_W) (γ := va_W) [] (CW dA c9)) sz) ([] ++ (CW dA k.2))) (va_A (HAppend.hAppend (α := va_W) (β := va_W) (γ := va_W) [] (CW dA c9)) sz)) 2 13 (va_A (HAppend.hAppend (α := va_W) (β := va_W) (γ := va_W) [] (CW dA c9)) sz) := x8_addStep l hlt D dA E c9.xa c9.sh c9.cs c9.rp c9.zq c9.cm c9.vs c9.bd c9.op c9.mst c9.nst c9.cps c9.ars c9.fss c9.se c9.SK c9.SA c9.SB c9.mdd c9.nd c9.capd c9.ad0 c9.fdd c9.dt c9.TG c9.WH c9.CK c9.TW c9.TP c9.TX c9.NM c9.mvv c9.nv c9.capv c9.av0 c9.fvv c9.ve c9.VN c9.VC c9.VP c9.mq c9.nq c9.capq c9.aq0 c9.fq c9.eq c9.QK c9.QA c9.QB c9.QD c9.WT c9.QN c9.tS c9.tG c9.nsg c9.kS c9.kG c9.kd c9.ksg c9.rP c9.aq c9.fd c9.pp c9.t0 c9.sc c9.R0 c9.h0 c9.mm tn p0 p1 p2 sz hI htn hch

set_option maxHeartbeats 4000000 in
set_option maxRecDepth 100000 in
theorem y8_ask (l : Launch) (hlt : l.stackTraces = false) (D : va_G) (dA : Nat → ClassId) (E : Nat) (c9 : CS) (tn : Nat) (p0 : Int32) (p1 : Int32) (p2 : Int32) (p3 : Int32) (p4 : Int32) (sz : Nat) (hI : CI E tn c9) (htn : tn ≤ 600) (hch : narrow .char (.int p0) = .int p0 ∧ fits .char (.int p0) = true) : vx_Met l yX8_ask (wq (.code yX8_ask cX8_ask 6 (some .int))) { frames := 7, cells := 2, slots := 55, locals := 161 } (va_Pc [.ref (c9.xa 0), .int p0, .int p1, .int p2, .int p3, .int p4] (PcB D dA E (HAppend.hAppend (α := va_W) (β := va_W) (γ := va_W) [] (CW dA c9)) sz)) (va_Qi (fun (r : Int32) (u : CS) => CI E (tn + 1) u ∧ u.xa = c9.xa ∧ ((True) ∧ (True) ∧ ((u.cm = c9.cm)))) (fun u t => va_P D vwCl ([] ++ (CW dA u)) t.heap ∧ va_D (va_A (HAppend.hAppend (α := va_W) (β := va_W) (γ := va_W) [] (CW dA c9)) sz) ([] ++ (CW dA u))) (va_A (HAppend.hAppend (α := va_W) (β := va_W) (γ := va_W) [] (CW dA c9)) sz)) (vx_X (fun (k : Nat × CS) => CI E (tn + 1) k.2 ∧ k.2.xa = c9.xa ∧ (k.1 = 1 ∨ k.1 = 3) ∧ ((True) ∧ ((k.2.cm = c9.cm)))) (fun E9 k t => E9 = xN k.1 ∧ va_P D vwCl ([] ++ (CW dA k.2)) t.heap ∧ va_D (va_A (HAppend.hAppend (α := va_W) (β := va_W) (γ := va_W) [] (CW dA c9)) sz) ([] ++ (CW dA k.2))) (va_A (HAppend.hAppend (α := va_W) (β := va_W) (γ := va_W) [] (CW dA c9)) sz)) 2 55 (va_A (HAppend.hAppend (α := va_W) (β := va_W) (γ := va_W) [] (CW dA c9)) sz) := x8_ask l hlt D dA E c9.xa c9.sh c9.cs c9.rp c9.zq c9.cm c9.vs c9.bd c9.op c9.mst c9.nst c9.cps c9.ars c9.fss c9.se c9.SK c9.SA c9.SB c9.mdd c9.nd c9.capd c9.ad0 c9.fdd c9.dt c9.TG c9.WH c9.CK c9.TW c9.TP c9.TX c9.NM c9.mvv c9.nv c9.capv c9.av0 c9.fvv c9.ve c9.VN c9.VC c9.VP c9.mq c9.nq c9.capq c9.aq0 c9.fq c9.eq c9.QK c9.QA c9.QB c9.QD c9.WT c9.QN c9.tS c9.tG c9.nsg c9.kS c9.kG c9.kd c9.ksg c9.rP c9.aq c9.fd c9.pp c9.t0 c9.sc c9.R0 c9.h0 c9.mm tn p0 p1 p2 p3 p4 sz hI htn hch

set_option maxHeartbeats 4000000 in
set_option maxRecDepth 100000 in
theorem y8_join (l : Launch) (hlt : l.stackTraces = false) (D : va_G) (dA : Nat → ClassId) (E : Nat) (c9 : CS) (tn : Nat) (p0 : Int32) (p1 : Int32) (p2 : Int32) (sz : Nat) (hI : CI E tn c9) (htn : tn ≤ 600) (hch : narrow .char (.int p0) = .int p0 ∧ fits .char (.int p0) = true) : vx_Met l yX8_join (wq (.code yX8_join cX8_join 5 (some .int))) { frames := 7, cells := 4, slots := 67, locals := 161 } (va_Pc [.ref (c9.xa 0), .int p0, .int p1, .int p2] (PcB D dA E (HAppend.hAppend (α := va_W) (β := va_W) (γ := va_W) [] (CW dA c9)) sz)) (va_Qi (fun (r : Int32) (u : CS) => CI E (tn + 1) u ∧ u.xa = c9.xa ∧ ((True) ∧ (True) ∧ ((u.cm = c9.cm)))) (fun u t => va_P D vwCl ([] ++ (CW dA u)) t.heap ∧ va_D (va_A (HAppend.hAppend (α := va_W) (β := va_W) (γ := va_W) [] (CW dA c9)) sz) ([] ++ (CW dA u))) (va_A (HAppend.hAppend (α := va_W) (β := va_W) (γ := va_W) [] (CW dA c9)) sz)) (vx_X (fun (k : Nat × CS) => CI E (tn + 1) k.2 ∧ k.2.xa = c9.xa ∧ (k.1 = 1 ∨ k.1 = 2 ∨ k.1 = 3) ∧ ((True) ∧ ((k.2.cm = c9.cm)))) (fun E9 k t => E9 = xN k.1 ∧ va_P D vwCl ([] ++ (CW dA k.2)) t.heap ∧ va_D (va_A (HAppend.hAppend (α := va_W) (β := va_W) (γ := va_W) [] (CW dA c9)) sz) ([] ++ (CW dA k.2))) (va_A (HAppend.hAppend (α := va_W) (β := va_W) (γ := va_W) [] (CW dA c9)) sz)) 4 67 (va_A (HAppend.hAppend (α := va_W) (β := va_W) (γ := va_W) [] (CW dA c9)) sz) := x8_join l hlt D dA E c9.xa c9.sh c9.cs c9.rp c9.zq c9.cm c9.vs c9.bd c9.op c9.mst c9.nst c9.cps c9.ars c9.fss c9.se c9.SK c9.SA c9.SB c9.mdd c9.nd c9.capd c9.ad0 c9.fdd c9.dt c9.TG c9.WH c9.CK c9.TW c9.TP c9.TX c9.NM c9.mvv c9.nv c9.capv c9.av0 c9.fvv c9.ve c9.VN c9.VC c9.VP c9.mq c9.nq c9.capq c9.aq0 c9.fq c9.eq c9.QK c9.QA c9.QB c9.QD c9.WT c9.QN c9.tS c9.tG c9.nsg c9.kS c9.kG c9.kd c9.ksg c9.rP c9.aq c9.fd c9.pp c9.t0 c9.sc c9.R0 c9.h0 c9.mm tn p0 p1 p2 sz hI htn hch

set_option maxHeartbeats 4000000 in
set_option maxRecDepth 100000 in
theorem y8_openView (l : Launch) (hlt : l.stackTraces = false) (D : va_G) (dA : Nat → ClassId) (E : Nat) (c9 : CS) (tn : Nat) (sz : Nat) (hI : CI E tn c9) (htn : tn ≤ 600) : vx_Met l yX8_openView (wq (.code yX8_openView cX8_openView 3 (some .int))) { frames := 6, cells := 4, slots := 44, locals := 101 } (va_Pc [.ref (c9.xa 0)] (PcB D dA E (HAppend.hAppend (α := va_W) (β := va_W) (γ := va_W) [] (CW dA c9)) sz)) (va_Qi (fun (r : Int32) (u : CS) => CI E (tn + 1) u ∧ u.xa = c9.xa ∧ ((True) ∧ (True) ∧ ((u.cm = c9.cm)))) (fun u t => va_P D vwCl ([] ++ (CW dA u)) t.heap ∧ va_D (va_A (HAppend.hAppend (α := va_W) (β := va_W) (γ := va_W) [] (CW dA c9)) sz) ([] ++ (CW dA u))) (va_A (HAppend.hAppend (α := va_W) (β := va_W) (γ := va_W) [] (CW dA c9)) sz)) (vx_X (fun (k : Nat × CS) => CI E (tn + 1) k.2 ∧ k.2.xa = c9.xa ∧ (k.1 = 3) ∧ ((True) ∧ ((k.2.cm = c9.cm)))) (fun E9 k t => E9 = xN k.1 ∧ va_P D vwCl ([] ++ (CW dA k.2)) t.heap ∧ va_D (va_A (HAppend.hAppend (α := va_W) (β := va_W) (γ := va_W) [] (CW dA c9)) sz) ([] ++ (CW dA k.2))) (va_A (HAppend.hAppend (α := va_W) (β := va_W) (γ := va_W) [] (CW dA c9)) sz)) 4 44 (va_A (HAppend.hAppend (α := va_W) (β := va_W) (γ := va_W) [] (CW dA c9)) sz) := x8_openView l hlt D dA E c9.xa c9.sh c9.cs c9.rp c9.zq c9.cm c9.vs c9.bd c9.op c9.mst c9.nst c9.cps c9.ars c9.fss c9.se c9.SK c9.SA c9.SB c9.mdd c9.nd c9.capd c9.ad0 c9.fdd c9.dt c9.TG c9.WH c9.CK c9.TW c9.TP c9.TX c9.NM c9.mvv c9.nv c9.capv c9.av0 c9.fvv c9.ve c9.VN c9.VC c9.VP c9.mq c9.nq c9.capq c9.aq0 c9.fq c9.eq c9.QK c9.QA c9.QB c9.QD c9.WT c9.QN c9.tS c9.tG c9.nsg c9.kS c9.kG c9.kd c9.ksg c9.rP c9.aq c9.fd c9.pp c9.t0 c9.sc c9.R0 c9.h0 c9.mm tn sz hI htn

set_option maxHeartbeats 4000000 in
set_option maxRecDepth 100000 in
theorem y8_closeView (l : Launch) (hlt : l.stackTraces = false) (D : va_G) (dA : Nat → ClassId) (E : Nat) (c9 : CS) (tn : Nat) (p0 : Int32) (sz : Nat) (hI : CI E tn c9) (htn : tn ≤ 600) : vx_Met l yX8_closeView (wq (.code yX8_closeView cX8_closeView 3 (some .int))) { frames := 6, cells := 1, slots := 6, locals := 86 } (va_Pc [.ref (c9.xa 0), .int p0] (PcB D dA E (HAppend.hAppend (α := va_W) (β := va_W) (γ := va_W) [] (CW dA c9)) sz)) (va_Qi (fun (r : Int32) (u : CS) => CI E (tn + 1) u ∧ u.xa = c9.xa ∧ ((True) ∧ (True) ∧ ((u.cm = c9.cm)))) (fun u t => va_P D vwCl ([] ++ (CW dA u)) t.heap ∧ va_D (va_A (HAppend.hAppend (α := va_W) (β := va_W) (γ := va_W) [] (CW dA c9)) sz) ([] ++ (CW dA u))) (va_A (HAppend.hAppend (α := va_W) (β := va_W) (γ := va_W) [] (CW dA c9)) sz)) (vx_X (fun (k : Nat × CS) => CI E (tn + 1) k.2 ∧ k.2.xa = c9.xa ∧ (k.1 = 2) ∧ ((True) ∧ ((k.2.cm = c9.cm)))) (fun E9 k t => E9 = xN k.1 ∧ va_P D vwCl ([] ++ (CW dA k.2)) t.heap ∧ va_D (va_A (HAppend.hAppend (α := va_W) (β := va_W) (γ := va_W) [] (CW dA c9)) sz) ([] ++ (CW dA k.2))) (va_A (HAppend.hAppend (α := va_W) (β := va_W) (γ := va_W) [] (CW dA c9)) sz)) 1 6 (va_A (HAppend.hAppend (α := va_W) (β := va_W) (γ := va_W) [] (CW dA c9)) sz) := x8_closeView l hlt D dA E c9.xa c9.sh c9.cs c9.rp c9.zq c9.cm c9.vs c9.bd c9.op c9.mst c9.nst c9.cps c9.ars c9.fss c9.se c9.SK c9.SA c9.SB c9.mdd c9.nd c9.capd c9.ad0 c9.fdd c9.dt c9.TG c9.WH c9.CK c9.TW c9.TP c9.TX c9.NM c9.mvv c9.nv c9.capv c9.av0 c9.fvv c9.ve c9.VN c9.VC c9.VP c9.mq c9.nq c9.capq c9.aq0 c9.fq c9.eq c9.QK c9.QA c9.QB c9.QD c9.WT c9.QN c9.tS c9.tG c9.nsg c9.kS c9.kG c9.kd c9.ksg c9.rP c9.aq c9.fd c9.pp c9.t0 c9.sc c9.R0 c9.h0 c9.mm tn p0 sz hI htn

set_option maxHeartbeats 4000000 in
set_option maxRecDepth 100000 in
theorem y8_open (l : Launch) (hlt : l.stackTraces = false) (D : va_G) (dA : Nat → ClassId) (E : Nat) (c9 : CS) (tn : Nat) (p0 : Int32) (p1 : Int32) (sz : Nat) (hI : CI E tn c9) (htn : tn ≤ 600) : vx_Met l yX8_open (wq (.code yX8_open cX8_open 3 (some .int))) { frames := 7, cells := 10, slots := 275, locals := 103 } (va_Pc [.ref (c9.xa 0), .int p0, .int p1] (PcB D dA E (HAppend.hAppend (α := va_W) (β := va_W) (γ := va_W) [] (CW dA c9)) sz)) (va_Qi (fun (r : Int32) (u : CS) => CI E (tn + 1) u ∧ u.xa = c9.xa ∧ ((True) ∧ (True) ∧ ((u.cm = c9.cm)))) (fun u t => va_P D vwCl ([] ++ (CW dA u)) t.heap ∧ va_D (va_A (HAppend.hAppend (α := va_W) (β := va_W) (γ := va_W) [] (CW dA c9)) sz) ([] ++ (CW dA u))) (va_A (HAppend.hAppend (α := va_W) (β := va_W) (γ := va_W) [] (CW dA c9)) sz)) (vx_X (fun (k : Nat × CS) => CI E (tn + 1) k.2 ∧ k.2.xa = c9.xa ∧ (k.1 = 1 ∨ k.1 = 2 ∨ k.1 = 3) ∧ ((True) ∧ ((k.2.cm = c9.cm)))) (fun E9 k t => E9 = xN k.1 ∧ va_P D vwCl ([] ++ (CW dA k.2)) t.heap ∧ va_D (va_A (HAppend.hAppend (α := va_W) (β := va_W) (γ := va_W) [] (CW dA c9)) sz) ([] ++ (CW dA k.2))) (va_A (HAppend.hAppend (α := va_W) (β := va_W) (γ := va_W) [] (CW dA c9)) sz)) 10 275 (va_A (HAppend.hAppend (α := va_W) (β := va_W) (γ := va_W) [] (CW dA c9)) sz) := x8_open l hlt D dA E c9.xa c9.sh c9.cs c9.rp c9.zq c9.cm c9.vs c9.bd c9.op c9.mst c9.nst c9.cps c9.ars c9.fss c9.se c9.SK c9.SA c9.SB c9.mdd c9.nd c9.capd c9.ad0 c9.fdd c9.dt c9.TG c9.WH c9.CK c9.TW c9.TP c9.TX c9.NM c9.mvv c9.nv c9.capv c9.av0 c9.fvv c9.ve c9.VN c9.VC c9.VP c9.mq c9.nq c9.capq c9.aq0 c9.fq c9.eq c9.QK c9.QA c9.QB c9.QD c9.WT c9.QN c9.tS c9.tG c9.nsg c9.kS c9.kG c9.kd c9.ksg c9.rP c9.aq c9.fd c9.pp c9.t0 c9.sc c9.R0 c9.h0 c9.mm tn p0 p1 sz hI htn

set_option maxHeartbeats 4000000 in
set_option maxRecDepth 100000 in
theorem y8_addWord (l : Launch) (hlt : l.stackTraces = false) (D : va_G) (dA : Nat → ClassId) (E : Nat) (c9 : CS) (tn : Nat) (p0 : Int32) (sz : Nat) (hI : CI E tn c9) (htn : tn ≤ 600) : vx_Met l yX8_addWord (wq (.code yX8_addWord cX8_addWord 4 (some .int))) { frames := 6, cells := 1, slots := 6, locals := 82 } (va_Pc [.ref (c9.xa 0), .int p0] (PcB D dA E (HAppend.hAppend (α := va_W) (β := va_W) (γ := va_W) [] (CW dA c9)) sz)) (va_Qi (fun (r : Int32) (u : CS) => CI E (tn + 1) u ∧ u.xa = c9.xa ∧ ((True) ∧ (True) ∧ ((u.cm = c9.cm)))) (fun u t => va_P D vwCl ([] ++ (CW dA u)) t.heap ∧ va_D (va_A (HAppend.hAppend (α := va_W) (β := va_W) (γ := va_W) [] (CW dA c9)) sz) ([] ++ (CW dA u))) (va_A (HAppend.hAppend (α := va_W) (β := va_W) (γ := va_W) [] (CW dA c9)) sz)) (vx_X (fun (k : Nat × CS) => CI E (tn + 1) k.2 ∧ k.2.xa = c9.xa ∧ (k.1 = 1 ∨ k.1 = 3) ∧ ((True) ∧ ((k.2.cm = c9.cm)))) (fun E9 k t => E9 = xN k.1 ∧ va_P D vwCl ([] ++ (CW dA k.2)) t.heap ∧ va_D (va_A (HAppend.hAppend (α := va_W) (β := va_W) (γ := va_W) [] (CW dA c9)) sz) ([] ++ (CW dA k.2))) (va_A (HAppend.hAppend (α := va_W) (β := va_W) (γ := va_W) [] (CW dA c9)) sz)) 1 6 (va_A (HAppend.hAppend (α := va_W) (β := va_W) (γ := va_W) [] (CW dA c9)) sz) := x8_addWord l hlt D dA E c9.xa c9.sh c9.cs c9.rp c9.zq c9.cm c9.vs c9.bd c9.op c9.mst c9.nst c9.cps c9.ars c9.fss c9.se c9.SK c9.SA c9.SB c9.mdd c9.nd c9.capd c9.ad0 c9.fdd c9.dt c9.TG c9.WH c9.CK c9.TW c9.TP c9.TX c9.NM c9.mvv c9.nv c9.capv c9.av0 c9.fvv c9.ve c9.VN c9.VC c9.VP c9.mq c9.nq c9.capq c9.aq0 c9.fq c9.eq c9.QK c9.QA c9.QB c9.QD c9.WT c9.QN c9.tS c9.tG c9.nsg c9.kS c9.kG c9.kd c9.ksg c9.rP c9.aq c9.fd c9.pp c9.t0 c9.sc c9.R0 c9.h0 c9.mm tn p0 sz hI htn

set_option maxHeartbeats 4000000 in
set_option maxRecDepth 100000 in
theorem y8_crash (l : Launch) (D : va_G) (dA : Nat → ClassId) (E : Nat) (c9 : CS) (tn : Nat) (sz : Nat) (hI : CI E tn c9) (htn : tn ≤ 600) : Met l yX8_crash (wq (.code yX8_crash cX8_crash 1 (some .int))) { frames := 4, cells := 0, slots := 0, locals := 88 } (va_Pc [.ref (c9.xa 0)] (PcB D dA E (HAppend.hAppend (α := va_W) (β := va_W) (γ := va_W) [] (CW dA c9)) sz)) (va_Qi (fun (r : Int32) (u : CS) => CI E (tn + 1) u ∧ u.xa = c9.xa ∧ ((True) ∧ (True) ∧ ((u.cm = c9.cm)))) (fun u t => va_P D vwCl ([] ++ (CW dA u)) t.heap ∧ va_D (va_A (HAppend.hAppend (α := va_W) (β := va_W) (γ := va_W) [] (CW dA c9)) sz) ([] ++ (CW dA u))) (va_A (HAppend.hAppend (α := va_W) (β := va_W) (γ := va_W) [] (CW dA c9)) sz)) 0 0 (va_A (HAppend.hAppend (α := va_W) (β := va_W) (γ := va_W) [] (CW dA c9)) sz) := x8_crash l D dA E c9.xa c9.sh c9.cs c9.rp c9.zq c9.cm c9.vs c9.bd c9.op c9.mst c9.nst c9.cps c9.ars c9.fss c9.se c9.SK c9.SA c9.SB c9.mdd c9.nd c9.capd c9.ad0 c9.fdd c9.dt c9.TG c9.WH c9.CK c9.TW c9.TP c9.TX c9.NM c9.mvv c9.nv c9.capv c9.av0 c9.fvv c9.ve c9.VN c9.VC c9.VP c9.mq c9.nq c9.capq c9.aq0 c9.fq c9.eq c9.QK c9.QA c9.QB c9.QD c9.WT c9.QN c9.tS c9.tG c9.nsg c9.kS c9.kG c9.kd c9.ksg c9.rP c9.aq c9.fd c9.pp c9.t0 c9.sc c9.R0 c9.h0 c9.mm tn sz hI htn

set_option maxHeartbeats 4000000 in
set_option maxRecDepth 100000 in
theorem y8_hits (l : Launch) (hlt : l.stackTraces = false) (D : va_G) (dA : Nat → ClassId) (E : Nat) (c9 : CS) (tn : Nat) (p0 : Int32) (p1 : Int32) (sz : Nat) (hI : CI E tn c9) (htn : tn ≤ 600) : vx_Met l yX8_hits (wq (.code yX8_hits cX8_hits 3 (some .int))) { frames := 8, cells := 2, slots := 12, locals := 147 } (va_Pc [.ref (c9.xa 0), .int p0, .int p1] (PcB D dA E (HAppend.hAppend (α := va_W) (β := va_W) (γ := va_W) [] (CW dA c9)) sz)) (va_Qi (fun (r : Int32) (u : CS) => CI E (tn + 1) u ∧ u.xa = c9.xa ∧ ((True) ∧ (True) ∧ ((u.cm = c9.cm)))) (fun u t => va_P D vwCl ([] ++ (CW dA u)) t.heap ∧ va_D (va_A (HAppend.hAppend (α := va_W) (β := va_W) (γ := va_W) [] (CW dA c9)) sz) ([] ++ (CW dA u))) (va_A (HAppend.hAppend (α := va_W) (β := va_W) (γ := va_W) [] (CW dA c9)) sz)) (vx_X (fun (k : Nat × CS) => CI E (tn + 1) k.2 ∧ k.2.xa = c9.xa ∧ (k.1 = 2) ∧ ((True) ∧ ((k.2.cm = c9.cm)))) (fun E9 k t => E9 = xN k.1 ∧ va_P D vwCl ([] ++ (CW dA k.2)) t.heap ∧ va_D (va_A (HAppend.hAppend (α := va_W) (β := va_W) (γ := va_W) [] (CW dA c9)) sz) ([] ++ (CW dA k.2))) (va_A (HAppend.hAppend (α := va_W) (β := va_W) (γ := va_W) [] (CW dA c9)) sz)) 2 12 (va_A (HAppend.hAppend (α := va_W) (β := va_W) (γ := va_W) [] (CW dA c9)) sz) := x8_hits l hlt D dA E c9.xa c9.sh c9.cs c9.rp c9.zq c9.cm c9.vs c9.bd c9.op c9.mst c9.nst c9.cps c9.ars c9.fss c9.se c9.SK c9.SA c9.SB c9.mdd c9.nd c9.capd c9.ad0 c9.fdd c9.dt c9.TG c9.WH c9.CK c9.TW c9.TP c9.TX c9.NM c9.mvv c9.nv c9.capv c9.av0 c9.fvv c9.ve c9.VN c9.VC c9.VP c9.mq c9.nq c9.capq c9.aq0 c9.fq c9.eq c9.QK c9.QA c9.QB c9.QD c9.WT c9.QN c9.tS c9.tG c9.nsg c9.kS c9.kG c9.kd c9.ksg c9.rP c9.aq c9.fd c9.pp c9.t0 c9.sc c9.R0 c9.h0 c9.mm tn p0 p1 sz hI htn

set_option maxHeartbeats 4000000 in
set_option maxRecDepth 100000 in
theorem y8_hit (l : Launch) (hlt : l.stackTraces = false) (D : va_G) (dA : Nat → ClassId) (E : Nat) (c9 : CS) (tn : Nat) (p0 : Int32) (p1 : Int32) (p2 : Int32) (sz : Nat) (hI : CI E tn c9) (htn : tn ≤ 600) : vx_Met l yX8_hit (wq (.code yX8_hit cX8_hit 4 (some .int))) { frames := 8, cells := 3, slots := 18, locals := 147 } (va_Pc [.ref (c9.xa 0), .int p0, .int p1, .int p2] (PcB D dA E (HAppend.hAppend (α := va_W) (β := va_W) (γ := va_W) [] (CW dA c9)) sz)) (va_Qi (fun (r : Int32) (u : CS) => CI E (tn + 1) u ∧ u.xa = c9.xa ∧ ((True) ∧ (True) ∧ ((u.cm = c9.cm)))) (fun u t => va_P D vwCl ([] ++ (CW dA u)) t.heap ∧ va_D (va_A (HAppend.hAppend (α := va_W) (β := va_W) (γ := va_W) [] (CW dA c9)) sz) ([] ++ (CW dA u))) (va_A (HAppend.hAppend (α := va_W) (β := va_W) (γ := va_W) [] (CW dA c9)) sz)) (vx_X (fun (k : Nat × CS) => CI E (tn + 1) k.2 ∧ k.2.xa = c9.xa ∧ (k.1 = 2 ∨ k.1 = 5) ∧ ((True) ∧ ((k.2.cm = c9.cm)))) (fun E9 k t => E9 = xN k.1 ∧ va_P D vwCl ([] ++ (CW dA k.2)) t.heap ∧ va_D (va_A (HAppend.hAppend (α := va_W) (β := va_W) (γ := va_W) [] (CW dA c9)) sz) ([] ++ (CW dA k.2))) (va_A (HAppend.hAppend (α := va_W) (β := va_W) (γ := va_W) [] (CW dA c9)) sz)) 3 18 (va_A (HAppend.hAppend (α := va_W) (β := va_W) (γ := va_W) [] (CW dA c9)) sz) := x8_hit l hlt D dA E c9.xa c9.sh c9.cs c9.rp c9.zq c9.cm c9.vs c9.bd c9.op c9.mst c9.nst c9.cps c9.ars c9.fss c9.se c9.SK c9.SA c9.SB c9.mdd c9.nd c9.capd c9.ad0 c9.fdd c9.dt c9.TG c9.WH c9.CK c9.TW c9.TP c9.TX c9.NM c9.mvv c9.nv c9.capv c9.av0 c9.fvv c9.ve c9.VN c9.VC c9.VP c9.mq c9.nq c9.capq c9.aq0 c9.fq c9.eq c9.QK c9.QA c9.QB c9.QD c9.WT c9.QN c9.tS c9.tG c9.nsg c9.kS c9.kG c9.kd c9.ksg c9.rP c9.aq c9.fd c9.pp c9.t0 c9.sc c9.R0 c9.h0 c9.mm tn p0 p1 p2 sz hI htn

set_option maxHeartbeats 4000000 in
set_option maxRecDepth 100000 in
theorem y8_score (l : Launch) (hlt : l.stackTraces = false) (D : va_G) (dA : Nat → ClassId) (E : Nat) (c9 : CS) (tn : Nat) (p0 : Int32) (p1 : Int32) (p2 : Int32) (sz : Nat) (hI : CI E tn c9) (htn : tn ≤ 600) : vx_Met l yX8_score (wq (.code yX8_score cX8_score 4 (some .long))) { frames := 8, cells := 3, slots := 18, locals := 147 } (va_Pc [.ref (c9.xa 0), .int p0, .int p1, .int p2] (PcB D dA E (HAppend.hAppend (α := va_W) (β := va_W) (γ := va_W) [] (CW dA c9)) sz)) (va_Ql (fun (r : Int64) (u : CS) => CI E (tn + 1) u ∧ u.xa = c9.xa ∧ ((True) ∧ (True) ∧ ((u.cm = c9.cm)))) (fun u t => va_P D vwCl ([] ++ (CW dA u)) t.heap ∧ va_D (va_A (HAppend.hAppend (α := va_W) (β := va_W) (γ := va_W) [] (CW dA c9)) sz) ([] ++ (CW dA u))) (va_A (HAppend.hAppend (α := va_W) (β := va_W) (γ := va_W) [] (CW dA c9)) sz)) (vx_X (fun (k : Nat × CS) => CI E (tn + 1) k.2 ∧ k.2.xa = c9.xa ∧ (k.1 = 2 ∨ k.1 = 5) ∧ ((True) ∧ ((k.2.cm = c9.cm)))) (fun E9 k t => E9 = xN k.1 ∧ va_P D vwCl ([] ++ (CW dA k.2)) t.heap ∧ va_D (va_A (HAppend.hAppend (α := va_W) (β := va_W) (γ := va_W) [] (CW dA c9)) sz) ([] ++ (CW dA k.2))) (va_A (HAppend.hAppend (α := va_W) (β := va_W) (γ := va_W) [] (CW dA c9)) sz)) 3 18 (va_A (HAppend.hAppend (α := va_W) (β := va_W) (γ := va_W) [] (CW dA c9)) sz) := x8_score l hlt D dA E c9.xa c9.sh c9.cs c9.rp c9.zq c9.cm c9.vs c9.bd c9.op c9.mst c9.nst c9.cps c9.ars c9.fss c9.se c9.SK c9.SA c9.SB c9.mdd c9.nd c9.capd c9.ad0 c9.fdd c9.dt c9.TG c9.WH c9.CK c9.TW c9.TP c9.TX c9.NM c9.mvv c9.nv c9.capv c9.av0 c9.fvv c9.ve c9.VN c9.VC c9.VP c9.mq c9.nq c9.capq c9.aq0 c9.fq c9.eq c9.QK c9.QA c9.QB c9.QD c9.WT c9.QN c9.tS c9.tG c9.nsg c9.kS c9.kG c9.kd c9.ksg c9.rP c9.aq c9.fd c9.pp c9.t0 c9.sc c9.R0 c9.h0 c9.mm tn p0 p1 p2 sz hI htn

set_option maxHeartbeats 4000000 in
set_option maxRecDepth 100000 in
theorem y8_scoreAlone (l : Launch) (hlt : l.stackTraces = false) (D : va_G) (dA : Nat → ClassId) (E : Nat) (c9 : CS) (tn : Nat) (p0 : Int32) (p1 : Int32) (p2 : Int32) (sz : Nat) (hI : CI E tn c9) (htn : tn ≤ 600) : vx_Met l yX8_scoreAlone (wq (.code yX8_scoreAlone cX8_scoreAlone 4 (some .long))) { frames := 8, cells := 3, slots := 18, locals := 147 } (va_Pc [.ref (c9.xa 0), .int p0, .int p1, .int p2] (PcB D dA E (HAppend.hAppend (α := va_W) (β := va_W) (γ := va_W) [] (CW dA c9)) sz)) (va_Ql (fun (r : Int64) (u : CS) => CI E (tn + 1) u ∧ u.xa = c9.xa ∧ ((True) ∧ (True) ∧ ((u.cm = c9.cm)))) (fun u t => va_P D vwCl ([] ++ (CW dA u)) t.heap ∧ va_D (va_A (HAppend.hAppend (α := va_W) (β := va_W) (γ := va_W) [] (CW dA c9)) sz) ([] ++ (CW dA u))) (va_A (HAppend.hAppend (α := va_W) (β := va_W) (γ := va_W) [] (CW dA c9)) sz)) (vx_X (fun (k : Nat × CS) => CI E (tn + 1) k.2 ∧ k.2.xa = c9.xa ∧ (k.1 = 2) ∧ ((True) ∧ ((k.2.cm = c9.cm)))) (fun E9 k t => E9 = xN k.1 ∧ va_P D vwCl ([] ++ (CW dA k.2)) t.heap ∧ va_D (va_A (HAppend.hAppend (α := va_W) (β := va_W) (γ := va_W) [] (CW dA c9)) sz) ([] ++ (CW dA k.2))) (va_A (HAppend.hAppend (α := va_W) (β := va_W) (γ := va_W) [] (CW dA c9)) sz)) 3 18 (va_A (HAppend.hAppend (α := va_W) (β := va_W) (γ := va_W) [] (CW dA c9)) sz) := x8_scoreAlone l hlt D dA E c9.xa c9.sh c9.cs c9.rp c9.zq c9.cm c9.vs c9.bd c9.op c9.mst c9.nst c9.cps c9.ars c9.fss c9.se c9.SK c9.SA c9.SB c9.mdd c9.nd c9.capd c9.ad0 c9.fdd c9.dt c9.TG c9.WH c9.CK c9.TW c9.TP c9.TX c9.NM c9.mvv c9.nv c9.capv c9.av0 c9.fvv c9.ve c9.VN c9.VC c9.VP c9.mq c9.nq c9.capq c9.aq0 c9.fq c9.eq c9.QK c9.QA c9.QB c9.QD c9.WT c9.QN c9.tS c9.tG c9.nsg c9.kS c9.kG c9.kd c9.ksg c9.rP c9.aq c9.fd c9.pp c9.t0 c9.sc c9.R0 c9.h0 c9.mm tn p0 p1 p2 sz hI htn

set_option maxHeartbeats 4000000 in
set_option maxRecDepth 100000 in
theorem y8_tagged (l : Launch) (hlt : l.stackTraces = false) (D : va_G) (dA : Nat → ClassId) (E : Nat) (c9 : CS) (tn : Nat) (p0 : Int32) (p1 : Int32) (p2 : Int32) (sz : Nat) (hI : CI E tn c9) (htn : tn ≤ 600) : vx_Met l yX8_tagged (wq (.code yX8_tagged cX8_tagged 6 (some .int))) { frames := 8, cells := 3, slots := 18, locals := 147 } (va_Pc [.ref (c9.xa 0), .int p0, .int p1, .int p2] (PcB D dA E (HAppend.hAppend (α := va_W) (β := va_W) (γ := va_W) [] (CW dA c9)) sz)) (va_Qi (fun (r : Int32) (u : CS) => CI E (tn + 1) u ∧ u.xa = c9.xa ∧ ((True) ∧ (True) ∧ ((u.cm = c9.cm)))) (fun u t => va_P D vwCl ([] ++ (CW dA u)) t.heap ∧ va_D (va_A (HAppend.hAppend (α := va_W) (β := va_W) (γ := va_W) [] (CW dA c9)) sz) ([] ++ (CW dA u))) (va_A (HAppend.hAppend (α := va_W) (β := va_W) (γ := va_W) [] (CW dA c9)) sz)) (vx_X (fun (k : Nat × CS) => CI E (tn + 1) k.2 ∧ k.2.xa = c9.xa ∧ (k.1 = 2 ∨ k.1 = 1) ∧ ((True) ∧ ((k.2.cm = c9.cm)))) (fun E9 k t => E9 = xN k.1 ∧ va_P D vwCl ([] ++ (CW dA k.2)) t.heap ∧ va_D (va_A (HAppend.hAppend (α := va_W) (β := va_W) (γ := va_W) [] (CW dA c9)) sz) ([] ++ (CW dA k.2))) (va_A (HAppend.hAppend (α := va_W) (β := va_W) (γ := va_W) [] (CW dA c9)) sz)) 3 18 (va_A (HAppend.hAppend (α := va_W) (β := va_W) (γ := va_W) [] (CW dA c9)) sz) := x8_tagged l hlt D dA E c9.xa c9.sh c9.cs c9.rp c9.zq c9.cm c9.vs c9.bd c9.op c9.mst c9.nst c9.cps c9.ars c9.fss c9.se c9.SK c9.SA c9.SB c9.mdd c9.nd c9.capd c9.ad0 c9.fdd c9.dt c9.TG c9.WH c9.CK c9.TW c9.TP c9.TX c9.NM c9.mvv c9.nv c9.capv c9.av0 c9.fvv c9.ve c9.VN c9.VC c9.VP c9.mq c9.nq c9.capq c9.aq0 c9.fq c9.eq c9.QK c9.QA c9.QB c9.QD c9.WT c9.QN c9.tS c9.tG c9.nsg c9.kS c9.kG c9.kd c9.ksg c9.rP c9.aq c9.fd c9.pp c9.t0 c9.sc c9.R0 c9.h0 c9.mm tn p0 p1 p2 sz hI htn

set_option maxHeartbeats 4000000 in
set_option maxRecDepth 100000 in
theorem y8_firstTagged (l : Launch) (hlt : l.stackTraces = false) (D : va_G) (dA : Nat → ClassId) (E : Nat) (c9 : CS) (tn : Nat) (p0 : Int32) (p1 : Int32) (p2 : Int32) (sz : Nat) (hI : CI E tn c9) (htn : tn ≤ 600) : vx_Met l yX8_firstTagged (wq (.code yX8_firstTagged cX8_firstTagged 5 (some .int))) { frames := 8, cells := 4, slots := 24, locals := 147 } (va_Pc [.ref (c9.xa 0), .int p0, .int p1, .int p2] (PcB D dA E (HAppend.hAppend (α := va_W) (β := va_W) (γ := va_W) [] (CW dA c9)) sz)) (va_Qi (fun (r : Int32) (u : CS) => CI E (tn + 1) u ∧ u.xa = c9.xa ∧ ((True) ∧ (True) ∧ ((u.cm = c9.cm)))) (fun u t => va_P D vwCl ([] ++ (CW dA u)) t.heap ∧ va_D (va_A (HAppend.hAppend (α := va_W) (β := va_W) (γ := va_W) [] (CW dA c9)) sz) ([] ++ (CW dA u))) (va_A (HAppend.hAppend (α := va_W) (β := va_W) (γ := va_W) [] (CW dA c9)) sz)) (vx_X (fun (k : Nat × CS) => CI E (tn + 1) k.2 ∧ k.2.xa = c9.xa ∧ (k.1 = 2 ∨ k.1 = 1 ∨ k.1 = 5) ∧ ((True) ∧ ((k.2.cm = c9.cm)))) (fun E9 k t => E9 = xN k.1 ∧ va_P D vwCl ([] ++ (CW dA k.2)) t.heap ∧ va_D (va_A (HAppend.hAppend (α := va_W) (β := va_W) (γ := va_W) [] (CW dA c9)) sz) ([] ++ (CW dA k.2))) (va_A (HAppend.hAppend (α := va_W) (β := va_W) (γ := va_W) [] (CW dA c9)) sz)) 4 24 (va_A (HAppend.hAppend (α := va_W) (β := va_W) (γ := va_W) [] (CW dA c9)) sz) := x8_firstTagged l hlt D dA E c9.xa c9.sh c9.cs c9.rp c9.zq c9.cm c9.vs c9.bd c9.op c9.mst c9.nst c9.cps c9.ars c9.fss c9.se c9.SK c9.SA c9.SB c9.mdd c9.nd c9.capd c9.ad0 c9.fdd c9.dt c9.TG c9.WH c9.CK c9.TW c9.TP c9.TX c9.NM c9.mvv c9.nv c9.capv c9.av0 c9.fvv c9.ve c9.VN c9.VC c9.VP c9.mq c9.nq c9.capq c9.aq0 c9.fq c9.eq c9.QK c9.QA c9.QB c9.QD c9.WT c9.QN c9.tS c9.tG c9.nsg c9.kS c9.kG c9.kd c9.ksg c9.rP c9.aq c9.fd c9.pp c9.t0 c9.sc c9.R0 c9.h0 c9.mm tn p0 p1 p2 sz hI htn

set_option maxHeartbeats 4000000 in
set_option maxRecDepth 100000 in
theorem y8_wholes (l : Launch) (hlt : l.stackTraces = false) (D : va_G) (dA : Nat → ClassId) (E : Nat) (c9 : CS) (tn : Nat) (p0 : Int32) (p1 : Int32) (sz : Nat) (hI : CI E tn c9) (htn : tn ≤ 600) : vx_Met l yX8_wholes (wq (.code yX8_wholes cX8_wholes 6 (some .int))) { frames := 8, cells := 2, slots := 12, locals := 147 } (va_Pc [.ref (c9.xa 0), .int p0, .int p1] (PcB D dA E (HAppend.hAppend (α := va_W) (β := va_W) (γ := va_W) [] (CW dA c9)) sz)) (va_Qi (fun (r : Int32) (u : CS) => CI E (tn + 1) u ∧ u.xa = c9.xa ∧ ((True) ∧ (True) ∧ ((u.cm = c9.cm)))) (fun u t => va_P D vwCl ([] ++ (CW dA u)) t.heap ∧ va_D (va_A (HAppend.hAppend (α := va_W) (β := va_W) (γ := va_W) [] (CW dA c9)) sz) ([] ++ (CW dA u))) (va_A (HAppend.hAppend (α := va_W) (β := va_W) (γ := va_W) [] (CW dA c9)) sz)) (vx_X (fun (k : Nat × CS) => CI E (tn + 1) k.2 ∧ k.2.xa = c9.xa ∧ (k.1 = 2) ∧ ((True) ∧ ((k.2.cm = c9.cm)))) (fun E9 k t => E9 = xN k.1 ∧ va_P D vwCl ([] ++ (CW dA k.2)) t.heap ∧ va_D (va_A (HAppend.hAppend (α := va_W) (β := va_W) (γ := va_W) [] (CW dA c9)) sz) ([] ++ (CW dA k.2))) (va_A (HAppend.hAppend (α := va_W) (β := va_W) (γ := va_W) [] (CW dA c9)) sz)) 2 12 (va_A (HAppend.hAppend (α := va_W) (β := va_W) (γ := va_W) [] (CW dA c9)) sz) := x8_wholes l hlt D dA E c9.xa c9.sh c9.cs c9.rp c9.zq c9.cm c9.vs c9.bd c9.op c9.mst c9.nst c9.cps c9.ars c9.fss c9.se c9.SK c9.SA c9.SB c9.mdd c9.nd c9.capd c9.ad0 c9.fdd c9.dt c9.TG c9.WH c9.CK c9.TW c9.TP c9.TX c9.NM c9.mvv c9.nv c9.capv c9.av0 c9.fvv c9.ve c9.VN c9.VC c9.VP c9.mq c9.nq c9.capq c9.aq0 c9.fq c9.eq c9.QK c9.QA c9.QB c9.QD c9.WT c9.QN c9.tS c9.tG c9.nsg c9.kS c9.kG c9.kd c9.ksg c9.rP c9.aq c9.fd c9.pp c9.t0 c9.sc c9.R0 c9.h0 c9.mm tn p0 p1 sz hI htn

set_option maxHeartbeats 4000000 in
set_option maxRecDepth 100000 in
theorem y8_wholeScore (l : Launch) (hlt : l.stackTraces = false) (D : va_G) (dA : Nat → ClassId) (E : Nat) (c9 : CS) (tn : Nat) (p0 : Int32) (p1 : Int32) (p2 : Int32) (sz : Nat) (hI : CI E tn c9) (htn : tn ≤ 600) : vx_Met l yX8_wholeScore (wq (.code yX8_wholeScore cX8_wholeScore 5 (some .long))) { frames := 8, cells := 4, slots := 24, locals := 147 } (va_Pc [.ref (c9.xa 0), .int p0, .int p1, .int p2] (PcB D dA E (HAppend.hAppend (α := va_W) (β := va_W) (γ := va_W) [] (CW dA c9)) sz)) (va_Ql (fun (r : Int64) (u : CS) => CI E (tn + 1) u ∧ u.xa = c9.xa ∧ ((True) ∧ (True) ∧ ((u.cm = c9.cm)))) (fun u t => va_P D vwCl ([] ++ (CW dA u)) t.heap ∧ va_D (va_A (HAppend.hAppend (α := va_W) (β := va_W) (γ := va_W) [] (CW dA c9)) sz) ([] ++ (CW dA u))) (va_A (HAppend.hAppend (α := va_W) (β := va_W) (γ := va_W) [] (CW dA c9)) sz)) (vx_X (fun (k : Nat × CS) => CI E (tn + 1) k.2 ∧ k.2.xa = c9.xa ∧ (k.1 = 2 ∨ k.1 = 5) ∧ ((True) ∧ ((k.2.cm = c9.cm)))) (fun E9 k t => E9 = xN k.1 ∧ va_P D vwCl ([] ++ (CW dA k.2)) t.heap ∧ va_D (va_A (HAppend.hAppend (α := va_W) (β := va_W) (γ := va_W) [] (CW dA c9)) sz) ([] ++ (CW dA k.2))) (va_A (HAppend.hAppend (α := va_W) (β := va_W) (γ := va_W) [] (CW dA c9)) sz)) 4 24 (va_A (HAppend.hAppend (α := va_W) (β := va_W) (γ := va_W) [] (CW dA c9)) sz) := x8_wholeScore l hlt D dA E c9.xa c9.sh c9.cs c9.rp c9.zq c9.cm c9.vs c9.bd c9.op c9.mst c9.nst c9.cps c9.ars c9.fss c9.se c9.SK c9.SA c9.SB c9.mdd c9.nd c9.capd c9.ad0 c9.fdd c9.dt c9.TG c9.WH c9.CK c9.TW c9.TP c9.TX c9.NM c9.mvv c9.nv c9.capv c9.av0 c9.fvv c9.ve c9.VN c9.VC c9.VP c9.mq c9.nq c9.capq c9.aq0 c9.fq c9.eq c9.QK c9.QA c9.QB c9.QD c9.WT c9.QN c9.tS c9.tG c9.nsg c9.kS c9.kG c9.kd c9.ksg c9.rP c9.aq c9.fd c9.pp c9.t0 c9.sc c9.R0 c9.h0 c9.mm tn p0 p1 p2 sz hI htn

set_option maxHeartbeats 4000000 in
set_option maxRecDepth 100000 in
theorem y8_marked (l : Launch) (hlt : l.stackTraces = false) (D : va_G) (dA : Nat → ClassId) (E : Nat) (c9 : CS) (tn : Nat) (p0 : Int32) (p1 : Int32) (p2 : Int32) (sz : Nat) (hI : CI E tn c9) (htn : tn ≤ 600) : vx_Met l yX8_marked (wq (.code yX8_marked cX8_marked 5 (some .int))) { frames := 8, cells := 3, slots := 18, locals := 124 } (va_Pc [.ref (c9.xa 0), .int p0, .int p1, .int p2] (PcB D dA E (HAppend.hAppend (α := va_W) (β := va_W) (γ := va_W) [] (CW dA c9)) sz)) (va_Qi (fun (r : Int32) (u : CS) => CI E (tn + 1) u ∧ u.xa = c9.xa ∧ ((True) ∧ (True) ∧ ((u.cm = c9.cm)))) (fun u t => va_P D vwCl ([] ++ (CW dA u)) t.heap ∧ va_D (va_A (HAppend.hAppend (α := va_W) (β := va_W) (γ := va_W) [] (CW dA c9)) sz) ([] ++ (CW dA u))) (va_A (HAppend.hAppend (α := va_W) (β := va_W) (γ := va_W) [] (CW dA c9)) sz)) (vx_X (fun (k : Nat × CS) => CI E (tn + 1) k.2 ∧ k.2.xa = c9.xa ∧ (k.1 = 2 ∨ k.1 = 5) ∧ ((True) ∧ ((k.2.cm = c9.cm)))) (fun E9 k t => E9 = xN k.1 ∧ va_P D vwCl ([] ++ (CW dA k.2)) t.heap ∧ va_D (va_A (HAppend.hAppend (α := va_W) (β := va_W) (γ := va_W) [] (CW dA c9)) sz) ([] ++ (CW dA k.2))) (va_A (HAppend.hAppend (α := va_W) (β := va_W) (γ := va_W) [] (CW dA c9)) sz)) 3 18 (va_A (HAppend.hAppend (α := va_W) (β := va_W) (γ := va_W) [] (CW dA c9)) sz) := x8_marked l hlt D dA E c9.xa c9.sh c9.cs c9.rp c9.zq c9.cm c9.vs c9.bd c9.op c9.mst c9.nst c9.cps c9.ars c9.fss c9.se c9.SK c9.SA c9.SB c9.mdd c9.nd c9.capd c9.ad0 c9.fdd c9.dt c9.TG c9.WH c9.CK c9.TW c9.TP c9.TX c9.NM c9.mvv c9.nv c9.capv c9.av0 c9.fvv c9.ve c9.VN c9.VC c9.VP c9.mq c9.nq c9.capq c9.aq0 c9.fq c9.eq c9.QK c9.QA c9.QB c9.QD c9.WT c9.QN c9.tS c9.tG c9.nsg c9.kS c9.kG c9.kd c9.ksg c9.rP c9.aq c9.fd c9.pp c9.t0 c9.sc c9.R0 c9.h0 c9.mm tn p0 p1 p2 sz hI htn

set_option maxHeartbeats 4000000 in
set_option maxRecDepth 100000 in
theorem y8_turned (l : Launch) (hlt : l.stackTraces = false) (D : va_G) (dA : Nat → ClassId) (E : Nat) (c9 : CS) (tn : Nat) (p0 : Int32) (p1 : Int32) (sz : Nat) (hI : CI E tn c9) (htn : tn ≤ 600) : vx_Met l yX8_turned (wq (.code yX8_turned cX8_turned 6 (some .int))) { frames := 8, cells := 2, slots := 12, locals := 147 } (va_Pc [.ref (c9.xa 0), .int p0, .int p1] (PcB D dA E (HAppend.hAppend (α := va_W) (β := va_W) (γ := va_W) [] (CW dA c9)) sz)) (va_Qi (fun (r : Int32) (u : CS) => CI E (tn + 1) u ∧ u.xa = c9.xa ∧ ((True) ∧ (True) ∧ ((u.cm = c9.cm)))) (fun u t => va_P D vwCl ([] ++ (CW dA u)) t.heap ∧ va_D (va_A (HAppend.hAppend (α := va_W) (β := va_W) (γ := va_W) [] (CW dA c9)) sz) ([] ++ (CW dA u))) (va_A (HAppend.hAppend (α := va_W) (β := va_W) (γ := va_W) [] (CW dA c9)) sz)) (vx_X (fun (k : Nat × CS) => CI E (tn + 1) k.2 ∧ k.2.xa = c9.xa ∧ (k.1 = 2) ∧ ((True) ∧ ((k.2.cm = c9.cm)))) (fun E9 k t => E9 = xN k.1 ∧ va_P D vwCl ([] ++ (CW dA k.2)) t.heap ∧ va_D (va_A (HAppend.hAppend (α := va_W) (β := va_W) (γ := va_W) [] (CW dA c9)) sz) ([] ++ (CW dA k.2))) (va_A (HAppend.hAppend (α := va_W) (β := va_W) (γ := va_W) [] (CW dA c9)) sz)) 2 12 (va_A (HAppend.hAppend (α := va_W) (β := va_W) (γ := va_W) [] (CW dA c9)) sz) := x8_turned l hlt D dA E c9.xa c9.sh c9.cs c9.rp c9.zq c9.cm c9.vs c9.bd c9.op c9.mst c9.nst c9.cps c9.ars c9.fss c9.se c9.SK c9.SA c9.SB c9.mdd c9.nd c9.capd c9.ad0 c9.fdd c9.dt c9.TG c9.WH c9.CK c9.TW c9.TP c9.TX c9.NM c9.mvv c9.nv c9.capv c9.av0 c9.fvv c9.ve c9.VN c9.VC c9.VP c9.mq c9.nq c9.capq c9.aq0 c9.fq c9.eq c9.QK c9.QA c9.QB c9.QD c9.WT c9.QN c9.tS c9.tG c9.nsg c9.kS c9.kG c9.kd c9.ksg c9.rP c9.aq c9.fd c9.pp c9.t0 c9.sc c9.R0 c9.h0 c9.mm tn p0 p1 sz hI htn

set_option maxHeartbeats 4000000 in
set_option maxRecDepth 100000 in
theorem y8_removedShare (l : Launch) (hlt : l.stackTraces = false) (D : va_G) (dA : Nat → ClassId) (E : Nat) (c9 : CS) (tn : Nat) (sz : Nat) (hI : CI E tn c9) (htn : tn ≤ 600) : vx_Met l yX8_removedShare (wq (.code yX8_removedShare cX8_removedShare 2 (some .float))) { frames := 6, cells := 1, slots := 6, locals := 82 } (va_Pc [.ref (c9.xa 0)] (PcB D dA E (HAppend.hAppend (α := va_W) (β := va_W) (γ := va_W) [] (CW dA c9)) sz)) (va_Qf (fun (r : UInt32) (u : CS) => CI E (tn + 1) u ∧ u.xa = c9.xa ∧ (((True) ∧ (True) ∧ ((u.cm = c9.cm))) ∧ ∃ R9 A9, R9 < 31 ∧ A9 < 31 ∧ 0 < A9 ∧ r = FP.fdiv (FP.i2f (nI R9)) (FP.i2f (nI A9)))) (fun u t => va_P D vwCl ([] ++ (CW dA u)) t.heap ∧ va_D (va_A (HAppend.hAppend (α := va_W) (β := va_W) (γ := va_W) [] (CW dA c9)) sz) ([] ++ (CW dA u))) (va_A (HAppend.hAppend (α := va_W) (β := va_W) (γ := va_W) [] (CW dA c9)) sz)) (vx_X (fun (k : Nat × CS) => CI E (tn + 1) k.2 ∧ k.2.xa = c9.xa ∧ (k.1 = 4) ∧ ((True) ∧ ((k.2.cm = c9.cm)))) (fun E9 k t => E9 = xN k.1 ∧ va_P D vwCl ([] ++ (CW dA k.2)) t.heap ∧ va_D (va_A (HAppend.hAppend (α := va_W) (β := va_W) (γ := va_W) [] (CW dA c9)) sz) ([] ++ (CW dA k.2))) (va_A (HAppend.hAppend (α := va_W) (β := va_W) (γ := va_W) [] (CW dA c9)) sz)) 1 6 (va_A (HAppend.hAppend (α := va_W) (β := va_W) (γ := va_W) [] (CW dA c9)) sz) := x8_removedShare l hlt D dA E c9.xa c9.sh c9.cs c9.rp c9.zq c9.cm c9.vs c9.bd c9.op c9.mst c9.nst c9.cps c9.ars c9.fss c9.se c9.SK c9.SA c9.SB c9.mdd c9.nd c9.capd c9.ad0 c9.fdd c9.dt c9.TG c9.WH c9.CK c9.TW c9.TP c9.TX c9.NM c9.mvv c9.nv c9.capv c9.av0 c9.fvv c9.ve c9.VN c9.VC c9.VP c9.mq c9.nq c9.capq c9.aq0 c9.fq c9.eq c9.QK c9.QA c9.QB c9.QD c9.WT c9.QN c9.tS c9.tG c9.nsg c9.kS c9.kG c9.kd c9.ksg c9.rP c9.aq c9.fd c9.pp c9.t0 c9.sc c9.R0 c9.h0 c9.mm tn sz hI htn

set_option maxHeartbeats 4000000 in
set_option maxRecDepth 100000 in
theorem y8_meanLength (l : Launch) (hlt : l.stackTraces = false) (D : va_G) (dA : Nat → ClassId) (E : Nat) (c9 : CS) (tn : Nat) (p0 : Int32) (sz : Nat) (hI : CI E tn c9) (htn : tn ≤ 600) : vx_Met l yX8_meanLength (wq (.code yX8_meanLength cX8_meanLength 5 (some .double))) { frames := 7, cells := 2, slots := 12, locals := 108 } (va_Pc [.ref (c9.xa 0), .int p0] (PcB D dA E (HAppend.hAppend (α := va_W) (β := va_W) (γ := va_W) [] (CW dA c9)) sz)) (va_Qd (fun (r : UInt64) (u : CS) => CI E (tn + 1) u ∧ u.xa = c9.xa ∧ ((True) ∧ (True) ∧ ((u.cm = c9.cm)))) (fun u t => va_P D vwCl ([] ++ (CW dA u)) t.heap ∧ va_D (va_A (HAppend.hAppend (α := va_W) (β := va_W) (γ := va_W) [] (CW dA c9)) sz) ([] ++ (CW dA u))) (va_A (HAppend.hAppend (α := va_W) (β := va_W) (γ := va_W) [] (CW dA c9)) sz)) (vx_X (fun (k : Nat × CS) => CI E (tn + 1) k.2 ∧ k.2.xa = c9.xa ∧ (k.1 = 2 ∨ k.1 = 4) ∧ ((True) ∧ ((k.2.cm = c9.cm)))) (fun E9 k t => E9 = xN k.1 ∧ va_P D vwCl ([] ++ (CW dA k.2)) t.heap ∧ va_D (va_A (HAppend.hAppend (α := va_W) (β := va_W) (γ := va_W) [] (CW dA c9)) sz) ([] ++ (CW dA k.2))) (va_A (HAppend.hAppend (α := va_W) (β := va_W) (γ := va_W) [] (CW dA c9)) sz)) 2 12 (va_A (HAppend.hAppend (α := va_W) (β := va_W) (γ := va_W) [] (CW dA c9)) sz) := x8_meanLength l hlt D dA E c9.xa c9.sh c9.cs c9.rp c9.zq c9.cm c9.vs c9.bd c9.op c9.mst c9.nst c9.cps c9.ars c9.fss c9.se c9.SK c9.SA c9.SB c9.mdd c9.nd c9.capd c9.ad0 c9.fdd c9.dt c9.TG c9.WH c9.CK c9.TW c9.TP c9.TX c9.NM c9.mvv c9.nv c9.capv c9.av0 c9.fvv c9.ve c9.VN c9.VC c9.VP c9.mq c9.nq c9.capq c9.aq0 c9.fq c9.eq c9.QK c9.QA c9.QB c9.QD c9.WT c9.QN c9.tS c9.tG c9.nsg c9.kS c9.kG c9.kd c9.ksg c9.rP c9.aq c9.fd c9.pp c9.t0 c9.sc c9.R0 c9.h0 c9.mm tn p0 sz hI htn

set_option maxHeartbeats 4000000 in
set_option maxRecDepth 100000 in
theorem y8_close (l : Launch) (hlt : l.stackTraces = false) (D : va_G) (dA : Nat → ClassId) (E : Nat) (c9 : CS) (tn : Nat) (sz : Nat) (hI : CI E tn c9) (htn : tn ≤ 600) : vx_Met l yX8_close (wq (.code yX8_close cX8_close 3 (some .int))) { frames := 7, cells := 1, slots := 33, locals := 161 } (va_Pc [.ref (c9.xa 0)] (PcB D dA E (HAppend.hAppend (α := va_W) (β := va_W) (γ := va_W) [] (CW dA c9)) sz)) (va_Qi (fun (r : Int32) (u : CS) => CI E (tn + 1) u ∧ u.xa = c9.xa ∧ ((True) ∧ (True) ∧ ((u.cm = c9.cm)))) (fun u t => va_P D vwCl ([] ++ (CW dA u)) t.heap ∧ va_D (va_A (HAppend.hAppend (α := va_W) (β := va_W) (γ := va_W) [] (CW dA c9)) sz) ([] ++ (CW dA u))) (va_A (HAppend.hAppend (α := va_W) (β := va_W) (γ := va_W) [] (CW dA c9)) sz)) (vx_X (fun (k : Nat × CS) => CI E (tn + 1) k.2 ∧ k.2.xa = c9.xa ∧ (k.1 = 3) ∧ ((True) ∧ ((k.2.cm = c9.cm)))) (fun E9 k t => E9 = xN k.1 ∧ va_P D vwCl ([] ++ (CW dA k.2)) t.heap ∧ va_D (va_A (HAppend.hAppend (α := va_W) (β := va_W) (γ := va_W) [] (CW dA c9)) sz) ([] ++ (CW dA k.2))) (va_A (HAppend.hAppend (α := va_W) (β := va_W) (γ := va_W) [] (CW dA c9)) sz)) 1 33 (va_A (HAppend.hAppend (α := va_W) (β := va_W) (γ := va_W) [] (CW dA c9)) sz) := x8_close l hlt D dA E c9.xa c9.sh c9.cs c9.rp c9.zq c9.cm c9.vs c9.bd c9.op c9.mst c9.nst c9.cps c9.ars c9.fss c9.se c9.SK c9.SA c9.SB c9.mdd c9.nd c9.capd c9.ad0 c9.fdd c9.dt c9.TG c9.WH c9.CK c9.TW c9.TP c9.TX c9.NM c9.mvv c9.nv c9.capv c9.av0 c9.fvv c9.ve c9.VN c9.VC c9.VP c9.mq c9.nq c9.capq c9.aq0 c9.fq c9.eq c9.QK c9.QA c9.QB c9.QD c9.WT c9.QN c9.tS c9.tG c9.nsg c9.kS c9.kG c9.kd c9.ksg c9.rP c9.aq c9.fd c9.pp c9.t0 c9.sc c9.R0 c9.h0 c9.mm tn sz hI htn

set_option maxHeartbeats 4000000 in
set_option maxRecDepth 100000 in
theorem c_L_setBound (l : Launch) (hlt : l.stackTraces = false) (D : va_G) (dA : Nat → ClassId) (E : Nat) (c9 : CS) (tn o : Nat) (g : Nat → Int64) (p0 : Int32) (sz : Nat) (hI : CI E tn c9) (htn : tn ≤ 600) : vx_Met l yL_setBound (wq (.codeWith yL_setBound cL_setBound 4 (some .int) [(0, 9, 12, 13)])) { frames := 7, cells := 1, slots := 6, locals := 104 } (va_Pc [.ref (c9.xa 0), .int p0, .ref o] (PcB D dA E (HAppend.hAppend (α := va_W) (β := va_W) (γ := va_W) [(o, .inl (dA 3, 1, .inr (.inl g)))] (CW dA c9)) sz)) (va_Qi (fun (r : Int32) (u : CS × (Nat → Int64)) => CI E (tn + 1) u.1 ∧ u.1.xa = c9.xa ∧ ((u.1.cm = c9.cm))) (fun u t => va_P D vwCl ([(o, .inl (dA 3, 1, .inr (.inl u.2)))] ++ (CW dA u.1)) t.heap ∧ va_D (va_A (HAppend.hAppend (α := va_W) (β := va_W) (γ := va_W) [(o, .inl (dA 3, 1, .inr (.inl g)))] (CW dA c9)) sz) ([(o, .inl (dA 3, 1, .inr (.inl u.2)))] ++ (CW dA u.1))) (va_A (HAppend.hAppend (α := va_W) (β := va_W) (γ := va_W) [(o, .inl (dA 3, 1, .inr (.inl g)))] (CW dA c9)) sz)) (vx_X (fun (k : Nat) => False) (fun E9 k t => E9 = xN k) (va_A (HAppend.hAppend (α := va_W) (β := va_W) (γ := va_W) [(o, .inl (dA 3, 1, .inr (.inl g)))] (CW dA c9)) sz)) 1 6 (va_A (HAppend.hAppend (α := va_W) (β := va_W) (γ := va_W) [(o, .inl (dA 3, 1, .inr (.inl g)))] (CW dA c9)) sz) := by
  refine mh_of (y := yL_setBound) (av := [.ref (c9.xa 0), .int p0, .ref o]) (maxL := 4) (Qc := fun A => va_Qi (fun (r : Int32) (u : CS × (Nat → Int64)) => CI E (tn + 1) u.1 ∧ u.1.xa = c9.xa ∧ ((u.1.cm = c9.cm))) (fun u t => va_P D vwCl ([(o, .inl (dA 3, 1, .inr (.inl u.2)))] ++ (CW dA u.1)) t.heap ∧ va_D A ([(o, .inl (dA 3, 1, .inr (.inl u.2)))] ++ (CW dA u.1))) A) (XC := fun A => vx_X (fun (k : Nat) => False) (fun E9 k t => E9 = xN k) A) RL rfl (by decide) (Nat.le_of_ble_eq_true rfl) ?_
  intro p e s m args below meth c hae hx hb hr hts hown hlocks hml hnm htb hP hK A hAe hD hZ hS hA ls hl
  replace hl : lv_has ls 4 [(0, .ref (c9.xa 0)), (1, .int p0), (2, .ref o)] := hl
  refine lv_aload_n hx hb dL_setBound_0 rfl (lv_at hl 2 rfl) ?_
  refine lv_iconst (v := 0) hx hb dL_setBound_1 (by decide) ?_
  refine lv_aload_n hx hb dL_setBound_2 rfl (lv_at hl 0 rfl) ?_
  refine lv_iload_n hx hb dL_setBound_3 rfl (lv_at hl 1 rfl) ?_
  replace hPc := va_P.part (X := [(o, .inl (dA 3, 1, .inr (.inl g)))]) (cx := []) (pl := (CW dA c9)) hP [] rfl
  replace hDc := va_D.part (X := [(o, .inl (dA 3, 1, .inr (.inl g)))]) (cx := []) (pl := (CW dA c9)) hD [] (by decide) rfl
  replace hFc := va_freeP (X := [(o, .inl (dA 3, 1, .inr (.inl g)))]) (cx := []) (pl := (CW dA c9)) hD hS hA [] rfl
  refine vx_calli (vx_runV (As := [.int p0]) (rest := [.int 0, .ref o]) ⟨hx, hb, hml, hown, hts⟩ (y8_setBound l hlt D dA E c9 tn p0 s.heap.size  hI htn) (cwV 1 hts (ga_V q695 q696 q693 q346 q694) rfl rfl rfl (by decide +kernel) ⟨(Nat.le_of_ble_eq_true rfl), (Nat.le_of_ble_eq_true rfl)⟩) ⟨pb_blind, va_recv hK hPc (ci := 11) (q0 := 0) rfl rfl, pb_pre hK hPc hDc hZ hS hFc _⟩ rfl rfl hl.1 rfl (lv_room (Nat.le_of_ble_eq_true rfl)) dL_setBound_4 ⟨(Nat.le_of_ble_eq_true rfl), (Nat.le_of_ble_eq_true rfl)⟩) hS (fun q _ h => hFc q h) hFc (fun q _ h => hFc q h) (fun E9 ce q9 k t H1 locs ht hvm hpx hBX hz1 hk1 hS hce hcv hcl => ?_) (fun r u t H1 locs ht hvm hw hB hz1 hk1 hS => ?_)
  · obtain ⟨k1, kx⟩ := k
    obtain ⟨hBE, hP1, hD1⟩ := hBX
    rw [ht] at hP1
    dsimp only at hpx hBE hP1 hD1
    obtain ⟨hP, hD⟩ := va_joinP (X := [(o, .inl (dA 3, 1, .inr (.inl g)))]) (cx := []) (wr := [(o, .inl (dA 3, 1, .inr (.inl g)))]) (rx := []) (pl := (CW dA c9)) (pl1 := (CW dA kx)) hP hD [] [0] rfl rfl (by decide) (by decide) hk1 hFc hP1 hD1
    generalize H1 = H at hP hS hce ⊢
    replace hP : va_P D vwCl (HAppend.hAppend (α := va_W) (β := va_W) (γ := va_W) [(o, .inl (dA 3, 1, .inr (.inl g)))] (CW dA kx)) H := hP
    replace hD : va_D A (HAppend.hAppend (α := va_W) (β := va_W) (γ := va_W) [(o, .inl (dA 3, 1, .inr (.inl g)))] (CW dA kx)) := hD
    obtain ⟨hcx, hxx, hkx, hrx⟩ := hpx
    refine vx_widen (k := 1) (n := 6) (Nat.le_of_ble_eq_true rfl) (Nat.le_of_ble_eq_true rfl) ?_
    subst hkx
    subst hBE
    refine vx_catch (own := RL) (name := "java/lang/IllegalArgumentException") (E := "java/lang/IllegalArgumentException") hown [] ⟨0, 9, 12, 13⟩ [] htb (fun _ h9 => absurd h9 List.not_mem_nil) rfl (by decide) (hts _ q697) (va_Nw.use rfl (hZ.1.1 _ (List.mem_of_getElem? (i := 0) rfl))) hce hcv hcl ?_
    refine W.eq (g2 := F0 m 12 ls [.ref q9]) rfl ?_
    refine lv_astore_n (lv' := [(3, .ref q9), (0, .ref (c9.xa 0)), (1, .int p0), (2, .ref o)]) hx hb dL_setBound_12 rfl hl (by decide) rfl (fun ls hl => ?_)
    refine lv_iconst (v := 1) hx hb dL_setBound_13 (by decide) ?_
    refine W.widen (k := 1) (n := 6) (Nat.le_of_ble_eq_true rfl) (Nat.le_of_ble_eq_true rfl) ?_
    refine vx_ret ?_
    have hP9 := va_P.part (X := [(o, .inl (dA 3, 1, .inr (.inl g)))]) (cx := [(o, .inl (dA 3, 1, .inr (.inl g)))]) (pl := (CW dA kx)) hP [0] rfl
    have hD9 := va_D.part (X := [(o, .inl (dA 3, 1, .inr (.inl g)))]) (cx := [(o, .inl (dA 3, 1, .inr (.inl g)))]) (pl := (CW dA kx)) hD [0] (by decide) rfl
    exact W.iret (v := 1) hx hb hr (fun t ht hW => ⟨⟨1, (kx, g), rfl, ⟨hcx, hxx, (hrx.2)⟩, ⟨by rw [ht]; exact hP9, hD9⟩⟩, hS.F ht⟩) hS.2.2 dL_setBound_14
  · refine W.widen (k := 1) (n := 6) (Nat.le_of_ble_eq_true rfl) (Nat.le_of_ble_eq_true rfl) ?_
    obtain ⟨r1, rfl⟩ : ∃ z, z = r := ⟨_, rfl⟩
    obtain ⟨u2, rfl⟩ : ∃ z, z = u := ⟨_, rfl⟩
    have hw3 := hw
    clear hw
    obtain ⟨hP1, hD1⟩ := hB
    rw [ht] at hP1
    obtain ⟨hP, hD⟩ := va_joinP (X := [(o, .inl (dA 3, 1, .inr (.inl g)))]) (cx := []) (wr := [(o, .inl (dA 3, 1, .inr (.inl g)))]) (rx := []) (pl := (CW dA c9)) (pl1 := (CW dA u2)) hP hD [] [0] rfl rfl (by decide) (by decide) hk1 hFc hP1 hD1
    generalize H1 = H at hP hS ⊢
    replace hP : va_P D vwCl (HAppend.hAppend (α := va_W) (β := va_W) (γ := va_W) [(o, .inl (dA 3, 1, .inr (.inl g)))] (CW dA u2)) H := hP
    replace hD : va_D A (HAppend.hAppend (α := va_W) (β := va_W) (γ := va_W) [(o, .inl (dA 3, 1, .inr (.inl g)))] (CW dA u2)) := hD
    refine lv_i2l (v := r1.toInt64) hx hb dL_setBound_7 rfl ?_
    refine va_last hx hb hK hP hD hS 0 3 rfl rfl (vi_c (by decide)) dL_setBound_8 (fun H locs hP hD hS => ?_)
    replace hP : va_P D vwCl (HAppend.hAppend (α := va_W) (β := va_W) (γ := va_W) [(o, .inl (dA 3, 1, .inr (.inl (vp_updL g 0 r1.toInt64))))] (CW dA u2)) H := hP
    replace hD : va_D A (HAppend.hAppend (α := va_W) (β := va_W) (γ := va_W) [(o, .inl (dA 3, 1, .inr (.inl (vp_updL g 0 r1.toInt64))))] (CW dA u2)) := hD
    refine lv_goto (tgt := 15) hx hb dL_setBound_9 (by decide) ?_
    refine lv_iconst (v := 0) hx hb dL_setBound_15 (by decide) ?_
    refine W.widen (k := 1) (n := 6) (Nat.le_of_ble_eq_true rfl) (Nat.le_of_ble_eq_true rfl) ?_
    refine vx_ret ?_
    have hP9 := va_P.part (X := [(o, .inl (dA 3, 1, .inr (.inl (vp_updL g 0 r1.toInt64))))]) (cx := [(o, .inl (dA 3, 1, .inr (.inl (vp_updL g 0 r1.toInt64))))]) (pl := (CW dA u2)) hP [0] rfl
    have hD9 := va_D.part (X := [(o, .inl (dA 3, 1, .inr (.inl (vp_updL g 0 r1.toInt64))))]) (cx := [(o, .inl (dA 3, 1, .inr (.inl (vp_updL g 0 r1.toInt64))))]) (pl := (CW dA u2)) hD [0] (by decide) rfl
    exact W.iret (v := 0) hx hb hr (fun t ht hW => ⟨⟨0, (u2, vp_updL g 0 r1.toInt64), rfl, ⟨hw3.1, hw3.2.1, (hw3.2.2.2.2)⟩, ⟨by rw [ht]; exact hP9, hD9⟩⟩, hS.F ht⟩) hS.2.2 dL_setBound_16

set_option maxHeartbeats 4000000 in
set_option maxRecDepth 100000 in
theorem c_L_length (l : Launch) (hlt : l.stackTraces = false) (D : va_G) (dA : Nat → ClassId) (E : Nat) (c9 : CS) (tn o : Nat) (g : Nat → Int64) (p0 : Int32) (sz : Nat) (hI : CI E tn c9) (htn : tn ≤ 600) : vx_Met l yL_length (wq (.codeWith yL_length cL_length 4 (some .int) [(0, 9, 12, 21)])) { frames := 9, cells := 1, slots := 6, locals := 145 } (va_Pc [.ref (c9.xa 0), .int p0, .ref o] (PcB D dA E (HAppend.hAppend (α := va_W) (β := va_W) (γ := va_W) [(o, .inl (dA 3, 1, .inr (.inl g)))] (CW dA c9)) sz)) (va_Qi (fun (r : Int32) (u : CS × (Nat → Int64)) => CI E (tn + 1) u.1 ∧ u.1.xa = c9.xa ∧ ((u.1.cm = c9.cm))) (fun u t => va_P D vwCl ([(o, .inl (dA 3, 1, .inr (.inl u.2)))] ++ (CW dA u.1)) t.heap ∧ va_D (va_A (HAppend.hAppend (α := va_W) (β := va_W) (γ := va_W) [(o, .inl (dA 3, 1, .inr (.inl g)))] (CW dA c9)) sz) ([(o, .inl (dA 3, 1, .inr (.inl u.2)))] ++ (CW dA u.1))) (va_A (HAppend.hAppend (α := va_W) (β := va_W) (γ := va_W) [(o, .inl (dA 3, 1, .inr (.inl g)))] (CW dA c9)) sz)) (vx_X (fun (k : Nat) => False) (fun E9 k t => E9 = xN k) (va_A (HAppend.hAppend (α := va_W) (β := va_W) (γ := va_W) [(o, .inl (dA 3, 1, .inr (.inl g)))] (CW dA c9)) sz)) 1 6 (va_A (HAppend.hAppend (α := va_W) (β := va_W) (γ := va_W) [(o, .inl (dA 3, 1, .inr (.inl g)))] (CW dA c9)) sz) := by
  refine mh_of (y := yL_length) (av := [.ref (c9.xa 0), .int p0, .ref o]) (maxL := 4) (Qc := fun A => va_Qi (fun (r : Int32) (u : CS × (Nat → Int64)) => CI E (tn + 1) u.1 ∧ u.1.xa = c9.xa ∧ ((u.1.cm = c9.cm))) (fun u t => va_P D vwCl ([(o, .inl (dA 3, 1, .inr (.inl u.2)))] ++ (CW dA u.1)) t.heap ∧ va_D A ([(o, .inl (dA 3, 1, .inr (.inl u.2)))] ++ (CW dA u.1))) A) (XC := fun A => vx_X (fun (k : Nat) => False) (fun E9 k t => E9 = xN k) A) RL rfl (by decide) (Nat.le_of_ble_eq_true rfl) ?_
  intro p e s m args below meth c hae hx hb hr hts hown hlocks hml hnm htb hP hK A hAe hD hZ hS hA ls hl
  replace hl : lv_has ls 4 [(0, .ref (c9.xa 0)), (1, .int p0), (2, .ref o)] := hl
  refine lv_aload_n hx hb dL_length_0 rfl (lv_at hl 2 rfl) ?_
  refine lv_iconst (v := 0) hx hb dL_length_1 (by decide) ?_
  refine lv_aload_n hx hb dL_length_2 rfl (lv_at hl 0 rfl) ?_
  refine lv_iload_n hx hb dL_length_3 rfl (lv_at hl 1 rfl) ?_
  replace hPc := va_P.part (X := [(o, .inl (dA 3, 1, .inr (.inl g)))]) (cx := []) (pl := (CW dA c9)) hP [] rfl
  replace hDc := va_D.part (X := [(o, .inl (dA 3, 1, .inr (.inl g)))]) (cx := []) (pl := (CW dA c9)) hD [] (by decide) rfl
  replace hFc := va_freeP (X := [(o, .inl (dA 3, 1, .inr (.inl g)))]) (cx := []) (pl := (CW dA c9)) hD hS hA [] rfl
  refine vx_calli (vx_runV (As := [.int p0]) (rest := [.int 0, .ref o]) ⟨hx, hb, hml, hown, hts⟩ (y8_length l hlt D dA E c9 tn p0 s.heap.size  hI htn) (cwV 1 hts (ga_V q700 q701 q698 q346 q699) rfl rfl rfl (by decide +kernel) ⟨(Nat.le_of_ble_eq_true rfl), (Nat.le_of_ble_eq_true rfl)⟩) ⟨pb_blind, va_recv hK hPc (ci := 11) (q0 := 0) rfl rfl, pb_pre hK hPc hDc hZ hS hFc _⟩ rfl rfl hl.1 rfl (lv_room (Nat.le_of_ble_eq_true rfl)) dL_length_4 ⟨(Nat.le_of_ble_eq_true rfl), (Nat.le_of_ble_eq_true rfl)⟩) hS (fun q _ h => hFc q h) hFc (fun q _ h => hFc q h) (fun E9 ce q9 k t H1 locs ht hvm hpx hBX hz1 hk1 hS hce hcv hcl => ?_) (fun r u t H1 locs ht hvm hw hB hz1 hk1 hS => ?_)
  · obtain ⟨k1, kx⟩ := k
    obtain ⟨hBE, hP1, hD1⟩ := hBX
    rw [ht] at hP1
    dsimp only at hpx hBE hP1 hD1
    obtain ⟨hP, hD⟩ := va_joinP (X := [(o, .inl (dA 3, 1, .inr (.inl g)))]) (cx := []) (wr := [(o, .inl (dA 3, 1, .inr (.inl g)))]) (rx := []) (pl := (CW dA c9)) (pl1 := (CW dA kx)) hP hD [] [0] rfl rfl (by decide) (by decide) hk1 hFc hP1 hD1
    generalize H1 = H at hP hS hce ⊢
    replace hP : va_P D vwCl (HAppend.hAppend (α := va_W) (β := va_W) (γ := va_W) [(o, .inl (dA 3, 1, .inr (.inl g)))] (CW dA kx)) H := hP
    replace hD : va_D A (HAppend.hAppend (α := va_W) (β := va_W) (γ := va_W) [(o, .inl (dA 3, 1, .inr (.inl g)))] (CW dA kx)) := hD
    obtain ⟨hcx, hxx, hkx, hrx⟩ := hpx
    refine vx_widen (k := 1) (n := 6) (Nat.le_of_ble_eq_true rfl) (Nat.le_of_ble_eq_true rfl) ?_
    subst hkx
    subst hBE
    refine vx_catch (own := RL) (name := "java/lang/IndexOutOfBoundsException") (E := "java/lang/IndexOutOfBoundsException") hown [] ⟨0, 9, 12, 21⟩ [] htb (fun _ h9 => absurd h9 List.not_mem_nil) rfl (by decide) (hts _ q702) (va_Nw.use rfl (hZ.1.1 _ (List.mem_of_getElem? (i := 3) rfl))) hce hcv hcl ?_
    refine W.eq (g2 := F0 m 12 ls [.ref q9]) rfl ?_
    refine lv_astore_n (lv' := [(3, .ref q9), (0, .ref (c9.xa 0)), (1, .int p0), (2, .ref o)]) hx hb dL_length_12 rfl hl (by decide) rfl (fun ls hl => ?_)
    refine lv_iconst (v := 1) hx hb dL_length_13 (by decide) ?_
    refine W.widen (k := 1) (n := 6) (Nat.le_of_ble_eq_true rfl) (Nat.le_of_ble_eq_true rfl) ?_
    refine vx_ret ?_
    have hP9 := va_P.part (X := [(o, .inl (dA 3, 1, .inr (.inl g)))]) (cx := [(o, .inl (dA 3, 1, .inr (.inl g)))]) (pl := (CW dA kx)) hP [0] rfl
    have hD9 := va_D.part (X := [(o, .inl (dA 3, 1, .inr (.inl g)))]) (cx := [(o, .inl (dA 3, 1, .inr (.inl g)))]) (pl := (CW dA kx)) hD [0] (by decide) rfl
    exact W.iret (v := 1) hx hb hr (fun t ht hW => ⟨⟨1, (kx, g), rfl, ⟨hcx, hxx, (hrx.2)⟩, ⟨by rw [ht]; exact hP9, hD9⟩⟩, hS.F ht⟩) hS.2.2 dL_length_14
  · refine W.widen (k := 1) (n := 6) (Nat.le_of_ble_eq_true rfl) (Nat.le_of_ble_eq_true rfl) ?_
    obtain ⟨r1, rfl⟩ : ∃ z, z = r := ⟨_, rfl⟩
    obtain ⟨u2, rfl⟩ : ∃ z, z = u := ⟨_, rfl⟩
    have hw3 := hw
    clear hw
    obtain ⟨hP1, hD1⟩ := hB
    rw [ht] at hP1
    obtain ⟨hP, hD⟩ := va_joinP (X := [(o, .inl (dA 3, 1, .inr (.inl g)))]) (cx := []) (wr := [(o, .inl (dA 3, 1, .inr (.inl g)))]) (rx := []) (pl := (CW dA c9)) (pl1 := (CW dA u2)) hP hD [] [0] rfl rfl (by decide) (by decide) hk1 hFc hP1 hD1
    generalize H1 = H at hP hS ⊢
    replace hP : va_P D vwCl (HAppend.hAppend (α := va_W) (β := va_W) (γ := va_W) [(o, .inl (dA 3, 1, .inr (.inl g)))] (CW dA u2)) H := hP
    replace hD : va_D A (HAppend.hAppend (α := va_W) (β := va_W) (γ := va_W) [(o, .inl (dA 3, 1, .inr (.inl g)))] (CW dA u2)) := hD
    refine lv_i2l (v := r1.toInt64) hx hb dL_length_7 rfl ?_
    refine va_last hx hb hK hP hD hS 0 3 rfl rfl (vi_c (by decide)) dL_length_8 (fun H locs hP hD hS => ?_)
    replace hP : va_P D vwCl (HAppend.hAppend (α := va_W) (β := va_W) (γ := va_W) [(o, .inl (dA 3, 1, .inr (.inl (vp_updL g 0 r1.toInt64))))] (CW dA u2)) H := hP
    replace hD : va_D A (HAppend.hAppend (α := va_W) (β := va_W) (γ := va_W) [(o, .inl (dA 3, 1, .inr (.inl (vp_updL g 0 r1.toInt64))))] (CW dA u2)) := hD
    refine lv_goto (tgt := 15) hx hb dL_length_9 (by decide) ?_
    refine lv_iconst (v := 0) hx hb dL_length_15 (by decide) ?_
    refine W.widen (k := 1) (n := 6) (Nat.le_of_ble_eq_true rfl) (Nat.le_of_ble_eq_true rfl) ?_
    refine vx_ret ?_
    have hP9 := va_P.part (X := [(o, .inl (dA 3, 1, .inr (.inl (vp_updL g 0 r1.toInt64))))]) (cx := [(o, .inl (dA 3, 1, .inr (.inl (vp_updL g 0 r1.toInt64))))]) (pl := (CW dA u2)) hP [0] rfl
    have hD9 := va_D.part (X := [(o, .inl (dA 3, 1, .inr (.inl (vp_updL g 0 r1.toInt64))))]) (cx := [(o, .inl (dA 3, 1, .inr (.inl (vp_updL g 0 r1.toInt64))))]) (pl := (CW dA u2)) hD [0] (by decide) rfl
    exact W.iret (v := 0) hx hb hr (fun t ht hW => ⟨⟨0, (u2, vp_updL g 0 r1.toInt64), rfl, ⟨hw3.1, hw3.2.1, (hw3.2.2.2.2)⟩, ⟨by rw [ht]; exact hP9, hD9⟩⟩, hS.F ht⟩) hS.2.2 dL_length_16

set_option maxHeartbeats 4000000 in
set_option maxRecDepth 100000 in
theorem c_L_standing (l : Launch) (hlt : l.stackTraces = false) (D : va_G) (dA : Nat → ClassId) (E : Nat) (c9 : CS) (tn o : Nat) (g : Nat → Int64) (p0 : Int32) (p1 : Int32) (p2 : Int32) (sz : Nat) (hI : CI E tn c9) (htn : tn ≤ 600) : vx_Met l yL_standing (wq (.codeWith yL_standing cL_standing 6 (some .int) [(0, 12, 15, 21)])) { frames := 9, cells := 1, slots := 6, locals := 147 } (va_Pc [.ref (c9.xa 0), .int p0, .int p1, .int p2, .ref o] (PcB D dA E (HAppend.hAppend (α := va_W) (β := va_W) (γ := va_W) [(o, .inl (dA 3, 1, .inr (.inl g)))] (CW dA c9)) sz)) (va_Qi (fun (r : Int32) (u : CS × (Nat → Int64)) => CI E (tn + 1) u.1 ∧ u.1.xa = c9.xa ∧ ((u.1.cm = c9.cm))) (fun u t => va_P D vwCl ([(o, .inl (dA 3, 1, .inr (.inl u.2)))] ++ (CW dA u.1)) t.heap ∧ va_D (va_A (HAppend.hAppend (α := va_W) (β := va_W) (γ := va_W) [(o, .inl (dA 3, 1, .inr (.inl g)))] (CW dA c9)) sz) ([(o, .inl (dA 3, 1, .inr (.inl u.2)))] ++ (CW dA u.1))) (va_A (HAppend.hAppend (α := va_W) (β := va_W) (γ := va_W) [(o, .inl (dA 3, 1, .inr (.inl g)))] (CW dA c9)) sz)) (vx_X (fun (k : Nat) => False) (fun E9 k t => E9 = xN k) (va_A (HAppend.hAppend (α := va_W) (β := va_W) (γ := va_W) [(o, .inl (dA 3, 1, .inr (.inl g)))] (CW dA c9)) sz)) 1 6 (va_A (HAppend.hAppend (α := va_W) (β := va_W) (γ := va_W) [(o, .inl (dA 3, 1, .inr (.inl g)))] (CW dA c9)) sz) := by
  refine mh_of (y := yL_standing) (av := [.ref (c9.xa 0), .int p0, .int p1, .int p2, .ref o]) (maxL := 6) (Qc := fun A => va_Qi (fun (r : Int32) (u : CS × (Nat → Int64)) => CI E (tn + 1) u.1 ∧ u.1.xa = c9.xa ∧ ((u.1.cm = c9.cm))) (fun u t => va_P D vwCl ([(o, .inl (dA 3, 1, .inr (.inl u.2)))] ++ (CW dA u.1)) t.heap ∧ va_D A ([(o, .inl (dA 3, 1, .inr (.inl u.2)))] ++ (CW dA u.1))) A) (XC := fun A => vx_X (fun (k : Nat) => False) (fun E9 k t => E9 = xN k) A) RL rfl (by decide) (Nat.le_of_ble_eq_true rfl) ?_
  intro p e s m args below meth c hae hx hb hr hts hown hlocks hml hnm htb hP hK A hAe hD hZ hS hA ls hl
  replace hl : lv_has ls 6 [(0, .ref (c9.xa 0)), (1, .int p0), (2, .int p1), (3, .int p2), (4, .ref o)] := hl
  refine lv_aload hx hb dL_standing_0 (lv_at hl 4 rfl) ?_
  refine lv_iconst (v := 0) hx hb dL_standing_2 (by decide) ?_
  refine lv_aload_n hx hb dL_standing_3 rfl (lv_at hl 0 rfl) ?_
  refine lv_iload_n hx hb dL_standing_4 rfl (lv_at hl 1 rfl) ?_
  refine lv_iload_n hx hb dL_standing_5 rfl (lv_at hl 2 rfl) ?_
  refine lv_iload_n hx hb dL_standing_6 rfl (lv_at hl 3 rfl) ?_
  replace hPc := va_P.part (X := [(o, .inl (dA 3, 1, .inr (.inl g)))]) (cx := []) (pl := (CW dA c9)) hP [] rfl
  replace hDc := va_D.part (X := [(o, .inl (dA 3, 1, .inr (.inl g)))]) (cx := []) (pl := (CW dA c9)) hD [] (by decide) rfl
  replace hFc := va_freeP (X := [(o, .inl (dA 3, 1, .inr (.inl g)))]) (cx := []) (pl := (CW dA c9)) hD hS hA [] rfl
  refine vx_calli (vx_runV (As := [.int p0, .int p1, .int p2]) (rest := [.int 0, .ref o]) ⟨hx, hb, hml, hown, hts⟩ (y8_standing l hlt D dA E c9 tn p0 p1 p2 s.heap.size  hI htn) (cwV 3 hts (ga_V q705 q706 q703 q346 q704) rfl rfl rfl (by decide +kernel) ⟨(Nat.le_of_ble_eq_true rfl), (Nat.le_of_ble_eq_true rfl)⟩) ⟨pb_blind, va_recv hK hPc (ci := 11) (q0 := 0) rfl rfl, pb_pre hK hPc hDc hZ hS hFc _⟩ rfl rfl hl.1 rfl (lv_room (Nat.le_of_ble_eq_true rfl)) dL_standing_7 ⟨(Nat.le_of_ble_eq_true rfl), (Nat.le_of_ble_eq_true rfl)⟩) hS (fun q _ h => hFc q h) hFc (fun q _ h => hFc q h) (fun E9 ce q9 k t H1 locs ht hvm hpx hBX hz1 hk1 hS hce hcv hcl => ?_) (fun r u t H1 locs ht hvm hw hB hz1 hk1 hS => ?_)
  · obtain ⟨k1, kx⟩ := k
    obtain ⟨hBE, hP1, hD1⟩ := hBX
    rw [ht] at hP1
    dsimp only at hpx hBE hP1 hD1
    obtain ⟨hP, hD⟩ := va_joinP (X := [(o, .inl (dA 3, 1, .inr (.inl g)))]) (cx := []) (wr := [(o, .inl (dA 3, 1, .inr (.inl g)))]) (rx := []) (pl := (CW dA c9)) (pl1 := (CW dA kx)) hP hD [] [0] rfl rfl (by decide) (by decide) hk1 hFc hP1 hD1
    generalize H1 = H at hP hS hce ⊢
    replace hP : va_P D vwCl (HAppend.hAppend (α := va_W) (β := va_W) (γ := va_W) [(o, .inl (dA 3, 1, .inr (.inl g)))] (CW dA kx)) H := hP
    replace hD : va_D A (HAppend.hAppend (α := va_W) (β := va_W) (γ := va_W) [(o, .inl (dA 3, 1, .inr (.inl g)))] (CW dA kx)) := hD
    obtain ⟨hcx, hxx, hkx, hrx⟩ := hpx
    refine vx_widen (k := 1) (n := 6) (Nat.le_of_ble_eq_true rfl) (Nat.le_of_ble_eq_true rfl) ?_
    subst hkx
    subst hBE
    refine vx_catch (own := RL) (name := "java/lang/IndexOutOfBoundsException") (E := "java/lang/IndexOutOfBoundsException") hown [] ⟨0, 12, 15, 21⟩ [] htb (fun _ h9 => absurd h9 List.not_mem_nil) rfl (by decide) (hts _ q702) (va_Nw.use rfl (hZ.1.1 _ (List.mem_of_getElem? (i := 3) rfl))) hce hcv hcl ?_
    refine W.eq (g2 := F0 m 15 ls [.ref q9]) rfl ?_
    refine lv_astore (lv' := [(5, .ref q9), (0, .ref (c9.xa 0)), (1, .int p0), (2, .int p1), (3, .int p2), (4, .ref o)]) hx hb dL_standing_15 hl (by decide) rfl (fun ls hl => ?_)
    refine lv_iconst (v := 1) hx hb dL_standing_17 (by decide) ?_
    refine W.widen (k := 1) (n := 6) (Nat.le_of_ble_eq_true rfl) (Nat.le_of_ble_eq_true rfl) ?_
    refine vx_ret ?_
    have hP9 := va_P.part (X := [(o, .inl (dA 3, 1, .inr (.inl g)))]) (cx := [(o, .inl (dA 3, 1, .inr (.inl g)))]) (pl := (CW dA kx)) hP [0] rfl
    have hD9 := va_D.part (X := [(o, .inl (dA 3, 1, .inr (.inl g)))]) (cx := [(o, .inl (dA 3, 1, .inr (.inl g)))]) (pl := (CW dA kx)) hD [0] (by decide) rfl
    exact W.iret (v := 1) hx hb hr (fun t ht hW => ⟨⟨1, (kx, g), rfl, ⟨hcx, hxx, (hrx.2)⟩, ⟨by rw [ht]; exact hP9, hD9⟩⟩, hS.F ht⟩) hS.2.2 dL_standing_18
  · refine W.widen (k := 1) (n := 6) (Nat.le_of_ble_eq_true rfl) (Nat.le_of_ble_eq_true rfl) ?_
    obtain ⟨r1, rfl⟩ : ∃ z, z = r := ⟨_, rfl⟩
    obtain ⟨u2, rfl⟩ : ∃ z, z = u := ⟨_, rfl⟩
    have hw3 := hw
    clear hw
    obtain ⟨hP1, hD1⟩ := hB
    rw [ht] at hP1
    obtain ⟨hP, hD⟩ := va_joinP (X := [(o, .inl (dA 3, 1, .inr (.inl g)))]) (cx := []) (wr := [(o, .inl (dA 3, 1, .inr (.inl g)))]) (rx := []) (pl := (CW dA c9)) (pl1 := (CW dA u2)) hP hD [] [0] rfl rfl (by decide) (by decide) hk1 hFc hP1 hD1
    generalize H1 = H at hP hS ⊢
    replace hP : va_P D vwCl (HAppend.hAppend (α := va_W) (β := va_W) (γ := va_W) [(o, .inl (dA 3, 1, .inr (.inl g)))] (CW dA u2)) H := hP
    replace hD : va_D A (HAppend.hAppend (α := va_W) (β := va_W) (γ := va_W) [(o, .inl (dA 3, 1, .inr (.inl g)))] (CW dA u2)) := hD
    refine lv_i2l (v := r1.toInt64) hx hb dL_standing_10 rfl ?_
    refine va_last hx hb hK hP hD hS 0 3 rfl rfl (vi_c (by decide)) dL_standing_11 (fun H locs hP hD hS => ?_)
    replace hP : va_P D vwCl (HAppend.hAppend (α := va_W) (β := va_W) (γ := va_W) [(o, .inl (dA 3, 1, .inr (.inl (vp_updL g 0 r1.toInt64))))] (CW dA u2)) H := hP
    replace hD : va_D A (HAppend.hAppend (α := va_W) (β := va_W) (γ := va_W) [(o, .inl (dA 3, 1, .inr (.inl (vp_updL g 0 r1.toInt64))))] (CW dA u2)) := hD
    refine lv_goto (tgt := 19) hx hb dL_standing_12 (by decide) ?_
    refine lv_iconst (v := 0) hx hb dL_standing_19 (by decide) ?_
    refine W.widen (k := 1) (n := 6) (Nat.le_of_ble_eq_true rfl) (Nat.le_of_ble_eq_true rfl) ?_
    refine vx_ret ?_
    have hP9 := va_P.part (X := [(o, .inl (dA 3, 1, .inr (.inl (vp_updL g 0 r1.toInt64))))]) (cx := [(o, .inl (dA 3, 1, .inr (.inl (vp_updL g 0 r1.toInt64))))]) (pl := (CW dA u2)) hP [0] rfl
    have hD9 := va_D.part (X := [(o, .inl (dA 3, 1, .inr (.inl (vp_updL g 0 r1.toInt64))))]) (cx := [(o, .inl (dA 3, 1, .inr (.inl (vp_updL g 0 r1.toInt64))))]) (pl := (CW dA u2)) hD [0] (by decide) rfl
    exact W.iret (v := 0) hx hb hr (fun t ht hW => ⟨⟨0, (u2, vp_updL g 0 r1.toInt64), rfl, ⟨hw3.1, hw3.2.1, (hw3.2.2.2.2)⟩, ⟨by rw [ht]; exact hP9, hD9⟩⟩, hS.F ht⟩) hS.2.2 dL_standing_20

set_option maxHeartbeats 4000000 in
set_option maxRecDepth 100000 in
theorem c_L_click (l : Launch) (hlt : l.stackTraces = false) (D : va_G) (dA : Nat → ClassId) (E : Nat) (c9 : CS) (tn o : Nat) (g : Nat → Int64) (p0 : Int32) (sz : Nat) (hI : CI E tn c9) (htn : tn ≤ 600) : vx_Met l yL_click (wq (.codeWith yL_click cL_click 4 (some .int) [(0, 9, 12, 21)])) { frames := 9, cells := 1, slots := 6, locals := 146 } (va_Pc [.ref (c9.xa 0), .int p0, .ref o] (PcB D dA E (HAppend.hAppend (α := va_W) (β := va_W) (γ := va_W) [(o, .inl (dA 3, 1, .inr (.inl g)))] (CW dA c9)) sz)) (va_Qi (fun (r : Int32) (u : CS × (Nat → Int64)) => CI E (tn + 1) u.1 ∧ u.1.xa = c9.xa ∧ ((u.1.cm = c9.cm))) (fun u t => va_P D vwCl ([(o, .inl (dA 3, 1, .inr (.inl u.2)))] ++ (CW dA u.1)) t.heap ∧ va_D (va_A (HAppend.hAppend (α := va_W) (β := va_W) (γ := va_W) [(o, .inl (dA 3, 1, .inr (.inl g)))] (CW dA c9)) sz) ([(o, .inl (dA 3, 1, .inr (.inl u.2)))] ++ (CW dA u.1))) (va_A (HAppend.hAppend (α := va_W) (β := va_W) (γ := va_W) [(o, .inl (dA 3, 1, .inr (.inl g)))] (CW dA c9)) sz)) (vx_X (fun (k : Nat) => False) (fun E9 k t => E9 = xN k) (va_A (HAppend.hAppend (α := va_W) (β := va_W) (γ := va_W) [(o, .inl (dA 3, 1, .inr (.inl g)))] (CW dA c9)) sz)) 1 6 (va_A (HAppend.hAppend (α := va_W) (β := va_W) (γ := va_W) [(o, .inl (dA 3, 1, .inr (.inl g)))] (CW dA c9)) sz) := by
  refine mh_of (y := yL_click) (av := [.ref (c9.xa 0), .int p0, .ref o]) (maxL := 4) (Qc := fun A => va_Qi (fun (r : Int32) (u : CS × (Nat → Int64)) => CI E (tn + 1) u.1 ∧ u.1.xa = c9.xa ∧ ((u.1.cm = c9.cm))) (fun u t => va_P D vwCl ([(o, .inl (dA 3, 1, .inr (.inl u.2)))] ++ (CW dA u.1)) t.heap ∧ va_D A ([(o, .inl (dA 3, 1, .inr (.inl u.2)))] ++ (CW dA u.1))) A) (XC := fun A => vx_X (fun (k : Nat) => False) (fun E9 k t => E9 = xN k) A) RL rfl (by decide) (Nat.le_of_ble_eq_true rfl) ?_
  intro p e s m args below meth c hae hx hb hr hts hown hlocks hml hnm htb hP hK A hAe hD hZ hS hA ls hl
  replace hl : lv_has ls 4 [(0, .ref (c9.xa 0)), (1, .int p0), (2, .ref o)] := hl
  refine lv_aload_n hx hb dL_click_0 rfl (lv_at hl 2 rfl) ?_
  refine lv_iconst (v := 0) hx hb dL_click_1 (by decide) ?_
  refine lv_aload_n hx hb dL_click_2 rfl (lv_at hl 0 rfl) ?_
  refine lv_iload_n hx hb dL_click_3 rfl (lv_at hl 1 rfl) ?_
  replace hPc := va_P.part (X := [(o, .inl (dA 3, 1, .inr (.inl g)))]) (cx := []) (pl := (CW dA c9)) hP [] rfl
  replace hDc := va_D.part (X := [(o, .inl (dA 3, 1, .inr (.inl g)))]) (cx := []) (pl := (CW dA c9)) hD [] (by decide) rfl
  replace hFc := va_freeP (X := [(o, .inl (dA 3, 1, .inr (.inl g)))]) (cx := []) (pl := (CW dA c9)) hD hS hA [] rfl
  refine vx_calli (vx_runV (As := [.int p0]) (rest := [.int 0, .ref o]) ⟨hx, hb, hml, hown, hts⟩ (y8_click l hlt D dA E c9 tn p0 s.heap.size  hI htn) (cwV 1 hts (ga_V q709 q710 q707 q346 q708) rfl rfl rfl (by decide +kernel) ⟨(Nat.le_of_ble_eq_true rfl), (Nat.le_of_ble_eq_true rfl)⟩) ⟨pb_blind, va_recv hK hPc (ci := 11) (q0 := 0) rfl rfl, pb_pre hK hPc hDc hZ hS hFc _⟩ rfl rfl hl.1 rfl (lv_room (Nat.le_of_ble_eq_true rfl)) dL_click_4 ⟨(Nat.le_of_ble_eq_true rfl), (Nat.le_of_ble_eq_true rfl)⟩) hS (fun q _ h => hFc q h) hFc (fun q _ h => hFc q h) (fun E9 ce q9 k t H1 locs ht hvm hpx hBX hz1 hk1 hS hce hcv hcl => ?_) (fun r u t H1 locs ht hvm hw hB hz1 hk1 hS => ?_)
  · obtain ⟨k1, kx⟩ := k
    obtain ⟨hBE, hP1, hD1⟩ := hBX
    rw [ht] at hP1
    dsimp only at hpx hBE hP1 hD1
    obtain ⟨hP, hD⟩ := va_joinP (X := [(o, .inl (dA 3, 1, .inr (.inl g)))]) (cx := []) (wr := [(o, .inl (dA 3, 1, .inr (.inl g)))]) (rx := []) (pl := (CW dA c9)) (pl1 := (CW dA kx)) hP hD [] [0] rfl rfl (by decide) (by decide) hk1 hFc hP1 hD1
    generalize H1 = H at hP hS hce ⊢
    replace hP : va_P D vwCl (HAppend.hAppend (α := va_W) (β := va_W) (γ := va_W) [(o, .inl (dA 3, 1, .inr (.inl g)))] (CW dA kx)) H := hP
    replace hD : va_D A (HAppend.hAppend (α := va_W) (β := va_W) (γ := va_W) [(o, .inl (dA 3, 1, .inr (.inl g)))] (CW dA kx)) := hD
    obtain ⟨hcx, hxx, hkx, hrx⟩ := hpx
    refine vx_widen (k := 1) (n := 6) (Nat.le_of_ble_eq_true rfl) (Nat.le_of_ble_eq_true rfl) ?_
    subst hkx
    subst hBE
    refine vx_catch (own := RL) (name := "java/lang/IndexOutOfBoundsException") (E := "java/lang/IndexOutOfBoundsException") hown [] ⟨0, 9, 12, 21⟩ [] htb (fun _ h9 => absurd h9 List.not_mem_nil) rfl (by decide) (hts _ q702) (va_Nw.use rfl (hZ.1.1 _ (List.mem_of_getElem? (i := 3) rfl))) hce hcv hcl ?_
    refine W.eq (g2 := F0 m 12 ls [.ref q9]) rfl ?_
    refine lv_astore_n (lv' := [(3, .ref q9), (0, .ref (c9.xa 0)), (1, .int p0), (2, .ref o)]) hx hb dL_click_12 rfl hl (by decide) rfl (fun ls hl => ?_)
    refine lv_iconst (v := 1) hx hb dL_click_13 (by decide) ?_
    refine W.widen (k := 1) (n := 6) (Nat.le_of_ble_eq_true rfl) (Nat.le_of_ble_eq_true rfl) ?_
    refine vx_ret ?_
    have hP9 := va_P.part (X := [(o, .inl (dA 3, 1, .inr (.inl g)))]) (cx := [(o, .inl (dA 3, 1, .inr (.inl g)))]) (pl := (CW dA kx)) hP [0] rfl
    have hD9 := va_D.part (X := [(o, .inl (dA 3, 1, .inr (.inl g)))]) (cx := [(o, .inl (dA 3, 1, .inr (.inl g)))]) (pl := (CW dA kx)) hD [0] (by decide) rfl
    exact W.iret (v := 1) hx hb hr (fun t ht hW => ⟨⟨1, (kx, g), rfl, ⟨hcx, hxx, (hrx.2)⟩, ⟨by rw [ht]; exact hP9, hD9⟩⟩, hS.F ht⟩) hS.2.2 dL_click_14
  · refine W.widen (k := 1) (n := 6) (Nat.le_of_ble_eq_true rfl) (Nat.le_of_ble_eq_true rfl) ?_
    obtain ⟨r1, rfl⟩ : ∃ z, z = r := ⟨_, rfl⟩
    obtain ⟨u2, rfl⟩ : ∃ z, z = u := ⟨_, rfl⟩
    have hw3 := hw
    clear hw
    obtain ⟨hP1, hD1⟩ := hB
    rw [ht] at hP1
    obtain ⟨hP, hD⟩ := va_joinP (X := [(o, .inl (dA 3, 1, .inr (.inl g)))]) (cx := []) (wr := [(o, .inl (dA 3, 1, .inr (.inl g)))]) (rx := []) (pl := (CW dA c9)) (pl1 := (CW dA u2)) hP hD [] [0] rfl rfl (by decide) (by decide) hk1 hFc hP1 hD1
    generalize H1 = H at hP hS ⊢
    replace hP : va_P D vwCl (HAppend.hAppend (α := va_W) (β := va_W) (γ := va_W) [(o, .inl (dA 3, 1, .inr (.inl g)))] (CW dA u2)) H := hP
    replace hD : va_D A (HAppend.hAppend (α := va_W) (β := va_W) (γ := va_W) [(o, .inl (dA 3, 1, .inr (.inl g)))] (CW dA u2)) := hD
    refine lv_i2l (v := r1.toInt64) hx hb dL_click_7 rfl ?_
    refine va_last hx hb hK hP hD hS 0 3 rfl rfl (vi_c (by decide)) dL_click_8 (fun H locs hP hD hS => ?_)
    replace hP : va_P D vwCl (HAppend.hAppend (α := va_W) (β := va_W) (γ := va_W) [(o, .inl (dA 3, 1, .inr (.inl (vp_updL g 0 r1.toInt64))))] (CW dA u2)) H := hP
    replace hD : va_D A (HAppend.hAppend (α := va_W) (β := va_W) (γ := va_W) [(o, .inl (dA 3, 1, .inr (.inl (vp_updL g 0 r1.toInt64))))] (CW dA u2)) := hD
    refine lv_goto (tgt := 15) hx hb dL_click_9 (by decide) ?_
    refine lv_iconst (v := 0) hx hb dL_click_15 (by decide) ?_
    refine W.widen (k := 1) (n := 6) (Nat.le_of_ble_eq_true rfl) (Nat.le_of_ble_eq_true rfl) ?_
    refine vx_ret ?_
    have hP9 := va_P.part (X := [(o, .inl (dA 3, 1, .inr (.inl (vp_updL g 0 r1.toInt64))))]) (cx := [(o, .inl (dA 3, 1, .inr (.inl (vp_updL g 0 r1.toInt64))))]) (pl := (CW dA u2)) hP [0] rfl
    have hD9 := va_D.part (X := [(o, .inl (dA 3, 1, .inr (.inl (vp_updL g 0 r1.toInt64))))]) (cx := [(o, .inl (dA 3, 1, .inr (.inl (vp_updL g 0 r1.toInt64))))]) (pl := (CW dA u2)) hD [0] (by decide) rfl
    exact W.iret (v := 0) hx hb hr (fun t ht hW => ⟨⟨0, (u2, vp_updL g 0 r1.toInt64), rfl, ⟨hw3.1, hw3.2.1, (hw3.2.2.2.2)⟩, ⟨by rw [ht]; exact hP9, hD9⟩⟩, hS.F ht⟩) hS.2.2 dL_click_16

set_option maxHeartbeats 4000000 in
set_option maxRecDepth 100000 in
theorem c_L_state (l : Launch) (hlt : l.stackTraces = false) (D : va_G) (dA : Nat → ClassId) (E : Nat) (c9 : CS) (tn o : Nat) (g : Nat → Int64) (p0 : Int32) (sz : Nat) (hI : CI E tn c9) (htn : tn ≤ 600) : vx_Met l yL_state (wq (.codeWith yL_state cL_state 4 (some .int) [(0, 9, 12, 21)])) { frames := 8, cells := 1, slots := 6, locals := 124 } (va_Pc [.ref (c9.xa 0), .int p0, .ref o] (PcB D dA E (HAppend.hAppend (α := va_W) (β := va_W) (γ := va_W) [(o, .inl (dA 3, 1, .inr (.inl g)))] (CW dA c9)) sz)) (va_Qi (fun (r : Int32) (u : CS × (Nat → Int64)) => CI E (tn + 1) u.1 ∧ u.1.xa = c9.xa ∧ ((u.1.cm = c9.cm))) (fun u t => va_P D vwCl ([(o, .inl (dA 3, 1, .inr (.inl u.2)))] ++ (CW dA u.1)) t.heap ∧ va_D (va_A (HAppend.hAppend (α := va_W) (β := va_W) (γ := va_W) [(o, .inl (dA 3, 1, .inr (.inl g)))] (CW dA c9)) sz) ([(o, .inl (dA 3, 1, .inr (.inl u.2)))] ++ (CW dA u.1))) (va_A (HAppend.hAppend (α := va_W) (β := va_W) (γ := va_W) [(o, .inl (dA 3, 1, .inr (.inl g)))] (CW dA c9)) sz)) (vx_X (fun (k : Nat) => False) (fun E9 k t => E9 = xN k) (va_A (HAppend.hAppend (α := va_W) (β := va_W) (γ := va_W) [(o, .inl (dA 3, 1, .inr (.inl g)))] (CW dA c9)) sz)) 1 6 (va_A (HAppend.hAppend (α := va_W) (β := va_W) (γ := va_W) [(o, .inl (dA 3, 1, .inr (.inl g)))] (CW dA c9)) sz) := by
  refine mh_of (y := yL_state) (av := [.ref (c9.xa 0), .int p0, .ref o]) (maxL := 4) (Qc := fun A => va_Qi (fun (r : Int32) (u : CS × (Nat → Int64)) => CI E (tn + 1) u.1 ∧ u.1.xa = c9.xa ∧ ((u.1.cm = c9.cm))) (fun u t => va_P D vwCl ([(o, .inl (dA 3, 1, .inr (.inl u.2)))] ++ (CW dA u.1)) t.heap ∧ va_D A ([(o, .inl (dA 3, 1, .inr (.inl u.2)))] ++ (CW dA u.1))) A) (XC := fun A => vx_X (fun (k : Nat) => False) (fun E9 k t => E9 = xN k) A) RL rfl (by decide) (Nat.le_of_ble_eq_true rfl) ?_
  intro p e s m args below meth c hae hx hb hr hts hown hlocks hml hnm htb hP hK A hAe hD hZ hS hA ls hl
  replace hl : lv_has ls 4 [(0, .ref (c9.xa 0)), (1, .int p0), (2, .ref o)] := hl
  refine lv_aload_n hx hb dL_state_0 rfl (lv_at hl 2 rfl) ?_
  refine lv_iconst (v := 0) hx hb dL_state_1 (by decide) ?_
  refine lv_aload_n hx hb dL_state_2 rfl (lv_at hl 0 rfl) ?_
  refine lv_iload_n hx hb dL_state_3 rfl (lv_at hl 1 rfl) ?_
  replace hPc := va_P.part (X := [(o, .inl (dA 3, 1, .inr (.inl g)))]) (cx := []) (pl := (CW dA c9)) hP [] rfl
  replace hDc := va_D.part (X := [(o, .inl (dA 3, 1, .inr (.inl g)))]) (cx := []) (pl := (CW dA c9)) hD [] (by decide) rfl
  replace hFc := va_freeP (X := [(o, .inl (dA 3, 1, .inr (.inl g)))]) (cx := []) (pl := (CW dA c9)) hD hS hA [] rfl
  refine vx_calli (vx_runV (As := [.int p0]) (rest := [.int 0, .ref o]) ⟨hx, hb, hml, hown, hts⟩ (y8_state l hlt D dA E c9 tn p0 s.heap.size  hI htn) (cwV 1 hts (ga_V q713 q714 q711 q346 q712) rfl rfl rfl (by decide +kernel) ⟨(Nat.le_of_ble_eq_true rfl), (Nat.le_of_ble_eq_true rfl)⟩) ⟨pb_blind, va_recv hK hPc (ci := 11) (q0 := 0) rfl rfl, pb_pre hK hPc hDc hZ hS hFc _⟩ rfl rfl hl.1 rfl (lv_room (Nat.le_of_ble_eq_true rfl)) dL_state_4 ⟨(Nat.le_of_ble_eq_true rfl), (Nat.le_of_ble_eq_true rfl)⟩) hS (fun q _ h => hFc q h) hFc (fun q _ h => hFc q h) (fun E9 ce q9 k t H1 locs ht hvm hpx hBX hz1 hk1 hS hce hcv hcl => ?_) (fun r u t H1 locs ht hvm hw hB hz1 hk1 hS => ?_)
  · obtain ⟨k1, kx⟩ := k
    obtain ⟨hBE, hP1, hD1⟩ := hBX
    rw [ht] at hP1
    dsimp only at hpx hBE hP1 hD1
    obtain ⟨hP, hD⟩ := va_joinP (X := [(o, .inl (dA 3, 1, .inr (.inl g)))]) (cx := []) (wr := [(o, .inl (dA 3, 1, .inr (.inl g)))]) (rx := []) (pl := (CW dA c9)) (pl1 := (CW dA kx)) hP hD [] [0] rfl rfl (by decide) (by decide) hk1 hFc hP1 hD1
    generalize H1 = H at hP hS hce ⊢
    replace hP : va_P D vwCl (HAppend.hAppend (α := va_W) (β := va_W) (γ := va_W) [(o, .inl (dA 3, 1, .inr (.inl g)))] (CW dA kx)) H := hP
    replace hD : va_D A (HAppend.hAppend (α := va_W) (β := va_W) (γ := va_W) [(o, .inl (dA 3, 1, .inr (.inl g)))] (CW dA kx)) := hD
    obtain ⟨hcx, hxx, hkx, hrx⟩ := hpx
    refine vx_widen (k := 1) (n := 6) (Nat.le_of_ble_eq_true rfl) (Nat.le_of_ble_eq_true rfl) ?_
    subst hkx
    subst hBE
    refine vx_catch (own := RL) (name := "java/lang/IndexOutOfBoundsException") (E := "java/lang/IndexOutOfBoundsException") hown [] ⟨0, 9, 12, 21⟩ [] htb (fun _ h9 => absurd h9 List.not_mem_nil) rfl (by decide) (hts _ q702) (va_Nw.use rfl (hZ.1.1 _ (List.mem_of_getElem? (i := 3) rfl))) hce hcv hcl ?_
    refine W.eq (g2 := F0 m 12 ls [.ref q9]) rfl ?_
    refine lv_astore_n (lv' := [(3, .ref q9), (0, .ref (c9.xa 0)), (1, .int p0), (2, .ref o)]) hx hb dL_state_12 rfl hl (by decide) rfl (fun ls hl => ?_)
    refine lv_iconst (v := 1) hx hb dL_state_13 (by decide) ?_
    refine W.widen (k := 1) (n := 6) (Nat.le_of_ble_eq_true rfl) (Nat.le_of_ble_eq_true rfl) ?_
    refine vx_ret ?_
    have hP9 := va_P.part (X := [(o, .inl (dA 3, 1, .inr (.inl g)))]) (cx := [(o, .inl (dA 3, 1, .inr (.inl g)))]) (pl := (CW dA kx)) hP [0] rfl
    have hD9 := va_D.part (X := [(o, .inl (dA 3, 1, .inr (.inl g)))]) (cx := [(o, .inl (dA 3, 1, .inr (.inl g)))]) (pl := (CW dA kx)) hD [0] (by decide) rfl
    exact W.iret (v := 1) hx hb hr (fun t ht hW => ⟨⟨1, (kx, g), rfl, ⟨hcx, hxx, (hrx.2)⟩, ⟨by rw [ht]; exact hP9, hD9⟩⟩, hS.F ht⟩) hS.2.2 dL_state_14
  · refine W.widen (k := 1) (n := 6) (Nat.le_of_ble_eq_true rfl) (Nat.le_of_ble_eq_true rfl) ?_
    obtain ⟨r1, rfl⟩ : ∃ z, z = r := ⟨_, rfl⟩
    obtain ⟨u2, rfl⟩ : ∃ z, z = u := ⟨_, rfl⟩
    have hw3 := hw
    clear hw
    obtain ⟨hP1, hD1⟩ := hB
    rw [ht] at hP1
    obtain ⟨hP, hD⟩ := va_joinP (X := [(o, .inl (dA 3, 1, .inr (.inl g)))]) (cx := []) (wr := [(o, .inl (dA 3, 1, .inr (.inl g)))]) (rx := []) (pl := (CW dA c9)) (pl1 := (CW dA u2)) hP hD [] [0] rfl rfl (by decide) (by decide) hk1 hFc hP1 hD1
    generalize H1 = H at hP hS ⊢
    replace hP : va_P D vwCl (HAppend.hAppend (α := va_W) (β := va_W) (γ := va_W) [(o, .inl (dA 3, 1, .inr (.inl g)))] (CW dA u2)) H := hP
    replace hD : va_D A (HAppend.hAppend (α := va_W) (β := va_W) (γ := va_W) [(o, .inl (dA 3, 1, .inr (.inl g)))] (CW dA u2)) := hD
    refine lv_i2l (v := r1.toInt64) hx hb dL_state_7 rfl ?_
    refine va_last hx hb hK hP hD hS 0 3 rfl rfl (vi_c (by decide)) dL_state_8 (fun H locs hP hD hS => ?_)
    replace hP : va_P D vwCl (HAppend.hAppend (α := va_W) (β := va_W) (γ := va_W) [(o, .inl (dA 3, 1, .inr (.inl (vp_updL g 0 r1.toInt64))))] (CW dA u2)) H := hP
    replace hD : va_D A (HAppend.hAppend (α := va_W) (β := va_W) (γ := va_W) [(o, .inl (dA 3, 1, .inr (.inl (vp_updL g 0 r1.toInt64))))] (CW dA u2)) := hD
    refine lv_goto (tgt := 15) hx hb dL_state_9 (by decide) ?_
    refine lv_iconst (v := 0) hx hb dL_state_15 (by decide) ?_
    refine W.widen (k := 1) (n := 6) (Nat.le_of_ble_eq_true rfl) (Nat.le_of_ble_eq_true rfl) ?_
    refine vx_ret ?_
    have hP9 := va_P.part (X := [(o, .inl (dA 3, 1, .inr (.inl (vp_updL g 0 r1.toInt64))))]) (cx := [(o, .inl (dA 3, 1, .inr (.inl (vp_updL g 0 r1.toInt64))))]) (pl := (CW dA u2)) hP [0] rfl
    have hD9 := va_D.part (X := [(o, .inl (dA 3, 1, .inr (.inl (vp_updL g 0 r1.toInt64))))]) (cx := [(o, .inl (dA 3, 1, .inr (.inl (vp_updL g 0 r1.toInt64))))]) (pl := (CW dA u2)) hD [0] (by decide) rfl
    exact W.iret (v := 0) hx hb hr (fun t ht hW => ⟨⟨0, (u2, vp_updL g 0 r1.toInt64), rfl, ⟨hw3.1, hw3.2.1, (hw3.2.2.2.2)⟩, ⟨by rw [ht]; exact hP9, hD9⟩⟩, hS.F ht⟩) hS.2.2 dL_state_16
