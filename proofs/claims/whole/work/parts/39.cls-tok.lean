set_option maxRecDepth 100000 in
set_option maxHeartbeats 4000000 in
theorem c_X5_readToken (l : Launch) (G : GX) (o : Nat) (b : Nat) (w : Nat) (s2 : Nat) (i2 : Nat) (p9 : Nat) (lt : Nat) (br : Int) (lp : Int) (a : Nat) (n : Int) (rd : Int) (e : Int) (B : Nat → Nat) (base : Int) (bp : Nat → Int) (k : Nat) (x : Nat) (i8 : Nat) (d8 : Nat) (pl : Int) (af : Int) (wh : Int) (len : Int) (ror : Int) (rl : Int) (re : UInt64) (t : Nat → Nat) (rn : Nat → Int) (rr : Nat → UInt64) (c : Int) (hn : 0 ≤ n ∧ n ≤ 3000) (hBb : ∀ j, B j < 256) (he : e = 0 ∨ e = 1) (htb : ∀ j, t j < 256) (hi : 0 ≤ pl ∧ pl < n) (h0 : len = 0) (hw0 : wh = 0) (hre0 : re = FP.dconst0) (hrl0 : rl = 0) (haf0 : af = pl + 1) (hr0 : ror = 0 ∨ ror = 1) (hbr : 0 ≤ br ∧ br ≤ 20) (hcb : c = bA B n pl) : CtI l G yX5_readToken cX5_readToken 2 (some .int) ({ frames := 6, cells := 0, slots := 0, locals := 142 } : Room) [.ref o, .int (iI c)] [oTR o b w s2 i2 p9 br lt k lp, oBy b a n rd e, aB G a 3000 B, oWd w b base, oSt s2 b, oBi i2 b, aI G p9 20 bp, oTk k pl af wh re x len i8 d8 ror rl, aB G x 401 t, aI G i8 60 rn, aF G d8 60 rr] (fun (z9 : Int) (w9 : va_W) => ∃ (br2 : Int), ∃ (base2 : Int), ∃ (bp2 : Nat → Int), ∃ (pl2 : Int), ∃ (af2 : Int), ∃ (wh2 : Int), ∃ (len2 : Int), ∃ (ror2 : Int), ∃ (rl2 : Int), ∃ (re2 : UInt64), ∃ (t2 : Nat → Nat), ∃ (rn2 : Nat → Int), ∃ (rr2 : Nat → UInt64), w9 = [oTR o b w s2 i2 p9 br2 lt k lp, oBy b a n rd e, aB G a 3000 B, oWd w b base2, oSt s2 b, oBi i2 b, aI G p9 20 bp2, oTk k pl2 af2 wh2 re2 x len2 i8 d8 ror2 rl2, aB G x 401 t2, aI G i8 60 rn2, aF G d8 60 rr2] ∧ (z9 = rtN B n e pl br c) ∧ (z9 ≠ 0 → af2 = rtF B n pl c ∧ pl2 = rtP B n pl c) ∧ (0 < z9 → wh2 = rtW B n e pl c ∧ re2 = rtR B n e pl c ∧ TX t2 len2 (rtO B n e pl c) ∧ rl2 = rtL B n pl c ∧ (0 ≤ rl2 ∧ rl2 ≤ 60) ∧ (∀ j : Int, 0 ≤ j → j < rl2 → rn2 j.toNat = rowN B n (pl + 4) (bA B n (pl + 1)) j ∧ rr2 j.toNat = rowD B n (pl + 4) (bA B n (pl + 1)) j) ∧ (0 < rl2 → ror2 = tf (rwR (bA B n (pl + 1))))) ∧ (base2 = rtB B n e pl c base) ∧ (br2 = (if z9 = 9 then br + 1 else if z9 = 10 then br - 1 else br)) ∧ (bp2 = (if z9 = 9 then uI bp br.toNat pl else bp)) ∧ (∀ j, t2 j < 256) ∧ (ror2 = 0 ∨ ror2 = 1)) := by
  intro sz
  refine met_of (fun wc sz => va_Qi (qI _) (posW G wc sz) (va_A wc sz)) (by decide) [(0, .ref o), (1, .int (iI c))] rfl (Nat.le_of_ble_eq_true rfl) (fun K hK9 hnm X Y => ?_)
  subst hK9
  replace Y : RI K G (some .int) 0 0 _ := Y
  have hcR := bA_C n pl hBb
  have j27 : ∀  (hnb : ¬ isB c), SW K G 2 0 0 27 [(0, .ref o), (1, .int (iI c))] [] [oTR o b w s2 i2 p9 br lt k lp, oBy b a n rd e, aB G a 3000 B, oWd w b base, oSt s2 b, oBi i2 b, aI G p9 20 bp, oTk k pl af wh re x len i8 d8 ror rl, aB G x 401 t, aI G i8 60 rn, aF G d8 60 rr] := by
    intro hnb
    refine s_iload_n X dX5_readToken_27 rfl 1 rfl ?_
    by_cases c28_40 : c = 40
    · have c28 := c28_40
      refine s_lookup (off := 96) X 124 dX5_readToken_28 (by decide) (by omega) (by rw [c28]; try decide) (by decide) ?_
      refine s_aload_n X dX5_readToken_124 rfl 0 rfl ?_
      refine s_get X dX5_readToken_125 fl_X5_28 0 rfl rfl ?_
      refine s_aload_n X dX5_readToken_128 rfl 0 rfl ?_
      refine s_get X dX5_readToken_129 fl_X5_50 0 rfl rfl ?_
      refine s_callIV X lk_X5_165 [4, 1, 2, 7, 8] [0, 3, 5, 6, 9, 10] (wr := [oTR o b w s2 i2 p9 br lt k lp, oWd w b base, oBi i2 b, aI G p9 20 bp, aI G i8 60 rn, aF G d8 60 rr]) rfl rfl (by decide) (by decide) (by decide) (c_X2_readRound (kl K) G s2 b a n rd e B k x i8 d8 pl af wh len ror rl re t (by assumption) (by assumption) (by omega) (by assumption) (by assumption) (by omega)) rfl rfl dX5_readToken_132 rfl rfl (Nat.le_of_ble_eq_true rfl) (by decide) (fun z1 w1 h1 => ?_)
      obtain ⟨pl21, af21, wh21, len21, t21, rfl, f1_0, f1_1, f1_2, f1_3, f1_4⟩ := h1
      show SW K G 2 0 0 135 [(0, .ref o), (1, .int (iI c))] [.int (iI z1)] [oTR o b w s2 i2 p9 br lt k lp, oWd w b base, oBi i2 b, aI G p9 20 bp, aI G i8 60 rn, aF G d8 60 rr, oSt s2 b, oBy b a n rd e, aB G a 3000 B, oTk k pl21 af21 wh21 re x len21 i8 d8 ror rl, aB G x 401 t21]
      have g0 := f1_0
      have g1 := f1_1
      have g2 := f1_2
      have g3 := f1_3
      have g4 := f1_4
      refine s_perm (ws' := [oTR o b w s2 i2 p9 br lt k lp, oBy b a n rd e, aB G a 3000 B, oWd w b base, oSt s2 b, oBi i2 b, aI G p9 20 bp, oTk k pl21 af21 wh21 re x len21 i8 d8 ror rl, aB G x 401 t21, aI G i8 60 rn, aF G d8 60 rr]) [0, 7, 8, 1, 6, 2, 3, 9, 10, 4, 5] (by decide) rfl rfl ?_
      refine s_iret X Y dX5_readToken_135 (rfl) ?_
      refine ⟨br, base, bp, pl21, af21, wh21, len21, ror, rl, re, t21, rn, rr, rfl, ?_, ?_, ?_, ?_, ?_, ?_, ?_, ?_⟩
      · (first | (exfalso; omega) | (rw [c28, (rt_40 B n e pl br base).1]; exact g0))
      · (first | (exfalso; omega) | (intro h; rw [c28, (rt_40 B n e pl br base).2.1, (rt_40 B n e pl br base).2.2.1]; exact g1 h))
      · (first | (exfalso; omega) | (intro h; rw [c28, (rt_40 B n e pl br base).2.2.2.1, (rt_40 B n e pl br base).2.2.2.2.1, (rt_40 B n e pl br base).2.2.2.2.2.1, (rt_40 B n e pl br base).2.2.2.2.2.2.1]; have h6 := g2 (stA_6 g0 h); exact ⟨h6.1, hre0, h6.2, hrl0, by omega, fun j a b => by omega, fun h8 => by omega⟩))
      · (first | (exfalso; omega) | (rw [c28, (rt_40 B n e pl br base).2.2.2.2.2.2.2]))
      · (first | (exfalso; omega) | (have h9 := stA_C e (rdS B n (pl + 1) 1 []); rw [← g0] at h9; rw [if_neg (by omega), if_neg (by omega)]))
      · (first | (exfalso; omega) | (have h9 := stA_C e (rdS B n (pl + 1) 1 []); rw [← g0] at h9; rw [if_neg (by omega)]))
      · (first | (exfalso; omega) | (exact g4))
      · (first | (exfalso; omega) | (exact hr0))
    by_cases c28_41 : c = 41
    · have c28 := c28_41
      refine s_lookup (off := 108) X 136 dX5_readToken_28 (by decide) (by omega) (by rw [c28]; try decide) (by decide) ?_
      refine s_bipush (-4) X dX5_readToken_136 (by decide) ?_
      refine s_iret X Y dX5_readToken_138 (rfl) ?_
      refine ⟨br, base, bp, pl, af, wh, len, ror, rl, re, t, rn, rr, rfl, ?_, ?_, ?_, ?_, ?_, ?_, ?_, ?_⟩
      · (first | (exfalso; omega) | (rw [c28, (rt_41 B n e pl br base).1]))
      · (first | (exfalso; omega) | (intro h; rw [c28, (rt_41 B n e pl br base).2.1, (rt_41 B n e pl br base).2.2.1]; exact ⟨haf0, rfl⟩))
      · (first | (exfalso; omega) | (intro h; exact absurd h (by decide)))
      · (first | (exfalso; omega) | (rw [c28, (rt_41 B n e pl br base).2.2.2.2.2.2.2]))
      · (first | (exfalso; omega) | (rfl))
      · (first | (exfalso; omega) | (rfl))
      · (first | (exfalso; omega) | (exact htb))
      · (first | (exfalso; omega) | (exact hr0))
    by_cases c28_47 : c = 47
    · have c28 := c28_47
      refine s_lookup (off := 84) X 112 dX5_readToken_28 (by decide) (by omega) (by rw [c28]; try decide) (by decide) ?_
      refine s_aload_n X dX5_readToken_112 rfl 0 rfl ?_
      refine s_get X dX5_readToken_113 fl_X5_21 0 rfl rfl ?_
      refine s_aload_n X dX5_readToken_116 rfl 0 rfl ?_
      refine s_get X dX5_readToken_117 fl_X5_50 0 rfl rfl ?_
      refine s_callIV X lk_X5_161 [3, 1, 2, 7, 8] [0, 4, 5, 6, 9, 10] (wr := [oTR o b w s2 i2 p9 br lt k lp, oSt s2 b, oBi i2 b, aI G p9 20 bp, aI G i8 60 rn, aF G d8 60 rr]) rfl rfl (by decide) (by decide) (by decide) (c_X4_readSlashed (kl K) G w base b a n rd e k x i8 d8 pl af wh len ror rl re B t (by assumption) (by assumption) (by omega) (by assumption) (by assumption) (by omega)) rfl rfl dX5_readToken_120 rfl rfl (Nat.le_of_ble_eq_true rfl) (by decide) (fun z2 w2 h2 => ?_)
      obtain ⟨af22, wh22, len22, t22, rfl, f2_0, f2_1, f2_2, f2_3, f2_4⟩ := h2
      show SW K G 2 0 0 123 [(0, .ref o), (1, .int (iI c))] [.int (iI z2)] [oTR o b w s2 i2 p9 br lt k lp, oSt s2 b, oBi i2 b, aI G p9 20 bp, aI G i8 60 rn, aF G d8 60 rr, oWd w b base, oBy b a n rd e, aB G a 3000 B, oTk k pl af22 wh22 re x len22 i8 d8 ror rl, aB G x 401 t22]
      have g0 := f2_0
      have g1 := f2_1
      have g2 := f2_2
      have g3 := f2_3
      have g4 := f2_4
      refine s_perm (ws' := [oTR o b w s2 i2 p9 br lt k lp, oBy b a n rd e, aB G a 3000 B, oWd w b base, oSt s2 b, oBi i2 b, aI G p9 20 bp, oTk k pl af22 wh22 re x len22 i8 d8 ror rl, aB G x 401 t22, aI G i8 60 rn, aF G d8 60 rr]) [0, 7, 8, 6, 1, 2, 3, 9, 10, 4, 5] (by decide) rfl rfl ?_
      refine s_iret X Y dX5_readToken_123 (rfl) ?_
      refine ⟨br, base, bp, pl, af22, wh22, len22, ror, rl, re, t22, rn, rr, rfl, ?_, ?_, ?_, ?_, ?_, ?_, ?_, ?_⟩
      · (first | (exfalso; omega) | (rw [c28, (rt_47 B n e pl br base).1]; exact g0))
      · (first | (exfalso; omega) | (intro h; rw [c28, (rt_47 B n e pl br base).2.1, (rt_47 B n e pl br base).2.2.1]; exact ⟨g1 h, rfl⟩))
      · (first | (exfalso; omega) | (intro h; rw [c28, (rt_47 B n e pl br base).2.2.2.1, (rt_47 B n e pl br base).2.2.2.2.1, (rt_47 B n e pl br base).2.2.2.2.2.1, (rt_47 B n e pl br base).2.2.2.2.2.2.1]; obtain ⟨a1, a2, a3⟩ := g2 h; exact ⟨a1, hre0, TX_wd a3 a2 g3 g4, hrl0, by omega, fun j a b => by omega, fun h8 => by omega⟩))
      · (first | (exfalso; omega) | (rw [c28, (rt_47 B n e pl br base).2.2.2.2.2.2.2]))
      · (first | (exfalso; omega) | (have h9 := rtA_C (we B n (slS B n pl)) n e (slS B n pl) (slK B n pl); rw [← g0] at h9; have h8 : slK B n pl = 5 ∨ slK B n pl = 4 := (by unfold slK; split <;> simp); rw [if_neg (by omega), if_neg (by omega)]))
      · (first | (exfalso; omega) | (have h9 := rtA_C (we B n (slS B n pl)) n e (slS B n pl) (slK B n pl); rw [← g0] at h9; have h8 : slK B n pl = 5 ∨ slK B n pl = 4 := (by unfold slK; split <;> simp); rw [if_neg (by omega)]))
      · (first | (exfalso; omega) | (exact g4))
      · (first | (exfalso; omega) | (exact hr0))
    by_cases c28_60 : c = 60
    · have c28 := c28_60
      refine s_lookup (off := 111) X 139 dX5_readToken_28 (by decide) (by omega) (by rw [c28]; try decide) (by decide) ?_
      refine s_aload_n X dX5_readToken_139 rfl 0 rfl ?_
      refine s_callIV X lk_X5_168 [0, 1, 2, 4, 7, 8] [3, 5, 6, 9, 10] (wr := [oWd w b base, oBi i2 b, aI G p9 20 bp, aI G i8 60 rn, aF G d8 60 rr]) rfl rfl (by decide) (by decide) (by decide) (c_X5_readLess (kl K) G o b w s2 i2 p9 lt br lp a n rd e B k x i8 d8 pl af wh len ror rl re t (by assumption) (by assumption) (by omega) (by assumption) (by omega) (by assumption) (by assumption) (by assumption)) rfl rfl dX5_readToken_140 rfl rfl (Nat.le_of_ble_eq_true rfl) (by decide) (fun z3 w3 h3 => ?_)
      obtain ⟨pl23, af23, wh23, len23, t23, rfl, f3_0, f3_1, f3_2, f3_3⟩ := h3
      show SW K G 2 0 0 143 [(0, .ref o), (1, .int (iI c))] [.int (iI z3)] [oWd w b base, oBi i2 b, aI G p9 20 bp, aI G i8 60 rn, aF G d8 60 rr, oTR o b w s2 i2 p9 br lt k lp, oBy b a n rd e, aB G a 3000 B, oSt s2 b, oTk k pl23 af23 wh23 re x len23 i8 d8 ror rl, aB G x 401 t23]
      have g0 := f3_0
      have g1 := f3_1
      have g2 := f3_2
      have g3 := f3_3
      refine s_perm (ws' := [oTR o b w s2 i2 p9 br lt k lp, oBy b a n rd e, aB G a 3000 B, oWd w b base, oSt s2 b, oBi i2 b, aI G p9 20 bp, oTk k pl23 af23 wh23 re x len23 i8 d8 ror rl, aB G x 401 t23, aI G i8 60 rn, aF G d8 60 rr]) [5, 6, 7, 0, 8, 1, 2, 9, 10, 3, 4] (by decide) rfl rfl ?_
      refine s_iret X Y dX5_readToken_143 (rfl) ?_
      refine ⟨br, base, bp, pl23, af23, wh23, len23, ror, rl, re, t23, rn, rr, rfl, ?_, ?_, ?_, ?_, ?_, ?_, ?_, ?_⟩
      · (first | (exfalso; omega) | (rw [c28, (rt_60 B n e pl br base).1]; exact g0))
      · (first | (exfalso; omega) | (intro h; rw [c28, (rt_60 B n e pl br base).2.1, (rt_60 B n e pl br base).2.2.1]; exact g1 h))
      · (first | (exfalso; omega) | (intro h; rw [c28, (rt_60 B n e pl br base).2.2.2.1, (rt_60 B n e pl br base).2.2.2.2.1, (rt_60 B n e pl br base).2.2.2.2.2.1, (rt_60 B n e pl br base).2.2.2.2.2.2.1]; have h6 := g2 h; exact ⟨h6.1, hre0, h6.2, hrl0, by omega, fun j a b => by omega, fun h8 => by omega⟩))
      · (first | (exfalso; omega) | (rw [c28, (rt_60 B n e pl br base).2.2.2.2.2.2.2]))
      · (first | (exfalso; omega) | (have h9 := lsA_C B n e pl; rw [← g0] at h9; rw [if_neg (by omega), if_neg (by omega)]))
      · (first | (exfalso; omega) | (have h9 := lsA_C B n e pl; rw [← g0] at h9; rw [if_neg (by omega)]))
      · (first | (exfalso; omega) | (exact g3))
      · (first | (exfalso; omega) | (exact hr0))
    by_cases c28_62 : c = 62
    · have c28 := c28_62
      refine s_lookup (off := 116) X 144 dX5_readToken_28 (by decide) (by omega) (by rw [c28]; try decide) (by decide) ?_
      refine s_aload_n X dX5_readToken_144 rfl 0 rfl ?_
      refine s_callIV X lk_X5_171 [0, 1, 2, 7] [3, 4, 5, 6, 8, 9, 10] (wr := [oWd w b base, oSt s2 b, oBi i2 b, aI G p9 20 bp, aB G x 401 t, aI G i8 60 rn, aF G d8 60 rr]) rfl rfl (by decide) (by decide) (by decide) (c_X5_readGreater (kl K) G o b w s2 i2 p9 lt br lp a n rd e B k x i8 d8 pl af wh len ror rl re (by assumption) (by assumption) (by omega) (by omega) (by assumption)) rfl rfl dX5_readToken_145 rfl rfl (Nat.le_of_ble_eq_true rfl) (by decide) (fun z4 w4 h4 => ?_)
      obtain ⟨af24, rfl, rfl, f4_0⟩ := h4
      show SW K G 2 0 0 148 [(0, .ref o), (1, .int (iI c))] [.int (iI (grA B n e pl))] [oWd w b base, oSt s2 b, oBi i2 b, aI G p9 20 bp, aB G x 401 t, aI G i8 60 rn, aF G d8 60 rr, oTR o b w s2 i2 p9 br lt k lp, oBy b a n rd e, aB G a 3000 B, oTk k pl af24 wh re x len i8 d8 ror rl]
      have g0 := f4_0
      refine s_perm (ws' := [oTR o b w s2 i2 p9 br lt k lp, oBy b a n rd e, aB G a 3000 B, oWd w b base, oSt s2 b, oBi i2 b, aI G p9 20 bp, oTk k pl af24 wh re x len i8 d8 ror rl, aB G x 401 t, aI G i8 60 rn, aF G d8 60 rr]) [7, 8, 9, 0, 1, 2, 3, 10, 4, 5, 6] (by decide) rfl rfl ?_
      refine s_iret X Y dX5_readToken_148 (rfl) ?_
      refine ⟨br, base, bp, pl, af24, wh, len, ror, rl, re, t, rn, rr, rfl, ?_, ?_, ?_, ?_, ?_, ?_, ?_, ?_⟩
      · (first | (exfalso; omega) | (rw [c28, (rt_62 B n e pl br base).1]))
      · (first | (exfalso; omega) | (intro h; rw [c28, (rt_62 B n e pl br base).2.1, (rt_62 B n e pl br base).2.2.1]; exact ⟨g0 h, rfl⟩))
      · (first | (exfalso; omega) | (intro h; rw [c28, (rt_62 B n e pl br base).2.2.2.1, (rt_62 B n e pl br base).2.2.2.2.1, (rt_62 B n e pl br base).2.2.2.2.2.1, (rt_62 B n e pl br base).2.2.2.2.2.2.1]; exact ⟨hw0, hre0, (by subst h0; exact TX_0 htb), hrl0, by omega, fun j a b => by omega, fun h8 => by omega⟩))
      · (first | (exfalso; omega) | (rw [c28, (rt_62 B n e pl br base).2.2.2.2.2.2.2]))
      · (first | (exfalso; omega) | (have h9 := grA_C B n e pl; rw [if_neg (by omega), if_neg (by omega)]))
      · (first | (exfalso; omega) | (have h9 := grA_C B n e pl; rw [if_neg (by omega)]))
      · (first | (exfalso; omega) | (exact htb))
      · (first | (exfalso; omega) | (exact hr0))
    by_cases c28_91 : c = 91
    · have c28 := c28_91
      refine s_lookup (off := 121) X 149 dX5_readToken_28 (by decide) (by omega) (by rw [c28]; try decide) (by decide) ?_
      refine s_bipush 7 X dX5_readToken_149 (by decide) ?_
      refine s_iret X Y dX5_readToken_151 (rfl) ?_
      refine ⟨br, base, bp, pl, af, wh, len, ror, rl, re, t, rn, rr, rfl, ?_, ?_, ?_, ?_, ?_, ?_, ?_, ?_⟩
      · (first | (exfalso; omega) | (rw [c28, (rt_91 B n e pl br base).1]))
      · (first | (exfalso; omega) | (intro h; rw [c28, (rt_91 B n e pl br base).2.1, (rt_91 B n e pl br base).2.2.1]; exact ⟨haf0, rfl⟩))
      · (first | (exfalso; omega) | (intro h; rw [c28, (rt_91 B n e pl br base).2.2.2.1, (rt_91 B n e pl br base).2.2.2.2.1, (rt_91 B n e pl br base).2.2.2.2.2.1, (rt_91 B n e pl br base).2.2.2.2.2.2.1]; exact ⟨hw0, hre0, (by subst h0; exact TX_0 htb), hrl0, by omega, fun j a b => by omega, fun h8 => by omega⟩))
      · (first | (exfalso; omega) | (rw [c28, (rt_91 B n e pl br base).2.2.2.2.2.2.2]))
      · (first | (exfalso; omega) | (rfl))
      · (first | (exfalso; omega) | (rfl))
      · (first | (exfalso; omega) | (exact htb))
      · (first | (exfalso; omega) | (exact hr0))
    by_cases c28_93 : c = 93
    · have c28 := c28_93
      refine s_lookup (off := 124) X 152 dX5_readToken_28 (by decide) (by omega) (by rw [c28]; try decide) (by decide) ?_
      refine s_bipush 8 X dX5_readToken_152 (by decide) ?_
      refine s_iret X Y dX5_readToken_154 (rfl) ?_
      refine ⟨br, base, bp, pl, af, wh, len, ror, rl, re, t, rn, rr, rfl, ?_, ?_, ?_, ?_, ?_, ?_, ?_, ?_⟩
      · (first | (exfalso; omega) | (rw [c28, (rt_93 B n e pl br base).1]))
      · (first | (exfalso; omega) | (intro h; rw [c28, (rt_93 B n e pl br base).2.1, (rt_93 B n e pl br base).2.2.1]; exact ⟨haf0, rfl⟩))
      · (first | (exfalso; omega) | (intro h; rw [c28, (rt_93 B n e pl br base).2.2.2.1, (rt_93 B n e pl br base).2.2.2.2.1, (rt_93 B n e pl br base).2.2.2.2.2.1, (rt_93 B n e pl br base).2.2.2.2.2.2.1]; exact ⟨hw0, hre0, (by subst h0; exact TX_0 htb), hrl0, by omega, fun j a b => by omega, fun h8 => by omega⟩))
      · (first | (exfalso; omega) | (rw [c28, (rt_93 B n e pl br base).2.2.2.2.2.2.2]))
      · (first | (exfalso; omega) | (rfl))
      · (first | (exfalso; omega) | (rfl))
      · (first | (exfalso; omega) | (exact htb))
      · (first | (exfalso; omega) | (exact hr0))
    by_cases c28_123 : c = 123
    · have c28 := c28_123
      refine s_lookup (off := 127) X 155 dX5_readToken_28 (by decide) (by omega) (by rw [c28]; try decide) (by decide) ?_
      refine s_aload_n X dX5_readToken_155 rfl 0 rfl ?_
      refine s_callIV X lk_X5_174 [0, 6, 7] [1, 2, 3, 4, 5, 8, 9, 10] (wr := [oBy b a n rd e, aB G a 3000 B, oWd w b base, oSt s2 b, oBi i2 b, aB G x 401 t, aI G i8 60 rn, aF G d8 60 rr]) rfl rfl (by decide) (by decide) (by decide) (c_X5_openBrace (kl K) G o b w s2 i2 p9 lt br lp k x i8 d8 pl af wh len ror rl re bp (by omega)) rfl rfl dX5_readToken_156 rfl rfl (Nat.le_of_ble_eq_true rfl) (by decide) (fun z5 w5 h5 => ?_)
      obtain ⟨br25, bp25, rfl, rfl, f5_0, f5_1⟩ := h5
      show SW K G 2 0 0 159 [(0, .ref o), (1, .int (iI c))] [.int (iI (if 20 ≤ br then -2 else 9))] [oBy b a n rd e, aB G a 3000 B, oWd w b base, oSt s2 b, oBi i2 b, aB G x 401 t, aI G i8 60 rn, aF G d8 60 rr, oTR o b w s2 i2 p9 br25 lt k lp, aI G p9 20 bp25, oTk k pl af wh re x len i8 d8 ror rl]
      have g0 := f5_0
      have g1 := f5_1
      refine s_perm (ws' := [oTR o b w s2 i2 p9 br25 lt k lp, oBy b a n rd e, aB G a 3000 B, oWd w b base, oSt s2 b, oBi i2 b, aI G p9 20 bp25, oTk k pl af wh re x len i8 d8 ror rl, aB G x 401 t, aI G i8 60 rn, aF G d8 60 rr]) [8, 0, 1, 2, 3, 4, 9, 10, 5, 6, 7] (by decide) rfl rfl ?_
      refine s_iret X Y dX5_readToken_159 (rfl) ?_
      refine ⟨br25, base, bp25, pl, af, wh, len, ror, rl, re, t, rn, rr, rfl, ?_, ?_, ?_, ?_, ?_, ?_, ?_, ?_⟩
      · (first | (exfalso; omega) | (rw [c28, (rt_123 B n e pl br base).1]))
      · (first | (exfalso; omega) | (intro h; rw [c28, (rt_123 B n e pl br base).2.1, (rt_123 B n e pl br base).2.2.1]; exact ⟨haf0, rfl⟩))
      · (first | (exfalso; omega) | (intro h; rw [c28, (rt_123 B n e pl br base).2.2.2.1, (rt_123 B n e pl br base).2.2.2.2.1, (rt_123 B n e pl br base).2.2.2.2.2.1, (rt_123 B n e pl br base).2.2.2.2.2.2.1]; exact ⟨hw0, hre0, (by subst h0; exact TX_0 htb), hrl0, by omega, fun j a b => by omega, fun h8 => by omega⟩))
      · (first | (exfalso; omega) | (rw [c28, (rt_123 B n e pl br base).2.2.2.2.2.2.2]))
      · (first | (exfalso; omega) | (exact g0.trans (ob_br br)))
      · (first | (exfalso; omega) | (exact g1.trans (ob_bp br _ _)))
      · (first | (exfalso; omega) | (exact htb))
      · (first | (exfalso; omega) | (exact hr0))
    by_cases c28_125 : c = 125
    · have c28 := c28_125
      refine s_lookup (off := 132) X 160 dX5_readToken_28 (by decide) (by omega) (by rw [c28]; try decide) (by decide) ?_
      refine s_aload_n X dX5_readToken_160 rfl 0 rfl ?_
      refine s_callIV X lk_X5_177 [0] [1, 2, 3, 4, 5, 6, 7, 8, 9, 10] (wr := [oBy b a n rd e, aB G a 3000 B, oWd w b base, oSt s2 b, oBi i2 b, aI G p9 20 bp, oTk k pl af wh re x len i8 d8 ror rl, aB G x 401 t, aI G i8 60 rn, aF G d8 60 rr]) rfl rfl (by decide) (by decide) (by decide) (c_X5_closeBrace (kl K) G o b w s2 i2 p9 lt br lp k (by omega)) rfl rfl dX5_readToken_161 rfl rfl (Nat.le_of_ble_eq_true rfl) (by decide) (fun z6 w6 h6 => ?_)
      obtain ⟨br26, rfl, rfl, f6_0⟩ := h6
      show SW K G 2 0 0 164 [(0, .ref o), (1, .int (iI c))] [.int (iI (if br = 0 then -4 else 10))] [oBy b a n rd e, aB G a 3000 B, oWd w b base, oSt s2 b, oBi i2 b, aI G p9 20 bp, oTk k pl af wh re x len i8 d8 ror rl, aB G x 401 t, aI G i8 60 rn, aF G d8 60 rr, oTR o b w s2 i2 p9 br26 lt k lp]
      have g0 := f6_0
      refine s_perm (ws' := [oTR o b w s2 i2 p9 br26 lt k lp, oBy b a n rd e, aB G a 3000 B, oWd w b base, oSt s2 b, oBi i2 b, aI G p9 20 bp, oTk k pl af wh re x len i8 d8 ror rl, aB G x 401 t, aI G i8 60 rn, aF G d8 60 rr]) [10, 0, 1, 2, 3, 4, 5, 6, 7, 8, 9] (by decide) rfl rfl ?_
      refine s_iret X Y dX5_readToken_164 (rfl) ?_
      refine ⟨br26, base, bp, pl, af, wh, len, ror, rl, re, t, rn, rr, rfl, ?_, ?_, ?_, ?_, ?_, ?_, ?_, ?_⟩
      · (first | (exfalso; omega) | (rw [c28, (rt_125 B n e pl br base).1]))
      · (first | (exfalso; omega) | (intro h; rw [c28, (rt_125 B n e pl br base).2.1, (rt_125 B n e pl br base).2.2.1]; exact ⟨haf0, rfl⟩))
      · (first | (exfalso; omega) | (intro h; rw [c28, (rt_125 B n e pl br base).2.2.2.1, (rt_125 B n e pl br base).2.2.2.2.1, (rt_125 B n e pl br base).2.2.2.2.2.1, (rt_125 B n e pl br base).2.2.2.2.2.2.1]; exact ⟨hw0, hre0, (by subst h0; exact TX_0 htb), hrl0, by omega, fun j a b => by omega, fun h8 => by omega⟩))
      · (first | (exfalso; omega) | (rw [c28, (rt_125 B n e pl br base).2.2.2.2.2.2.2]))
      · (first | (exfalso; omega) | (exact g0.trans (cb_br br)))
      · (first | (exfalso; omega) | (exact cb_bp br _ _))
      · (first | (exfalso; omega) | (exact htb))
      · (first | (exfalso; omega) | (exact hr0))
    refine s_lookup (off := 137) X 165 dX5_readToken_28 (by decide) (by omega) (by show Op.lookupswitch.offset [(40, 96), (41, 108), (47, 84), (60, 111), (62, 116), (91, 121), (93, 124), (123, 127), (125, 132)] 137 c = 137; rw [off_n c28_40, off_n c28_41, off_n c28_47, off_n c28_60, off_n c28_62, off_n c28_91, off_n c28_93, off_n c28_123, off_n c28_125]; rfl) (by decide) ?_
    have hnT : noTT c := ⟨hnb, c28_40, c28_41, c28_47, c28_60, c28_62, c28_91, c28_93, c28_123, c28_125⟩
    clear c28_40 c28_41 c28_47 c28_60 c28_62 c28_91 c28_93 c28_123 c28_125
    refine s_aload_n X dX5_readToken_165 rfl 0 rfl ?_
    refine s_get X dX5_readToken_166 fl_X5_21 0 rfl rfl ?_
    refine s_aload_n X dX5_readToken_169 rfl 0 rfl ?_
    refine s_get X dX5_readToken_170 fl_X5_50 0 rfl rfl ?_
    refine s_callIV X lk_X5_180 [3, 1, 2, 7, 8] [0, 4, 5, 6, 9, 10] (wr := [oTR o b w s2 i2 p9 br lt k lp, oSt s2 b, oBi i2 b, aI G p9 20 bp, aI G i8 60 rn, aF G d8 60 rr]) rfl rfl (by decide) (by decide) (by decide) (c_X4_readWord (kl K) G w base b a n rd e k x i8 d8 pl af wh len ror rl re B t (by assumption) (by assumption) (by omega) (by assumption) (by assumption) (by omega)) rfl rfl dX5_readToken_173 rfl rfl (Nat.le_of_ble_eq_true rfl) (by decide) (fun z7 w7 h7 => ?_)
    obtain ⟨base27, af27, wh27, len27, re27, t27, rfl, f7_0, f7_1, f7_2, f7_3, f7_4, f7_5, f7_6, f7_7⟩ := h7
    show SW K G 2 0 0 176 [(0, .ref o), (1, .int (iI c))] [.int (iI z7)] [oTR o b w s2 i2 p9 br lt k lp, oSt s2 b, oBi i2 b, aI G p9 20 bp, aI G i8 60 rn, aF G d8 60 rr, oWd w b base27, oBy b a n rd e, aB G a 3000 B, oTk k pl af27 wh27 re27 x len27 i8 d8 ror rl, aB G x 401 t27]
    have g0 := f7_0
    have g1 := f7_1
    have g2 := f7_2
    have g3 := f7_3
    have g4 := f7_4
    have g5 := f7_5
    have g6 := f7_6
    have g7 := f7_7
    refine s_perm (ws' := [oTR o b w s2 i2 p9 br lt k lp, oBy b a n rd e, aB G a 3000 B, oWd w b base27, oSt s2 b, oBi i2 b, aI G p9 20 bp, oTk k pl af27 wh27 re27 x len27 i8 d8 ror rl, aB G x 401 t27, aI G i8 60 rn, aF G d8 60 rr]) [0, 7, 8, 6, 1, 2, 3, 9, 10, 4, 5] (by decide) rfl rfl ?_
    refine s_iret X Y dX5_readToken_176 (rfl) ?_
    refine ⟨br, base27, bp, pl, af27, wh27, len27, ror, rl, re27, t27, rn, rr, rfl, ?_, ?_, ?_, ?_, ?_, ?_, ?_, ?_⟩
    · (first | (exfalso; omega) | (rw [(rt_dfl hnT B n e pl br base).1]; exact g0))
    · (first | (exfalso; omega) | (intro h; rw [(rt_dfl hnT B n e pl br base).2.1, (rt_dfl hnT B n e pl br base).2.2.1]; exact ⟨g1 h, rfl⟩))
    · (first | (exfalso; omega) | (intro h; rw [(rt_dfl hnT B n e pl br base).2.2.2.1, (rt_dfl hnT B n e pl br base).2.2.2.2.1, (rt_dfl hnT B n e pl br base).2.2.2.2.2.1, (rt_dfl hnT B n e pl br base).2.2.2.2.2.2.1]; obtain ⟨a1, a2, a3⟩ := wd_fin g0 g2 g3 g4 g6 g7 hre0 h; exact ⟨a1, a2, a3, hrl0, by omega, fun j a b => by omega, fun h8 => by omega⟩))
    · (first | (exfalso; omega) | (rw [(rt_dfl hnT B n e pl br base).2.2.2.2.2.2.2]; exact wd_base g0 g2 g5))
    · (first | (exfalso; omega) | (have h9 := wdA_C B n e pl; rw [← g0] at h9; rw [if_neg (by omega), if_neg (by omega)]))
    · (first | (exfalso; omega) | (have h9 := wdA_C B n e pl; rw [← g0] at h9; rw [if_neg (by omega)]))
    · (first | (exfalso; omega) | (exact g7))
    · (first | (exfalso; omega) | (exact hr0))
  refine s_iload_n X dX5_readToken_0 rfl 1 rfl ?_
  refine s_sipush 128 X dX5_readToken_1 (by decide) ?_
  refine s_icmp_lt X 27 dX5_readToken_4 (by decide) (by omega) (fun c4 => ?_) (fun c4 => ?_)
  · exact j27  (by omega)
  · refine s_iload_n X dX5_readToken_7 rfl 1 rfl ?_
    refine s_sipush 159 X dX5_readToken_8 (by decide) ?_
    refine s_icmp_gt X 27 dX5_readToken_11 (by decide) (by omega) (fun c11 => ?_) (fun c11 => ?_)
    · exact j27  (by omega)
    · refine s_aload_n X dX5_readToken_14 rfl 0 rfl ?_
      refine s_get X dX5_readToken_15 fl_X5_35 0 rfl rfl ?_
      refine s_aload_n X dX5_readToken_18 rfl 0 rfl ?_
      refine s_get X dX5_readToken_19 fl_X5_50 0 rfl rfl ?_
      refine s_iload_n X dX5_readToken_22 rfl 1 rfl ?_
      refine s_callIV X lk_X5_157 [5, 1, 2, 7, 8, 9, 10] [0, 3, 4, 6] (wr := [oTR o b w s2 i2 p9 br lt k lp, oWd w b base, oSt s2 b, aI G p9 20 bp]) rfl rfl (by decide) (by decide) (by decide) (c_X0_readBinary (kl K) G i2 b a n rd e B k x i8 d8 pl af wh len ror rl re t rn rr c (by assumption) (by assumption) (by omega) (by assumption) (by omega) (by assumption) (by assumption) (by assumption) (by assumption) (by assumption) (by omega) (by omega)) rfl rfl dX5_readToken_23 rfl rfl (Nat.le_of_ble_eq_true rfl) (by decide) (fun z8 w8 h8 => ?_)
      obtain ⟨pl28, af28, wh28, len28, ror28, rl28, re28, t28, rn28, rr28, rfl, f8_0, f8_1, f8_2, f8_3, f8_4⟩ := h8
      show SW K G 2 0 0 26 [(0, .ref o), (1, .int (iI c))] [.int (iI z8)] [oTR o b w s2 i2 p9 br lt k lp, oWd w b base, oSt s2 b, aI G p9 20 bp, oBi i2 b, oBy b a n rd e, aB G a 3000 B, oTk k pl28 af28 wh28 re28 x len28 i8 d8 ror28 rl28, aB G x 401 t28, aI G i8 60 rn28, aF G d8 60 rr28]
      have g0 := f8_0
      have g1 := f8_1
      have g2 := f8_2
      have g3 := f8_3
      have g4 := f8_4
      refine s_perm (ws' := [oTR o b w s2 i2 p9 br lt k lp, oBy b a n rd e, aB G a 3000 B, oWd w b base, oSt s2 b, oBi i2 b, aI G p9 20 bp, oTk k pl28 af28 wh28 re28 x len28 i8 d8 ror28 rl28, aB G x 401 t28, aI G i8 60 rn28, aF G d8 60 rr28]) [0, 5, 6, 1, 2, 4, 3, 7, 8, 9, 10] (by decide) rfl rfl ?_
      refine s_iret X Y dX5_readToken_26 (rfl) ?_
      refine ⟨br, base, bp, pl28, af28, wh28, len28, ror28, rl28, re28, t28, rn28, rr28, rfl, ?_, ?_, ?_, ?_, ?_, ?_, ?_, ?_⟩
      · (first | (exfalso; omega) | (rw [(rt_bin ⟨by omega, by omega⟩ B n e pl br base).1]; exact g0))
      · (first | (exfalso; omega) | (intro h; rw [(rt_bin ⟨by omega, by omega⟩ B n e pl br base).2.1, (rt_bin ⟨by omega, by omega⟩ B n e pl br base).2.2.1]; exact g1 h))
      · (first | (exfalso; omega) | (intro h; rw [(rt_bin ⟨by omega, by omega⟩ B n e pl br base).2.2.2.1, (rt_bin ⟨by omega, by omega⟩ B n e pl br base).2.2.2.2.1, (rt_bin ⟨by omega, by omega⟩ B n e pl br base).2.2.2.2.2.1, (rt_bin ⟨by omega, by omega⟩ B n e pl br base).2.2.2.2.2.2.1]; exact g2 h))
      · (first | (exfalso; omega) | (rw [(rt_bin ⟨by omega, by omega⟩ B n e pl br base).2.2.2.2.2.2.2]))
      · (first | (exfalso; omega) | (have h9 := biA_C B n e pl c; rw [← g0] at h9; rw [if_neg (by omega), if_neg (by omega)]))
      · (first | (exfalso; omega) | (have h9 := biA_C B n e pl c; rw [← g0] at h9; rw [if_neg (by omega)]))
      · (first | (exfalso; omega) | (exact g3))
      · (first | (exfalso; omega) | (exact g4))
