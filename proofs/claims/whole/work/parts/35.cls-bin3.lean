set_option maxRecDepth 100000 in
set_option maxHeartbeats 4000000 in
theorem c_X0_readBinary (l : Launch) (G : GX) (s : Nat) (b : Nat) (a : Nat) (n : Int) (rd : Int) (e : Int) (B : Nat → Nat) (k : Nat) (x : Nat) (i8 : Nat) (d8 : Nat) (pl : Int) (af : Int) (wh : Int) (len : Int) (ror : Int) (rl : Int) (re : UInt64) (t : Nat → Nat) (rn : Nat → Int) (rr : Nat → UInt64) (c : Int) (hn : 0 ≤ n ∧ n ≤ 3000) (hBb : ∀ j, B j < 256) (he : e = 0 ∨ e = 1) (htb : ∀ j, t j < 256) (hi : 0 ≤ pl ∧ pl < n) (h0 : len = 0) (hw0 : wh = 0) (hre0 : re = FP.dconst0) (hrl0 : rl = 0) (haf0 : af = pl + 1) (hr0 : ror = 0 ∨ ror = 1) (hc : R32 c) : CtI l G yX0_readBinary cX0_readBinary 3 (some .int) ({ frames := 5, cells := 0, slots := 0, locals := 120 } : Room) [.ref s, .ref k, .int (iI c)] [oBi s b, oBy b a n rd e, aB G a 3000 B, oTk k pl af wh re x len i8 d8 ror rl, aB G x 401 t, aI G i8 60 rn, aF G d8 60 rr] (fun (z9 : Int) (w9 : va_W) => ∃ (pl2 : Int), ∃ (af2 : Int), ∃ (wh2 : Int), ∃ (len2 : Int), ∃ (ror2 : Int), ∃ (rl2 : Int), ∃ (re2 : UInt64), ∃ (t2 : Nat → Nat), ∃ (rn2 : Nat → Int), ∃ (rr2 : Nat → UInt64), w9 = [oBi s b, oBy b a n rd e, aB G a 3000 B, oTk k pl2 af2 wh2 re2 x len2 i8 d8 ror2 rl2, aB G x 401 t2, aI G i8 60 rn2, aF G d8 60 rr2] ∧ (z9 = biA B n e pl c) ∧ (z9 ≠ 0 → af2 = biF B n pl c ∧ pl2 = biP B n pl c) ∧ (0 < z9 → wh2 = biW B n pl c ∧ re2 = biR B n pl c ∧ TX t2 len2 (biO B n pl c) ∧ rl2 = biL B n pl c ∧ (0 ≤ rl2 ∧ rl2 ≤ 60) ∧ (∀ j : Int, 0 ≤ j → j < rl2 → rn2 j.toNat = rowN B n (pl + 4) (bA B n (pl + 1)) j ∧ rr2 j.toNat = rowD B n (pl + 4) (bA B n (pl + 1)) j) ∧ (0 < rl2 → ror2 = tf (rwR (bA B n (pl + 1))))) ∧ (∀ j, t2 j < 256) ∧ (ror2 = 0 ∨ ror2 = 1)) := by
  intro sz
  refine met_of (fun wc sz => va_Qi (qI _) (posW G wc sz) (va_A wc sz)) (by decide) [(0, .ref s), (1, .ref k), (2, .int (iI c))] rfl (Nat.le_of_ble_eq_true rfl) (fun K hK9 hnm X Y => ?_)
  subst hK9
  replace Y : RI K G (some .int) 0 0 _ := Y
  refine s_iload_n X dX0_readBinary_0 rfl 2 rfl ?_
  by_cases c1_132 : c = 132
  · have c1 := c1_132
    refine s_tableIn (off := 87) X 88 dX0_readBinary_1 (by omega) (by omega) (by omega) (by rw [c1]; try decide) (by decide) ?_
    refine s_aload_n X dX0_readBinary_88 rfl 0 rfl ?_
    refine s_aload_n X dX0_readBinary_89 rfl 1 rfl ?_
    refine s_iconst X dX0_readBinary_90 ?_
    refine s_iconst X dX0_readBinary_91 ?_
    refine s_callIV X lk_X0_15 [0, 1, 2, 3] [4, 5, 6] (wr := [aB G x 401 t, aI G i8 60 rn, aF G d8 60 rr]) rfl rfl (by decide) (by decide) (by decide) (c_X0_readNumber (kl K) G s b a n rd e B k x i8 d8 pl af wh len ror rl re 4 0 (by assumption) (by assumption) (by omega) (by omega) (by omega) (by omega)) rfl rfl dX0_readBinary_92 rfl rfl (Nat.le_of_ble_eq_true rfl) (by decide) (fun z1 w1 h1 => ?_)
    obtain ⟨af21, wh21, len21, rfl, rfl, f1_0, f1_1, f1_2⟩ := h1
    show SW K G 3 0 0 95 [(0, .ref s), (1, .ref k), (2, .int (iI c))] [.int (iI (nuA n e (pl + 1 + 4) 1))] [aB G x 401 t, aI G i8 60 rn, aF G d8 60 rr, oBi s b, oBy b a n rd e, aB G a 3000 B, oTk k pl af21 wh21 re x len21 i8 d8 ror rl]
    have g0 := f1_0
    have g1 := f1_1
    have g2 := f1_2
    refine s_perm (ws' := [oBi s b, oBy b a n rd e, aB G a 3000 B, oTk k pl af21 wh21 re x len21 i8 d8 ror rl, aB G x 401 t, aI G i8 60 rn, aF G d8 60 rr]) [3, 4, 5, 6, 0, 1, 2] (by decide) rfl rfl ?_
    refine s_iret X Y dX0_readBinary_95 (rfl) ?_
    refine ⟨pl, af21, wh21, len21, ror, rl, re, t, rn, rr, rfl, ?_, ?_, ?_, ?_, ?_⟩
    · (first | (exfalso; omega) | (subst c1; exact (bi_132 B n e pl).1.symm))
    · (first | (exfalso; omega) | (subst c1; intro h; rw [(bi_132 B n e pl).2.1, (bi_132 B n e pl).2.2.1]; exact ⟨g0 h, rfl⟩))
    · (first | (exfalso; omega) | (subst c1; intro h; rw [(bi_132 B n e pl).2.2.2.1, (bi_132 B n e pl).2.2.2.2.1, (bi_132 B n e pl).2.2.2.2.2.1, (bi_132 B n e pl).2.2.2.2.2.2]; have hq := nuA_pos h; exact ⟨(g1 hq).1, hre0, (by rw [(g1 hq).2]; exact TX_0 htb), hrl0, by omega, fun j a b => by omega, fun h8 => by omega⟩))
    · (first | (exfalso; omega) | (exact htb))
    · (first | (exfalso; omega) | (exact hr0))
  by_cases c1_133 : c = 133
  · have c1 := c1_133
    refine s_tableIn (off := 95) X 96 dX0_readBinary_1 (by omega) (by omega) (by omega) (by rw [c1]; try decide) (by decide) ?_
    refine s_aload_n X dX0_readBinary_96 rfl 0 rfl ?_
    refine s_aload_n X dX0_readBinary_97 rfl 1 rfl ?_
    refine s_iconst X dX0_readBinary_98 ?_
    refine s_iconst X dX0_readBinary_99 ?_
    refine s_callIV X lk_X0_15 [0, 1, 2, 3] [4, 5, 6] (wr := [aB G x 401 t, aI G i8 60 rn, aF G d8 60 rr]) rfl rfl (by decide) (by decide) (by decide) (c_X0_readNumber (kl K) G s b a n rd e B k x i8 d8 pl af wh len ror rl re 4 1 (by assumption) (by assumption) (by omega) (by omega) (by omega) (by omega)) rfl rfl dX0_readBinary_100 rfl rfl (Nat.le_of_ble_eq_true rfl) (by decide) (fun z2 w2 h2 => ?_)
    obtain ⟨af22, wh22, len22, rfl, rfl, f2_0, f2_1, f2_2⟩ := h2
    show SW K G 3 0 0 103 [(0, .ref s), (1, .ref k), (2, .int (iI c))] [.int (iI (nuA n e (pl + 1 + 4) 1))] [aB G x 401 t, aI G i8 60 rn, aF G d8 60 rr, oBi s b, oBy b a n rd e, aB G a 3000 B, oTk k pl af22 wh22 re x len22 i8 d8 ror rl]
    have g0 := f2_0
    have g1 := f2_1
    have g2 := f2_2
    refine s_perm (ws' := [oBi s b, oBy b a n rd e, aB G a 3000 B, oTk k pl af22 wh22 re x len22 i8 d8 ror rl, aB G x 401 t, aI G i8 60 rn, aF G d8 60 rr]) [3, 4, 5, 6, 0, 1, 2] (by decide) rfl rfl ?_
    refine s_iret X Y dX0_readBinary_103 (rfl) ?_
    refine ⟨pl, af22, wh22, len22, ror, rl, re, t, rn, rr, rfl, ?_, ?_, ?_, ?_, ?_⟩
    · (first | (exfalso; omega) | (subst c1; exact (bi_133 B n e pl).1.symm))
    · (first | (exfalso; omega) | (subst c1; intro h; rw [(bi_133 B n e pl).2.1, (bi_133 B n e pl).2.2.1]; exact ⟨g0 h, rfl⟩))
    · (first | (exfalso; omega) | (subst c1; intro h; rw [(bi_133 B n e pl).2.2.2.1, (bi_133 B n e pl).2.2.2.2.1, (bi_133 B n e pl).2.2.2.2.2.1, (bi_133 B n e pl).2.2.2.2.2.2]; have hq := nuA_pos h; exact ⟨(g1 hq).1, hre0, (by rw [(g1 hq).2]; exact TX_0 htb), hrl0, by omega, fun j a b => by omega, fun h8 => by omega⟩))
    · (first | (exfalso; omega) | (exact htb))
    · (first | (exfalso; omega) | (exact hr0))
  by_cases c1_134 : c = 134
  · have c1 := c1_134
    refine s_tableIn (off := 103) X 104 dX0_readBinary_1 (by omega) (by omega) (by omega) (by rw [c1]; try decide) (by decide) ?_
    refine s_aload_n X dX0_readBinary_104 rfl 0 rfl ?_
    refine s_aload_n X dX0_readBinary_105 rfl 1 rfl ?_
    refine s_iconst X dX0_readBinary_106 ?_
    refine s_iconst X dX0_readBinary_107 ?_
    refine s_callIV X lk_X0_15 [0, 1, 2, 3] [4, 5, 6] (wr := [aB G x 401 t, aI G i8 60 rn, aF G d8 60 rr]) rfl rfl (by decide) (by decide) (by decide) (c_X0_readNumber (kl K) G s b a n rd e B k x i8 d8 pl af wh len ror rl re 2 0 (by assumption) (by assumption) (by omega) (by omega) (by omega) (by omega)) rfl rfl dX0_readBinary_108 rfl rfl (Nat.le_of_ble_eq_true rfl) (by decide) (fun z3 w3 h3 => ?_)
    obtain ⟨af23, wh23, len23, rfl, rfl, f3_0, f3_1, f3_2⟩ := h3
    show SW K G 3 0 0 111 [(0, .ref s), (1, .ref k), (2, .int (iI c))] [.int (iI (nuA n e (pl + 1 + 2) 1))] [aB G x 401 t, aI G i8 60 rn, aF G d8 60 rr, oBi s b, oBy b a n rd e, aB G a 3000 B, oTk k pl af23 wh23 re x len23 i8 d8 ror rl]
    have g0 := f3_0
    have g1 := f3_1
    have g2 := f3_2
    refine s_perm (ws' := [oBi s b, oBy b a n rd e, aB G a 3000 B, oTk k pl af23 wh23 re x len23 i8 d8 ror rl, aB G x 401 t, aI G i8 60 rn, aF G d8 60 rr]) [3, 4, 5, 6, 0, 1, 2] (by decide) rfl rfl ?_
    refine s_iret X Y dX0_readBinary_111 (rfl) ?_
    refine ⟨pl, af23, wh23, len23, ror, rl, re, t, rn, rr, rfl, ?_, ?_, ?_, ?_, ?_⟩
    · (first | (exfalso; omega) | (subst c1; exact (bi_134 B n e pl).1.symm))
    · (first | (exfalso; omega) | (subst c1; intro h; rw [(bi_134 B n e pl).2.1, (bi_134 B n e pl).2.2.1]; exact ⟨g0 h, rfl⟩))
    · (first | (exfalso; omega) | (subst c1; intro h; rw [(bi_134 B n e pl).2.2.2.1, (bi_134 B n e pl).2.2.2.2.1, (bi_134 B n e pl).2.2.2.2.2.1, (bi_134 B n e pl).2.2.2.2.2.2]; have hq := nuA_pos h; exact ⟨(g1 hq).1, hre0, (by rw [(g1 hq).2]; exact TX_0 htb), hrl0, by omega, fun j a b => by omega, fun h8 => by omega⟩))
    · (first | (exfalso; omega) | (exact htb))
    · (first | (exfalso; omega) | (exact hr0))
  by_cases c1_135 : c = 135
  · have c1 := c1_135
    refine s_tableIn (off := 111) X 112 dX0_readBinary_1 (by omega) (by omega) (by omega) (by rw [c1]; try decide) (by decide) ?_
    refine s_aload_n X dX0_readBinary_112 rfl 0 rfl ?_
    refine s_aload_n X dX0_readBinary_113 rfl 1 rfl ?_
    refine s_iconst X dX0_readBinary_114 ?_
    refine s_iconst X dX0_readBinary_115 ?_
    refine s_callIV X lk_X0_15 [0, 1, 2, 3] [4, 5, 6] (wr := [aB G x 401 t, aI G i8 60 rn, aF G d8 60 rr]) rfl rfl (by decide) (by decide) (by decide) (c_X0_readNumber (kl K) G s b a n rd e B k x i8 d8 pl af wh len ror rl re 2 1 (by assumption) (by assumption) (by omega) (by omega) (by omega) (by omega)) rfl rfl dX0_readBinary_116 rfl rfl (Nat.le_of_ble_eq_true rfl) (by decide) (fun z4 w4 h4 => ?_)
    obtain ⟨af24, wh24, len24, rfl, rfl, f4_0, f4_1, f4_2⟩ := h4
    show SW K G 3 0 0 119 [(0, .ref s), (1, .ref k), (2, .int (iI c))] [.int (iI (nuA n e (pl + 1 + 2) 1))] [aB G x 401 t, aI G i8 60 rn, aF G d8 60 rr, oBi s b, oBy b a n rd e, aB G a 3000 B, oTk k pl af24 wh24 re x len24 i8 d8 ror rl]
    have g0 := f4_0
    have g1 := f4_1
    have g2 := f4_2
    refine s_perm (ws' := [oBi s b, oBy b a n rd e, aB G a 3000 B, oTk k pl af24 wh24 re x len24 i8 d8 ror rl, aB G x 401 t, aI G i8 60 rn, aF G d8 60 rr]) [3, 4, 5, 6, 0, 1, 2] (by decide) rfl rfl ?_
    refine s_iret X Y dX0_readBinary_119 (rfl) ?_
    refine ⟨pl, af24, wh24, len24, ror, rl, re, t, rn, rr, rfl, ?_, ?_, ?_, ?_, ?_⟩
    · (first | (exfalso; omega) | (subst c1; exact (bi_135 B n e pl).1.symm))
    · (first | (exfalso; omega) | (subst c1; intro h; rw [(bi_135 B n e pl).2.1, (bi_135 B n e pl).2.2.1]; exact ⟨g0 h, rfl⟩))
    · (first | (exfalso; omega) | (subst c1; intro h; rw [(bi_135 B n e pl).2.2.2.1, (bi_135 B n e pl).2.2.2.2.1, (bi_135 B n e pl).2.2.2.2.2.1, (bi_135 B n e pl).2.2.2.2.2.2]; have hq := nuA_pos h; exact ⟨(g1 hq).1, hre0, (by rw [(g1 hq).2]; exact TX_0 htb), hrl0, by omega, fun j a b => by omega, fun h8 => by omega⟩))
    · (first | (exfalso; omega) | (exact htb))
    · (first | (exfalso; omega) | (exact hr0))
  by_cases c1_136 : c = 136
  · have c1 := c1_136
    refine s_tableIn (off := 119) X 120 dX0_readBinary_1 (by omega) (by omega) (by omega) (by rw [c1]; try decide) (by decide) ?_
    refine s_aload_n X dX0_readBinary_120 rfl 0 rfl ?_
    refine s_aload_n X dX0_readBinary_121 rfl 1 rfl ?_
    refine s_iconst X dX0_readBinary_122 ?_
    refine s_iconst X dX0_readBinary_123 ?_
    refine s_callIV X lk_X0_15 [0, 1, 2, 3] [4, 5, 6] (wr := [aB G x 401 t, aI G i8 60 rn, aF G d8 60 rr]) rfl rfl (by decide) (by decide) (by decide) (c_X0_readNumber (kl K) G s b a n rd e B k x i8 d8 pl af wh len ror rl re 1 0 (by assumption) (by assumption) (by omega) (by omega) (by omega) (by omega)) rfl rfl dX0_readBinary_124 rfl rfl (Nat.le_of_ble_eq_true rfl) (by decide) (fun z5 w5 h5 => ?_)
    obtain ⟨af25, wh25, len25, rfl, rfl, f5_0, f5_1, f5_2⟩ := h5
    show SW K G 3 0 0 127 [(0, .ref s), (1, .ref k), (2, .int (iI c))] [.int (iI (nuA n e (pl + 1 + 1) 1))] [aB G x 401 t, aI G i8 60 rn, aF G d8 60 rr, oBi s b, oBy b a n rd e, aB G a 3000 B, oTk k pl af25 wh25 re x len25 i8 d8 ror rl]
    have g0 := f5_0
    have g1 := f5_1
    have g2 := f5_2
    refine s_perm (ws' := [oBi s b, oBy b a n rd e, aB G a 3000 B, oTk k pl af25 wh25 re x len25 i8 d8 ror rl, aB G x 401 t, aI G i8 60 rn, aF G d8 60 rr]) [3, 4, 5, 6, 0, 1, 2] (by decide) rfl rfl ?_
    refine s_iret X Y dX0_readBinary_127 (rfl) ?_
    refine ⟨pl, af25, wh25, len25, ror, rl, re, t, rn, rr, rfl, ?_, ?_, ?_, ?_, ?_⟩
    · (first | (exfalso; omega) | (subst c1; exact (bi_136 B n e pl).1.symm))
    · (first | (exfalso; omega) | (subst c1; intro h; rw [(bi_136 B n e pl).2.1, (bi_136 B n e pl).2.2.1]; exact ⟨g0 h, rfl⟩))
    · (first | (exfalso; omega) | (subst c1; intro h; rw [(bi_136 B n e pl).2.2.2.1, (bi_136 B n e pl).2.2.2.2.1, (bi_136 B n e pl).2.2.2.2.2.1, (bi_136 B n e pl).2.2.2.2.2.2]; have hq := nuA_pos h; exact ⟨(g1 hq).1, hre0, (by rw [(g1 hq).2]; exact TX_0 htb), hrl0, by omega, fun j a b => by omega, fun h8 => by omega⟩))
    · (first | (exfalso; omega) | (exact htb))
    · (first | (exfalso; omega) | (exact hr0))
  by_cases c1_137 : c = 137
  · have c1 := c1_137
    refine s_tableIn (off := 127) X 128 dX0_readBinary_1 (by omega) (by omega) (by omega) (by rw [c1]; try decide) (by decide) ?_
    refine s_aload_n X dX0_readBinary_128 rfl 0 rfl ?_
    refine s_aload_n X dX0_readBinary_129 rfl 1 rfl ?_
    refine s_callIV X lk_X0_19 [0, 1, 2, 3] [4, 5, 6] (wr := [aB G x 401 t, aI G i8 60 rn, aF G d8 60 rr]) rfl rfl (by decide) (by decide) (by decide) (c_X0_readFixed (kl K) G s b a n rd e B k x i8 d8 pl af wh len ror rl re (by assumption) (by assumption) (by omega) (by omega)) rfl rfl dX0_readBinary_130 rfl rfl (Nat.le_of_ble_eq_true rfl) (by decide) (fun z6 w6 h6 => ?_)
    obtain ⟨pl26, af26, wh26, len26, re26, rfl, rfl, f6_0, f6_1⟩ := h6
    show SW K G 3 0 0 133 [(0, .ref s), (1, .ref k), (2, .int (iI c))] [.int (iI (fxA B n e pl))] [aB G x 401 t, aI G i8 60 rn, aF G d8 60 rr, oBi s b, oBy b a n rd e, aB G a 3000 B, oTk k pl26 af26 wh26 re26 x len26 i8 d8 ror rl]
    have g0 := f6_0
    have g1 := f6_1
    refine s_perm (ws' := [oBi s b, oBy b a n rd e, aB G a 3000 B, oTk k pl26 af26 wh26 re26 x len26 i8 d8 ror rl, aB G x 401 t, aI G i8 60 rn, aF G d8 60 rr]) [3, 4, 5, 6, 0, 1, 2] (by decide) rfl rfl ?_
    refine s_iret X Y dX0_readBinary_133 (rfl) ?_
    refine ⟨pl26, af26, wh26, len26, ror, rl, re26, t, rn, rr, rfl, ?_, ?_, ?_, ?_, ?_⟩
    · (first | (exfalso; omega) | (subst c1; exact (bi_137 B n e pl).1.symm))
    · (first | (exfalso; omega) | (subst c1; intro h; rw [(bi_137 B n e pl).2.1, (bi_137 B n e pl).2.2.1]; exact g0 h))
    · (first | (exfalso; omega) | (subst c1; intro h; rw [(bi_137 B n e pl).2.2.2.1, (bi_137 B n e pl).2.2.2.2.1, (bi_137 B n e pl).2.2.2.2.2.1, (bi_137 B n e pl).2.2.2.2.2.2]; have hq := g1 (fxA_2 h); exact ⟨hq.2.1, hq.1, (by rw [hq.2.2]; exact TX_0 htb), hrl0, by omega, fun j a b => by omega, fun h8 => by omega⟩))
    · (first | (exfalso; omega) | (exact htb))
    · (first | (exfalso; omega) | (exact hr0))
  by_cases c1_138 : c = 138
  · have c1 := c1_138
    refine s_tableIn (off := 133) X 134 dX0_readBinary_1 (by omega) (by omega) (by omega) (by rw [c1]; try decide) (by decide) ?_
    refine s_aload_n X dX0_readBinary_134 rfl 0 rfl ?_
    refine s_aload_n X dX0_readBinary_135 rfl 1 rfl ?_
    refine s_iconst X dX0_readBinary_136 ?_
    refine s_callIV X lk_X0_23 [0, 1, 2, 3] [4, 5, 6] (wr := [aB G x 401 t, aI G i8 60 rn, aF G d8 60 rr]) rfl rfl (by decide) (by decide) (by decide) (c_X0_readFloat (kl K) G s b a n rd e B k x i8 d8 pl af wh len ror rl re 0 (by assumption) (by assumption) (by omega) (by omega) (by omega)) rfl rfl dX0_readBinary_137 rfl rfl (Nat.le_of_ble_eq_true rfl) (by decide) (fun z7 w7 h7 => ?_)
    obtain ⟨af27, wh27, len27, re27, rfl, rfl, f7_0, f7_1⟩ := h7
    show SW K G 3 0 0 140 [(0, .ref s), (1, .ref k), (2, .int (iI c))] [.int (iI (nuA n e (pl + 1 + 4) (if eb (nmb B n (pl + 1) 4 0) = 255 then -6 else 2)))] [aB G x 401 t, aI G i8 60 rn, aF G d8 60 rr, oBi s b, oBy b a n rd e, aB G a 3000 B, oTk k pl af27 wh27 re27 x len27 i8 d8 ror rl]
    have g0 := f7_0
    have g1 := f7_1
    refine s_perm (ws' := [oBi s b, oBy b a n rd e, aB G a 3000 B, oTk k pl af27 wh27 re27 x len27 i8 d8 ror rl, aB G x 401 t, aI G i8 60 rn, aF G d8 60 rr]) [3, 4, 5, 6, 0, 1, 2] (by decide) rfl rfl ?_
    refine s_iret X Y dX0_readBinary_140 (rfl) ?_
    refine ⟨pl, af27, wh27, len27, ror, rl, re27, t, rn, rr, rfl, ?_, ?_, ?_, ?_, ?_⟩
    · (first | (exfalso; omega) | (subst c1; exact (bi_138 B n e pl).1.symm))
    · (first | (exfalso; omega) | (subst c1; intro h; rw [(bi_138 B n e pl).2.1, (bi_138 B n e pl).2.2.1]; exact ⟨g0 h, rfl⟩))
    · (first | (exfalso; omega) | (subst c1; intro h; rw [(bi_138 B n e pl).2.2.2.1, (bi_138 B n e pl).2.2.2.2.1, (bi_138 B n e pl).2.2.2.2.2.1, (bi_138 B n e pl).2.2.2.2.2.2]; have hq := g1 (fl_2 h); exact ⟨hq.2.1, hq.1, (by rw [hq.2.2]; exact TX_0 htb), hrl0, by omega, fun j a b => by omega, fun h8 => by omega⟩))
    · (first | (exfalso; omega) | (exact htb))
    · (first | (exfalso; omega) | (exact hr0))
  by_cases c1_139 : c = 139
  · have c1 := c1_139
    refine s_tableIn (off := 140) X 141 dX0_readBinary_1 (by omega) (by omega) (by omega) (by rw [c1]; try decide) (by decide) ?_
    refine s_aload_n X dX0_readBinary_141 rfl 0 rfl ?_
    refine s_aload_n X dX0_readBinary_142 rfl 1 rfl ?_
    refine s_iconst X dX0_readBinary_143 ?_
    refine s_callIV X lk_X0_23 [0, 1, 2, 3] [4, 5, 6] (wr := [aB G x 401 t, aI G i8 60 rn, aF G d8 60 rr]) rfl rfl (by decide) (by decide) (by decide) (c_X0_readFloat (kl K) G s b a n rd e B k x i8 d8 pl af wh len ror rl re 1 (by assumption) (by assumption) (by omega) (by omega) (by omega)) rfl rfl dX0_readBinary_144 rfl rfl (Nat.le_of_ble_eq_true rfl) (by decide) (fun z8 w8 h8 => ?_)
    obtain ⟨af28, wh28, len28, re28, rfl, rfl, f8_0, f8_1⟩ := h8
    show SW K G 3 0 0 147 [(0, .ref s), (1, .ref k), (2, .int (iI c))] [.int (iI (nuA n e (pl + 1 + 4) (if eb (nmb B n (pl + 1) 4 1) = 255 then -6 else 2)))] [aB G x 401 t, aI G i8 60 rn, aF G d8 60 rr, oBi s b, oBy b a n rd e, aB G a 3000 B, oTk k pl af28 wh28 re28 x len28 i8 d8 ror rl]
    have g0 := f8_0
    have g1 := f8_1
    refine s_perm (ws' := [oBi s b, oBy b a n rd e, aB G a 3000 B, oTk k pl af28 wh28 re28 x len28 i8 d8 ror rl, aB G x 401 t, aI G i8 60 rn, aF G d8 60 rr]) [3, 4, 5, 6, 0, 1, 2] (by decide) rfl rfl ?_
    refine s_iret X Y dX0_readBinary_147 (rfl) ?_
    refine ⟨pl, af28, wh28, len28, ror, rl, re28, t, rn, rr, rfl, ?_, ?_, ?_, ?_, ?_⟩
    · (first | (exfalso; omega) | (subst c1; exact (bi_139 B n e pl).1.symm))
    · (first | (exfalso; omega) | (subst c1; intro h; rw [(bi_139 B n e pl).2.1, (bi_139 B n e pl).2.2.1]; exact ⟨g0 h, rfl⟩))
    · (first | (exfalso; omega) | (subst c1; intro h; rw [(bi_139 B n e pl).2.2.2.1, (bi_139 B n e pl).2.2.2.2.1, (bi_139 B n e pl).2.2.2.2.2.1, (bi_139 B n e pl).2.2.2.2.2.2]; have hq := g1 (fl_2 h); exact ⟨hq.2.1, hq.1, (by rw [hq.2.2]; exact TX_0 htb), hrl0, by omega, fun j a b => by omega, fun h8 => by omega⟩))
    · (first | (exfalso; omega) | (exact htb))
    · (first | (exfalso; omega) | (exact hr0))
  by_cases c1_140 : c = 140
  · have c1 := c1_140
    refine s_tableIn (off := 199) X 200 dX0_readBinary_1 (by omega) (by omega) (by omega) (by rw [c1]; try decide) (by decide) ?_
    refine s_bipush (-5) X dX0_readBinary_200 (by decide) ?_
    refine s_iret X Y dX0_readBinary_202 (rfl) ?_
    refine ⟨pl, af, wh, len, ror, rl, re, t, rn, rr, rfl, ?_, ?_, ?_, ?_, ?_⟩
    · (first | (exfalso; omega) | (exact biA_d (by omega)))
    · (first | (exfalso; omega) | (intro _; exact ⟨by rw [biF_d (by omega)]; exact haf0, (biP_d (by omega)).symm⟩))
    · (first | (exfalso; omega) | (intro h; exact absurd h (by decide)))
    · (first | (exfalso; omega) | (exact htb))
    · (first | (exfalso; omega) | (exact hr0))
  by_cases c1_141 : c = 141
  · have c1 := c1_141
    refine s_tableIn (off := 147) X 148 dX0_readBinary_1 (by omega) (by omega) (by omega) (by rw [c1]; try decide) (by decide) ?_
    refine s_aload_n X dX0_readBinary_148 rfl 0 rfl ?_
    refine s_aload_n X dX0_readBinary_149 rfl 1 rfl ?_
    refine s_callIV X lk_X0_27 [0, 1, 2, 3] [4, 5, 6] (wr := [aB G x 401 t, aI G i8 60 rn, aF G d8 60 rr]) rfl rfl (by decide) (by decide) (by decide) (c_X0_readTruth (kl K) G s b a n rd e B k x i8 d8 pl af wh len ror rl re (by assumption) (by assumption) (by omega) (by omega)) rfl rfl dX0_readBinary_150 rfl rfl (Nat.le_of_ble_eq_true rfl) (by decide) (fun z9 w9 h9 => ?_)
    obtain ⟨pl29, af29, wh29, len29, rfl, rfl, f9_0, f9_1⟩ := h9
    show SW K G 3 0 0 153 [(0, .ref s), (1, .ref k), (2, .int (iI c))] [.int (iI (if 1 < bA B n (pl + 1) then -5 else nuA n e (pl + 1 + 1) 13))] [aB G x 401 t, aI G i8 60 rn, aF G d8 60 rr, oBi s b, oBy b a n rd e, aB G a 3000 B, oTk k pl29 af29 wh29 re x len29 i8 d8 ror rl]
    have g0 := f9_0
    have g1 := f9_1
    refine s_perm (ws' := [oBi s b, oBy b a n rd e, aB G a 3000 B, oTk k pl29 af29 wh29 re x len29 i8 d8 ror rl, aB G x 401 t, aI G i8 60 rn, aF G d8 60 rr]) [3, 4, 5, 6, 0, 1, 2] (by decide) rfl rfl ?_
    refine s_iret X Y dX0_readBinary_153 (rfl) ?_
    refine ⟨pl29, af29, wh29, len29, ror, rl, re, t, rn, rr, rfl, ?_, ?_, ?_, ?_, ?_⟩
    · (first | (exfalso; omega) | (subst c1; exact (bi_141 B n e pl).1.symm))
    · (first | (exfalso; omega) | (subst c1; intro h; rw [(bi_141 B n e pl).2.1, (bi_141 B n e pl).2.2.1]; exact g0 h))
    · (first | (exfalso; omega) | (subst c1; intro h; rw [(bi_141 B n e pl).2.2.2.1, (bi_141 B n e pl).2.2.2.2.1, (bi_141 B n e pl).2.2.2.2.2.1, (bi_141 B n e pl).2.2.2.2.2.2]; have hq := g1 h; exact ⟨hq.1, hre0, (by rw [hq.2]; exact TX_0 htb), hrl0, by omega, fun j a b => by omega, fun h8 => by omega⟩))
    · (first | (exfalso; omega) | (exact htb))
    · (first | (exfalso; omega) | (exact hr0))
  by_cases c1_142 : c = 142
  · have c1 := c1_142
    refine s_tableIn (off := 153) X 154 dX0_readBinary_1 (by omega) (by omega) (by omega) (by rw [c1]; try decide) (by decide) ?_
    refine s_aload_n X dX0_readBinary_154 rfl 0 rfl ?_
    refine s_aload_n X dX0_readBinary_155 rfl 1 rfl ?_
    refine s_iconst X dX0_readBinary_156 ?_
    refine s_iconst X dX0_readBinary_157 ?_
    refine s_callIV X lk_X0_30 [0, 1, 2, 3, 4] [5, 6] (wr := [aI G i8 60 rn, aF G d8 60 rr]) rfl rfl (by decide) (by decide) (by decide) (c_X0_readString (kl K) G s b a n rd e B k x i8 d8 pl af wh len ror rl re t 1 0 (by assumption) (by assumption) (by omega) (by omega) (by assumption) (by assumption) (by omega) (by omega)) rfl rfl dX0_readBinary_158 rfl rfl (Nat.le_of_ble_eq_true rfl) (by decide) (fun z10 w10 h10 => ?_)
    obtain ⟨af210, wh210, len210, t210, rfl, rfl, f10_0, f10_1, f10_2, f10_3⟩ := h10
    show SW K G 3 0 0 161 [(0, .ref s), (1, .ref k), (2, .int (iI c))] [.int (iI (sbA B n e pl 1 0))] [aI G i8 60 rn, aF G d8 60 rr, oBi s b, oBy b a n rd e, aB G a 3000 B, oTk k pl af210 wh210 re x len210 i8 d8 ror rl, aB G x 401 t210]
    have g0 := f10_0
    have g1 := f10_1
    have g2 := f10_2
    have g3 := f10_3
    refine s_perm (ws' := [oBi s b, oBy b a n rd e, aB G a 3000 B, oTk k pl af210 wh210 re x len210 i8 d8 ror rl, aB G x 401 t210, aI G i8 60 rn, aF G d8 60 rr]) [2, 3, 4, 5, 6, 0, 1] (by decide) rfl rfl ?_
    refine s_iret X Y dX0_readBinary_161 (rfl) ?_
    refine ⟨pl, af210, wh210, len210, ror, rl, re, t210, rn, rr, rfl, ?_, ?_, ?_, ?_, ?_⟩
    · (first | (exfalso; omega) | (subst c1; exact (bi_142 B n e pl).1.symm))
    · (first | (exfalso; omega) | (subst c1; intro h; rw [(bi_142 B n e pl).2.1, (bi_142 B n e pl).2.2.1]; exact ⟨g0 h, rfl⟩))
    · (first | (exfalso; omega) | (subst c1; intro h; rw [(bi_142 B n e pl).2.2.2.1, (bi_142 B n e pl).2.2.2.2.1, (bi_142 B n e pl).2.2.2.2.2.1, (bi_142 B n e pl).2.2.2.2.2.2]; have hq := g1 (sbA_6 h); exact ⟨hq.1, hre0, hq.2, hrl0, by omega, fun j a b => by omega, fun h8 => by omega⟩))
    · (first | (exfalso; omega) | (exact g3))
    · (first | (exfalso; omega) | (exact hr0))
  by_cases c1_143 : c = 143
  · have c1 := c1_143
    refine s_tableIn (off := 161) X 162 dX0_readBinary_1 (by omega) (by omega) (by omega) (by rw [c1]; try decide) (by decide) ?_
    refine s_aload_n X dX0_readBinary_162 rfl 0 rfl ?_
    refine s_aload_n X dX0_readBinary_163 rfl 1 rfl ?_
    refine s_iconst X dX0_readBinary_164 ?_
    refine s_iconst X dX0_readBinary_165 ?_
    refine s_callIV X lk_X0_30 [0, 1, 2, 3, 4] [5, 6] (wr := [aI G i8 60 rn, aF G d8 60 rr]) rfl rfl (by decide) (by decide) (by decide) (c_X0_readString (kl K) G s b a n rd e B k x i8 d8 pl af wh len ror rl re t 2 0 (by assumption) (by assumption) (by omega) (by omega) (by assumption) (by assumption) (by omega) (by omega)) rfl rfl dX0_readBinary_166 rfl rfl (Nat.le_of_ble_eq_true rfl) (by decide) (fun z11 w11 h11 => ?_)
    obtain ⟨af211, wh211, len211, t211, rfl, rfl, f11_0, f11_1, f11_2, f11_3⟩ := h11
    show SW K G 3 0 0 169 [(0, .ref s), (1, .ref k), (2, .int (iI c))] [.int (iI (sbA B n e pl 2 0))] [aI G i8 60 rn, aF G d8 60 rr, oBi s b, oBy b a n rd e, aB G a 3000 B, oTk k pl af211 wh211 re x len211 i8 d8 ror rl, aB G x 401 t211]
    have g0 := f11_0
    have g1 := f11_1
    have g2 := f11_2
    have g3 := f11_3
    refine s_perm (ws' := [oBi s b, oBy b a n rd e, aB G a 3000 B, oTk k pl af211 wh211 re x len211 i8 d8 ror rl, aB G x 401 t211, aI G i8 60 rn, aF G d8 60 rr]) [2, 3, 4, 5, 6, 0, 1] (by decide) rfl rfl ?_
    refine s_iret X Y dX0_readBinary_169 (rfl) ?_
    refine ⟨pl, af211, wh211, len211, ror, rl, re, t211, rn, rr, rfl, ?_, ?_, ?_, ?_, ?_⟩
    · (first | (exfalso; omega) | (subst c1; exact (bi_143 B n e pl).1.symm))
    · (first | (exfalso; omega) | (subst c1; intro h; rw [(bi_143 B n e pl).2.1, (bi_143 B n e pl).2.2.1]; exact ⟨g0 h, rfl⟩))
    · (first | (exfalso; omega) | (subst c1; intro h; rw [(bi_143 B n e pl).2.2.2.1, (bi_143 B n e pl).2.2.2.2.1, (bi_143 B n e pl).2.2.2.2.2.1, (bi_143 B n e pl).2.2.2.2.2.2]; have hq := g1 (sbA_6 h); exact ⟨hq.1, hre0, hq.2, hrl0, by omega, fun j a b => by omega, fun h8 => by omega⟩))
    · (first | (exfalso; omega) | (exact g3))
    · (first | (exfalso; omega) | (exact hr0))
  by_cases c1_144 : c = 144
  · have c1 := c1_144
    refine s_tableIn (off := 169) X 170 dX0_readBinary_1 (by omega) (by omega) (by omega) (by rw [c1]; try decide) (by decide) ?_
    refine s_aload_n X dX0_readBinary_170 rfl 0 rfl ?_
    refine s_aload_n X dX0_readBinary_171 rfl 1 rfl ?_
    refine s_iconst X dX0_readBinary_172 ?_
    refine s_iconst X dX0_readBinary_173 ?_
    refine s_callIV X lk_X0_30 [0, 1, 2, 3, 4] [5, 6] (wr := [aI G i8 60 rn, aF G d8 60 rr]) rfl rfl (by decide) (by decide) (by decide) (c_X0_readString (kl K) G s b a n rd e B k x i8 d8 pl af wh len ror rl re t 2 1 (by assumption) (by assumption) (by omega) (by omega) (by assumption) (by assumption) (by omega) (by omega)) rfl rfl dX0_readBinary_174 rfl rfl (Nat.le_of_ble_eq_true rfl) (by decide) (fun z12 w12 h12 => ?_)
    obtain ⟨af212, wh212, len212, t212, rfl, rfl, f12_0, f12_1, f12_2, f12_3⟩ := h12
    show SW K G 3 0 0 177 [(0, .ref s), (1, .ref k), (2, .int (iI c))] [.int (iI (sbA B n e pl 2 1))] [aI G i8 60 rn, aF G d8 60 rr, oBi s b, oBy b a n rd e, aB G a 3000 B, oTk k pl af212 wh212 re x len212 i8 d8 ror rl, aB G x 401 t212]
    have g0 := f12_0
    have g1 := f12_1
    have g2 := f12_2
    have g3 := f12_3
    refine s_perm (ws' := [oBi s b, oBy b a n rd e, aB G a 3000 B, oTk k pl af212 wh212 re x len212 i8 d8 ror rl, aB G x 401 t212, aI G i8 60 rn, aF G d8 60 rr]) [2, 3, 4, 5, 6, 0, 1] (by decide) rfl rfl ?_
    refine s_iret X Y dX0_readBinary_177 (rfl) ?_
    refine ⟨pl, af212, wh212, len212, ror, rl, re, t212, rn, rr, rfl, ?_, ?_, ?_, ?_, ?_⟩
    · (first | (exfalso; omega) | (subst c1; exact (bi_144 B n e pl).1.symm))
    · (first | (exfalso; omega) | (subst c1; intro h; rw [(bi_144 B n e pl).2.1, (bi_144 B n e pl).2.2.1]; exact ⟨g0 h, rfl⟩))
    · (first | (exfalso; omega) | (subst c1; intro h; rw [(bi_144 B n e pl).2.2.2.1, (bi_144 B n e pl).2.2.2.2.1, (bi_144 B n e pl).2.2.2.2.2.1, (bi_144 B n e pl).2.2.2.2.2.2]; have hq := g1 (sbA_6 h); exact ⟨hq.1, hre0, hq.2, hrl0, by omega, fun j a b => by omega, fun h8 => by omega⟩))
    · (first | (exfalso; omega) | (exact g3))
    · (first | (exfalso; omega) | (exact hr0))
  by_cases c1_145 : c = 145
  · have c1 := c1_145
    refine s_tableIn (off := 177) X 178 dX0_readBinary_1 (by omega) (by omega) (by omega) (by rw [c1]; try decide) (by decide) ?_
    refine s_aload_n X dX0_readBinary_178 rfl 0 rfl ?_
    refine s_aload_n X dX0_readBinary_179 rfl 1 rfl ?_
    refine s_bipush 14 X dX0_readBinary_180 (by decide) ?_
    refine s_callIV X lk_X0_33 [0, 1, 2, 3] [4, 5, 6] (wr := [aB G x 401 t, aI G i8 60 rn, aF G d8 60 rr]) rfl rfl (by decide) (by decide) (by decide) (c_X0_readNumbered (kl K) G s b a n rd e B k x i8 d8 pl af wh len ror rl re 14 (by assumption) (by assumption) (by omega) (by omega) (by omega)) rfl rfl dX0_readBinary_182 rfl rfl (Nat.le_of_ble_eq_true rfl) (by decide) (fun z13 w13 h13 => ?_)
    obtain ⟨af213, wh213, len213, rfl, rfl, f13_0, f13_1, f13_2⟩ := h13
    show SW K G 3 0 0 185 [(0, .ref s), (1, .ref k), (2, .int (iI c))] [.int (iI (nuA n e (pl + 1 + 1) 14))] [aB G x 401 t, aI G i8 60 rn, aF G d8 60 rr, oBi s b, oBy b a n rd e, aB G a 3000 B, oTk k pl af213 wh213 re x len213 i8 d8 ror rl]
    have g0 := f13_0
    have g1 := f13_1
    have g2 := f13_2
    refine s_perm (ws' := [oBi s b, oBy b a n rd e, aB G a 3000 B, oTk k pl af213 wh213 re x len213 i8 d8 ror rl, aB G x 401 t, aI G i8 60 rn, aF G d8 60 rr]) [3, 4, 5, 6, 0, 1, 2] (by decide) rfl rfl ?_
    refine s_iret X Y dX0_readBinary_185 (rfl) ?_
    refine ⟨pl, af213, wh213, len213, ror, rl, re, t, rn, rr, rfl, ?_, ?_, ?_, ?_, ?_⟩
    · (first | (exfalso; omega) | (subst c1; exact (bi_145 B n e pl).1.symm))
    · (first | (exfalso; omega) | (subst c1; intro h; rw [(bi_145 B n e pl).2.1, (bi_145 B n e pl).2.2.1]; exact ⟨g0 h, rfl⟩))
    · (first | (exfalso; omega) | (subst c1; intro h; rw [(bi_145 B n e pl).2.2.2.1, (bi_145 B n e pl).2.2.2.2.1, (bi_145 B n e pl).2.2.2.2.2.1, (bi_145 B n e pl).2.2.2.2.2.2]; have hq := nuA_pos h; exact ⟨(g1 hq).1, hre0, (by rw [(g1 hq).2]; exact TX_0 htb), hrl0, by omega, fun j a b => by omega, fun h8 => by omega⟩))
    · (first | (exfalso; omega) | (exact htb))
    · (first | (exfalso; omega) | (exact hr0))
  by_cases c1_146 : c = 146
  · have c1 := c1_146
    refine s_tableIn (off := 185) X 186 dX0_readBinary_1 (by omega) (by omega) (by omega) (by rw [c1]; try decide) (by decide) ?_
    refine s_aload_n X dX0_readBinary_186 rfl 0 rfl ?_
    refine s_aload_n X dX0_readBinary_187 rfl 1 rfl ?_
    refine s_bipush 15 X dX0_readBinary_188 (by decide) ?_
    refine s_callIV X lk_X0_33 [0, 1, 2, 3] [4, 5, 6] (wr := [aB G x 401 t, aI G i8 60 rn, aF G d8 60 rr]) rfl rfl (by decide) (by decide) (by decide) (c_X0_readNumbered (kl K) G s b a n rd e B k x i8 d8 pl af wh len ror rl re 15 (by assumption) (by assumption) (by omega) (by omega) (by omega)) rfl rfl dX0_readBinary_190 rfl rfl (Nat.le_of_ble_eq_true rfl) (by decide) (fun z14 w14 h14 => ?_)
    obtain ⟨af214, wh214, len214, rfl, rfl, f14_0, f14_1, f14_2⟩ := h14
    show SW K G 3 0 0 193 [(0, .ref s), (1, .ref k), (2, .int (iI c))] [.int (iI (nuA n e (pl + 1 + 1) 15))] [aB G x 401 t, aI G i8 60 rn, aF G d8 60 rr, oBi s b, oBy b a n rd e, aB G a 3000 B, oTk k pl af214 wh214 re x len214 i8 d8 ror rl]
    have g0 := f14_0
    have g1 := f14_1
    have g2 := f14_2
    refine s_perm (ws' := [oBi s b, oBy b a n rd e, aB G a 3000 B, oTk k pl af214 wh214 re x len214 i8 d8 ror rl, aB G x 401 t, aI G i8 60 rn, aF G d8 60 rr]) [3, 4, 5, 6, 0, 1, 2] (by decide) rfl rfl ?_
    refine s_iret X Y dX0_readBinary_193 (rfl) ?_
    refine ⟨pl, af214, wh214, len214, ror, rl, re, t, rn, rr, rfl, ?_, ?_, ?_, ?_, ?_⟩
    · (first | (exfalso; omega) | (subst c1; exact (bi_146 B n e pl).1.symm))
    · (first | (exfalso; omega) | (subst c1; intro h; rw [(bi_146 B n e pl).2.1, (bi_146 B n e pl).2.2.1]; exact ⟨g0 h, rfl⟩))
    · (first | (exfalso; omega) | (subst c1; intro h; rw [(bi_146 B n e pl).2.2.2.1, (bi_146 B n e pl).2.2.2.2.1, (bi_146 B n e pl).2.2.2.2.2.1, (bi_146 B n e pl).2.2.2.2.2.2]; have hq := nuA_pos h; exact ⟨(g1 hq).1, hre0, (by rw [(g1 hq).2]; exact TX_0 htb), hrl0, by omega, fun j a b => by omega, fun h8 => by omega⟩))
    · (first | (exfalso; omega) | (exact htb))
    · (first | (exfalso; omega) | (exact hr0))
  by_cases c1_147 : c = 147
  · have c1 := c1_147
    refine s_tableIn (off := 199) X 200 dX0_readBinary_1 (by omega) (by omega) (by omega) (by rw [c1]; try decide) (by decide) ?_
    refine s_bipush (-5) X dX0_readBinary_200 (by decide) ?_
    refine s_iret X Y dX0_readBinary_202 (rfl) ?_
    refine ⟨pl, af, wh, len, ror, rl, re, t, rn, rr, rfl, ?_, ?_, ?_, ?_, ?_⟩
    · (first | (exfalso; omega) | (exact biA_d (by omega)))
    · (first | (exfalso; omega) | (intro _; exact ⟨by rw [biF_d (by omega)]; exact haf0, (biP_d (by omega)).symm⟩))
    · (first | (exfalso; omega) | (intro h; exact absurd h (by decide)))
    · (first | (exfalso; omega) | (exact htb))
    · (first | (exfalso; omega) | (exact hr0))
  by_cases c1_148 : c = 148
  · have c1 := c1_148
    refine s_tableIn (off := 199) X 200 dX0_readBinary_1 (by omega) (by omega) (by omega) (by rw [c1]; try decide) (by decide) ?_
    refine s_bipush (-5) X dX0_readBinary_200 (by decide) ?_
    refine s_iret X Y dX0_readBinary_202 (rfl) ?_
    refine ⟨pl, af, wh, len, ror, rl, re, t, rn, rr, rfl, ?_, ?_, ?_, ?_, ?_⟩
    · (first | (exfalso; omega) | (exact biA_d (by omega)))
    · (first | (exfalso; omega) | (intro _; exact ⟨by rw [biF_d (by omega)]; exact haf0, (biP_d (by omega)).symm⟩))
    · (first | (exfalso; omega) | (intro h; exact absurd h (by decide)))
    · (first | (exfalso; omega) | (exact htb))
    · (first | (exfalso; omega) | (exact hr0))
  by_cases c1_149 : c = 149
  · have c1 := c1_149
    refine s_tableIn (off := 193) X 194 dX0_readBinary_1 (by omega) (by omega) (by omega) (by rw [c1]; try decide) (by decide) ?_
    refine s_aload_n X dX0_readBinary_194 rfl 0 rfl ?_
    refine s_aload_n X dX0_readBinary_195 rfl 1 rfl ?_
    refine s_callIV X lk_X0_37 [0, 1, 2, 3, 5, 6] [4] (wr := [aB G x 401 t]) rfl rfl (by decide) (by decide) (by decide) (c_X0_readRow (kl K) G s b a n rd e B k x i8 d8 pl af wh len ror rl re rn rr (by assumption) (by assumption) (by omega) (by omega) (by assumption) (by omega)) rfl rfl dX0_readBinary_196 rfl rfl (Nat.le_of_ble_eq_true rfl) (by decide) (fun z15 w15 h15 => ?_)
    obtain ⟨pl215, af215, wh215, len215, ror215, rl215, rn215, rr215, rfl, rfl, f15_0, f15_1, f15_2⟩ := h15
    show SW K G 3 0 0 199 [(0, .ref s), (1, .ref k), (2, .int (iI c))] [.int (iI (rwA B n e pl))] [aB G x 401 t, oBi s b, oBy b a n rd e, aB G a 3000 B, oTk k pl215 af215 wh215 re x len215 i8 d8 ror215 rl215, aI G i8 60 rn215, aF G d8 60 rr215]
    have g0 := f15_0
    have g1 := f15_1
    have g2 := f15_2
    refine s_perm (ws' := [oBi s b, oBy b a n rd e, aB G a 3000 B, oTk k pl215 af215 wh215 re x len215 i8 d8 ror215 rl215, aB G x 401 t, aI G i8 60 rn215, aF G d8 60 rr215]) [1, 2, 3, 4, 0, 5, 6] (by decide) rfl rfl ?_
    refine s_iret X Y dX0_readBinary_199 (rfl) ?_
    refine ⟨pl215, af215, wh215, len215, ror215, rl215, re, t, rn215, rr215, rfl, ?_, ?_, ?_, ?_, ?_⟩
    · (first | (exfalso; omega) | (subst c1; exact (bi_149 B n e pl).1.symm))
    · (first | (exfalso; omega) | (subst c1; intro h; rw [(bi_149 B n e pl).2.1, (bi_149 B n e pl).2.2.1]; exact g0 h))
    · (first | (exfalso; omega) | (subst c1; intro h; rw [(bi_149 B n e pl).2.2.2.1, (bi_149 B n e pl).2.2.2.2.1, (bi_149 B n e pl).2.2.2.2.2.1, (bi_149 B n e pl).2.2.2.2.2.2]; obtain ⟨a1, a2, a3, a4, a5, a6⟩ := g1 (rwA_16 h); exact ⟨a1, hre0, (by rw [a2]; exact TX_0 htb), a3, a5, a6, fun _ => a4⟩))
    · (first | (exfalso; omega) | (exact htb))
    · (first | (exfalso; omega) | (exact g2))
  refine s_tableOut X 200 dX0_readBinary_1 (by omega) (by omega) (by decide) ?_
  refine s_bipush (-5) X dX0_readBinary_200 (by decide) ?_
  refine s_iret X Y dX0_readBinary_202 (rfl) ?_
  refine ⟨pl, af, wh, len, ror, rl, re, t, rn, rr, rfl, ?_, ?_, ?_, ?_, ?_⟩
  · (first | (exfalso; omega) | (exact biA_d (by omega)))
  · (first | (exfalso; omega) | (intro _; exact ⟨by rw [biF_d (by omega)]; exact haf0, (biP_d (by omega)).symm⟩))
  · (first | (exfalso; omega) | (intro h; exact absurd h (by decide)))
  · (first | (exfalso; omega) | (exact htb))
  · (first | (exfalso; omega) | (exact hr0))
