set_option maxRecDepth 100000 in
set_option maxHeartbeats 4000000 in
theorem c_X4_readSlashed (l : Launch) (G : GX) (w : Nat) (base : Int) (b : Nat) (a : Nat) (n : Int) (rd : Int) (e : Int) (k : Nat) (x : Nat) (i8 : Nat) (d8 : Nat) (pl : Int) (af : Int) (wh : Int) (len : Int) (ror : Int) (rl : Int) (re : UInt64) (B : Nat → Nat) (t : Nat → Nat) (hn : 0 ≤ n ∧ n ≤ 3000) (hBb : ∀ j, B j < 256) (he : e = 0 ∨ e = 1) (htb : ∀ j, t j < 256) (h0 : len = 0) (hi : 0 ≤ pl ∧ pl < n) : CtI l G yX4_readSlashed cX4_readSlashed 3 (some .int) ({ frames := 4, cells := 0, slots := 0, locals := 89 } : Room) [.ref w, .ref k] [oWd w b base, oBy b a n rd e, aB G a 3000 B, oTk k pl af wh re x len i8 d8 ror rl, aB G x 401 t] (fun (z9 : Int) (w9 : va_W) => ∃ (af2 : Int), ∃ (wh2 : Int), ∃ (len2 : Int), ∃ (t2 : Nat → Nat), w9 = [oWd w b base, oBy b a n rd e, aB G a 3000 B, oTk k pl af2 wh2 re x len2 i8 d8 ror rl, aB G x 401 t2] ∧ (z9 = rtA (we B n (slS B n pl)) n e (slS B n pl) (slK B n pl)) ∧ (z9 ≠ 0 → af2 = we B n (slS B n pl)) ∧ (0 < z9 → wh2 = we B n (slS B n pl) - slS B n pl ∧ len2 = we B n (slS B n pl) - slS B n pl ∧ bA t2 len2 = wd B (slS B n pl) (we B n (slS B n pl))) ∧ (0 ≤ len2 ∧ len2 ≤ 401) ∧ (∀ j, t2 j < 256)) := by
  intro sz
  refine met_of (fun wc sz => va_Qi (qI _) (posW G wc sz) (va_A wc sz)) (by decide) [(0, .ref w), (1, .ref k)] rfl (Nat.le_of_ble_eq_true rfl) (fun K hK9 hnm X Y => ?_)
  subst hK9
  replace Y : RI K G (some .int) 0 0 _ := Y
  refine s_aload_n X dX4_readSlashed_0 rfl 1 rfl ?_
  refine s_get X dX4_readSlashed_1 fl_X4_19 3 rfl rfl ?_
  refine s_iconst X dX4_readSlashed_4 ?_
  refine s_iadd X dX4_readSlashed_5 ?_
  refine s_istore_n X dX4_readSlashed_6 rfl [(2, .int (iI (pl + 1))), (0, .ref w), (1, .ref k)] (by decide) rfl ?_
  refine s_aload_n X dX4_readSlashed_7 rfl 1 rfl ?_
  refine s_get X dX4_readSlashed_8 fl_X4_15 0 rfl rfl ?_
  refine s_iload_n X dX4_readSlashed_11 rfl 0 rfl ?_
  refine s_callIV X lk_X4_24 [1, 2] [0, 3, 4] (wr := [oWd w b base, oTk k pl af wh re x len i8 d8 ror rl, aB G x 401 t]) rfl rfl (by decide) (by decide) (by decide) (c_X1_at (kl K) G b a n rd e B (pl + 1) (by assumption) (by assumption) (by omega)) rfl rfl dX4_readSlashed_12 rfl rfl (Nat.le_of_ble_eq_true rfl) (by decide) (fun z1 w1 h1 => ?_)
  obtain ⟨rfl, rfl⟩ := h1
  show SW K G 3 0 0 15 [(2, .int (iI (pl + 1))), (0, .ref w), (1, .ref k)] [.int (iI (bA B n (pl + 1)))] [oWd w b base, oTk k pl af wh re x len i8 d8 ror rl, aB G x 401 t, oBy b a n rd e, aB G a 3000 B]
  have q2 := bA_C n (pl + 1) (by assumption : ∀ j, B j < 256)
  refine s_bipush 47 X dX4_readSlashed_15 (by decide) ?_
  refine s_icmp_ne X 30 dX4_readSlashed_17 (by decide) (by omega) (fun c17 => ?_) (fun c17 => ?_)
  · refine s_aload_n X dX4_readSlashed_30 rfl 1 rfl ?_
    refine s_aload_n X dX4_readSlashed_31 rfl 2 rfl ?_
    refine s_iconst X dX4_readSlashed_32 ?_
    refine s_iload_n X dX4_readSlashed_33 rfl 0 rfl ?_
    refine s_callIV X lk_X4_30 [0, 3, 4, 1, 2] [] (wr := []) rfl rfl (by decide) (by decide) (by decide) (c_X4_readText (kl K) G w base b a n rd e k x i8 d8 pl af wh len ror rl re B t 4 (pl + 1) (by assumption) (by assumption) (by omega) (by assumption) (by assumption) (by omega) (by omega)) rfl rfl dX4_readSlashed_34 rfl rfl (Nat.le_of_ble_eq_true rfl) (by decide) (fun z3 w3 h3 => ?_)
    obtain ⟨af23, wh23, len23, t23, rfl, f3_0, f3_1, f3_2, f3_3, f3_4⟩ := h3
    show SW K G 3 0 0 37 [(2, .int (iI (pl + 1))), (0, .ref w), (1, .ref k)] [.int (iI z3)] [oWd w b base, oBy b a n rd e, aB G a 3000 B, oTk k pl af23 wh23 re x len23 i8 d8 ror rl, aB G x 401 t23]
    have eS : slS B n pl = pl + 1 := by unfold slS; rw [if_neg (by assumption)]
    have eK : slK B n pl = 4 := by unfold slK; rw [if_neg (by assumption)]
    have g0 := f3_0
    have g1 := f3_1
    have g2 := f3_2
    have g3 := f3_3
    have g4 := f3_4
    refine s_iret X Y dX4_readSlashed_37 (rfl) ?_
    refine ⟨af23, wh23, len23, t23, rfl, ?_, ?_, ?_, ?_, ?_⟩
    · (first | (exfalso; omega) | (rw [eS, eK]; exact g0))
    · (first | (exfalso; omega) | (rw [eS]; exact g1))
    · (first | (exfalso; omega) | (rw [eS]; exact g2))
    · (first | (exfalso; omega) | (exact g3))
    · (first | (exfalso; omega) | (exact g4))
  · refine s_aload_n X dX4_readSlashed_20 rfl 1 rfl ?_
    refine s_aload_n X dX4_readSlashed_21 rfl 2 rfl ?_
    refine s_iconst X dX4_readSlashed_22 ?_
    refine s_iload_n X dX4_readSlashed_23 rfl 0 rfl ?_
    refine s_iconst X dX4_readSlashed_24 ?_
    refine s_iadd X dX4_readSlashed_25 ?_
    refine s_callIV X lk_X4_30 [0, 3, 4, 1, 2] [] (wr := []) rfl rfl (by decide) (by decide) (by decide) (c_X4_readText (kl K) G w base b a n rd e k x i8 d8 pl af wh len ror rl re B t 5 ((pl + 1) + 1) (by assumption) (by assumption) (by omega) (by assumption) (by assumption) (by omega) (by omega)) rfl rfl dX4_readSlashed_26 rfl rfl (Nat.le_of_ble_eq_true rfl) (by decide) (fun z4 w4 h4 => ?_)
    obtain ⟨af24, wh24, len24, t24, rfl, f4_0, f4_1, f4_2, f4_3, f4_4⟩ := h4
    show SW K G 3 0 0 29 [(2, .int (iI (pl + 1))), (0, .ref w), (1, .ref k)] [.int (iI z4)] [oWd w b base, oBy b a n rd e, aB G a 3000 B, oTk k pl af24 wh24 re x len24 i8 d8 ror rl, aB G x 401 t24]
    have eS : slS B n pl = pl + 1 + 1 := by unfold slS; rw [if_pos (by assumption)]; omega
    have eK : slK B n pl = 5 := by unfold slK; rw [if_pos (by assumption)]
    have g0 := f4_0
    have g1 := f4_1
    have g2 := f4_2
    have g3 := f4_3
    have g4 := f4_4
    refine s_iret X Y dX4_readSlashed_29 (rfl) ?_
    refine ⟨af24, wh24, len24, t24, rfl, ?_, ?_, ?_, ?_, ?_⟩
    · (first | (exfalso; omega) | (rw [eS, eK]; exact g0))
    · (first | (exfalso; omega) | (rw [eS]; exact g1))
    · (first | (exfalso; omega) | (rw [eS]; exact g2))
    · (first | (exfalso; omega) | (exact g3))
    · (first | (exfalso; omega) | (exact g4))
set_option maxRecDepth 100000 in
set_option maxHeartbeats 4000000 in
theorem c_X4_readWord (l : Launch) (G : GX) (w : Nat) (base : Int) (b : Nat) (a : Nat) (n : Int) (rd : Int) (e : Int) (k : Nat) (x : Nat) (i8 : Nat) (d8 : Nat) (pl : Int) (af : Int) (wh : Int) (len : Int) (ror : Int) (rl : Int) (re : UInt64) (B : Nat → Nat) (t : Nat → Nat) (hn : 0 ≤ n ∧ n ≤ 3000) (hBb : ∀ j, B j < 256) (he : e = 0 ∨ e = 1) (htb : ∀ j, t j < 256) (h0 : len = 0) (hi : 0 ≤ pl ∧ pl < n) : CtI l G yX4_readWord cX4_readWord 3 (some .int) ({ frames := 4, cells := 0, slots := 0, locals := 101 } : Room) [.ref w, .ref k] [oWd w b base, oBy b a n rd e, aB G a 3000 B, oTk k pl af wh re x len i8 d8 ror rl, aB G x 401 t] (fun (z9 : Int) (w9 : va_W) => ∃ (base2 : Int), ∃ (af2 : Int), ∃ (wh2 : Int), ∃ (len2 : Int), ∃ (re2 : UInt64), ∃ (t2 : Nat → Nat), w9 = [oWd w b base2, oBy b a n rd e, aB G a 3000 B, oTk k pl af2 wh2 re2 x len2 i8 d8 ror rl, aB G x 401 t2] ∧ (z9 = wdA B n e pl) ∧ (z9 ≠ 0 → af2 = we B n pl) ∧ (z9 = 1 → wh2 = wV (wd B pl (we B n pl)) (we B n pl - pl) ∧ base2 = wBs (wd B pl (we B n pl)) (we B n pl - pl) ∧ len2 = 0 ∧ re2 = re) ∧ (z9 = 2 → re2 = rrV (wd B pl (we B n pl)) (we B n pl - pl) ∧ wh2 = 0 ∧ len2 = 0) ∧ (z9 = 3 → wh2 = (we B n pl - pl) ∧ len2 = (we B n pl - pl) ∧ bA t2 len2 = (wd B pl (we B n pl)) ∧ re2 = re) ∧ (z9 ≠ 1 → base2 = base) ∧ (0 ≤ len2 ∧ len2 ≤ 401) ∧ (∀ j, t2 j < 256)) := by
  intro sz
  refine met_of (fun wc sz => va_Qi (qI _) (posW G wc sz) (va_A wc sz)) (by decide) [(0, .ref w), (1, .ref k)] rfl (Nat.le_of_ble_eq_true rfl) (fun K hK9 hnm X Y => ?_)
  subst hK9
  replace Y : RI K G (some .int) 0 0 _ := Y
  refine s_aload_n X dX4_readWord_0 rfl 0 rfl ?_
  refine s_aload_n X dX4_readWord_1 rfl 1 rfl ?_
  refine s_iconst X dX4_readWord_2 ?_
  refine s_aload_n X dX4_readWord_3 rfl 1 rfl ?_
  refine s_get X dX4_readWord_4 fl_X4_19 3 rfl rfl ?_
  refine s_callIV X lk_X4_30 [0, 1, 2, 3, 4] [] (wr := []) rfl rfl (by decide) (by decide) (by decide) (c_X4_readText (kl K) G w base b a n rd e k x i8 d8 pl af wh len ror rl re B t 3 pl (by assumption) (by assumption) (by omega) (by assumption) (by assumption) (by omega) (by omega)) rfl rfl dX4_readWord_7 rfl rfl (Nat.le_of_ble_eq_true rfl) (by decide) (fun z1 w1 h1 => ?_)
  obtain ⟨af21, wh21, len21, t21, rfl, f1_0, f1_1, f1_2, f1_3, f1_4⟩ := h1
  show SW K G 3 0 0 10 [(0, .ref w), (1, .ref k)] [.int (iI z1)] [oWd w b base, oBy b a n rd e, aB G a 3000 B, oTk k pl af21 wh21 re x len21 i8 d8 ror rl, aB G x 401 t21]
  have z0e := f1_0
  have hzR : z1 = 0 ∨ z1 = -2 ∨ z1 = 3 := by rw [z0e]; unfold rtA; (repeat' split) <;> simp
  refine s_istore_n X dX4_readWord_10 rfl [(2, .int (iI z1)), (0, .ref w), (1, .ref k)] (by decide) rfl ?_
  refine s_iload_n X dX4_readWord_11 rfl 0 rfl ?_
  refine s_iconst X dX4_readWord_12 ?_
  refine s_icmp_ne X 22 dX4_readWord_13 (by decide) (by omega) (fun c13 => ?_) (fun c13 => ?_)
  · refine s_iload_n X dX4_readWord_22 rfl 0 rfl ?_
    refine s_iconst X dX4_readWord_23 ?_
    refine s_icmp_ne X 33 dX4_readWord_24 (by decide) (by omega) (fun c24 => ?_) (fun c24 => ?_)
    · refine s_iload_n X dX4_readWord_33 rfl 0 rfl ?_
      refine s_iconst X dX4_readWord_34 ?_
      refine s_icmp_ne X 44 dX4_readWord_35 (by decide) (by omega) (fun c35 => ?_) (fun c35 => ?_)
      · refine s_iload_n X dX4_readWord_44 rfl 0 rfl ?_
        refine s_iret X Y dX4_readWord_45 (rfl) ?_
        refine ⟨base, af21, wh21, len21, re, t21, rfl, ?_, ?_, ?_, ?_, ?_, ?_, ?_, ?_⟩
        · (first | (exfalso; omega) | (exact (rtA_ne z0e c13).1))
        · (first | (exfalso; omega) | (exact f1_1))
        · (first | (exfalso; omega) | (intro h; have := (rtA_ne z0e c13).2; omega))
        · (first | (exfalso; omega) | (intro h; have := (rtA_ne z0e c13).2; omega))
        · (first | (exfalso; omega) | (intro h; have := (rtA_ne z0e c13).2; omega))
        · (first | (exfalso; omega) | (intro _; rfl))
        · (first | (exfalso; omega) | (exact f1_3))
        · (first | (exfalso; omega) | (exact f1_4))
      · exact absurd (by assumption) (by assumption)
    · exact absurd (by assumption) (by assumption)
  · obtain ⟨hw9, hl9, hW9⟩ := f1_2 (by omega)
    have hq := f1_1 (by omega)
    have hA := rtA_3 (B := B) (n := n) (e := e) (i0 := pl) (by rw [← z0e]; exact c13.symm)
    refine s_aload_n X dX4_readWord_16 rfl 1 rfl ?_
    refine s_aload_n X dX4_readWord_17 rfl 2 rfl ?_
    refine s_callIV X lk_X4_34 [0, 3, 4] [1, 2] (wr := [oBy b a n rd e, aB G a 3000 B]) rfl rfl (by decide) (by decide) (by decide) (c_X4_readInteger (kl K) G b w base k x i8 d8 pl af21 wh21 len21 ror rl re t21 (by omega) (by assumption)) rfl rfl dX4_readWord_18 rfl rfl (Nat.le_of_ble_eq_true rfl) (by decide) (fun z2 w2 h2 => ?_)
    obtain ⟨base22, wh22, len22, rfl, rfl, f2_0, f2_1⟩ := h2
    show SW K G 3 0 0 21 [(2, .int (iI z1)), (0, .ref w), (1, .ref k)] [.int (iI (riA (bA t21 len21) len21))] [oBy b a n rd e, aB G a 3000 B, oWd w b base22, oTk k pl af21 wh22 re x len22 i8 d8 ror rl, aB G x 401 t21]
    have rI : riA (bA t21 len21) len21 = riA (wd B pl (we B n pl)) (we B n pl - pl) := by rw [hW9, hl9]
    have iA := f2_0
    rw [hW9, hl9] at iA
    have iB := f2_1
    rw [hW9, hl9] at iB
    have hRa := riA_c (wd B pl (we B n pl)) (we B n pl - pl)
    refine s_istore_n X dX4_readWord_21 rfl [(2, .int (iI (riA (bA t21 len21) len21))), (0, .ref w), (1, .ref k)] (by decide) rfl ?_
    refine s_iload_n X dX4_readWord_22 rfl 0 rfl ?_
    refine s_iconst X dX4_readWord_23 ?_
    refine s_icmp_ne X 33 dX4_readWord_24 (by decide) (by omega) (fun c24 => ?_) (fun c24 => ?_)
    · refine s_iload_n X dX4_readWord_33 rfl 0 rfl ?_
      refine s_iconst X dX4_readWord_34 ?_
      refine s_icmp_ne X 44 dX4_readWord_35 (by decide) (by omega) (fun c35 => ?_) (fun c35 => ?_)
      · have hR : riA (wd B pl (we B n pl)) (we B n pl - pl) = 1 ∧ riC (wd B pl (we B n pl)) (we B n pl - pl) := by
              rcases hRa with h | h
              exact h
              exact absurd (rI.trans h.1) c24
        have hw2 := iA hR.1
        have hz := rI.trans hR.1
        have hwa := wA_1 hR.2
        refine s_iload_n X dX4_readWord_44 rfl 0 rfl ?_
        refine s_perm (ws' := [oWd w b base22, oBy b a n rd e, aB G a 3000 B, oTk k pl af21 wh22 re x len22 i8 d8 ror rl, aB G x 401 t21]) [2, 0, 1, 3, 4] (by decide) rfl rfl ?_
        refine s_iret X Y dX4_readWord_45 (rfl) ?_
        refine ⟨base22, af21, wh22, len22, re, t21, rfl, ?_, ?_, ?_, ?_, ?_, ?_, ?_, ?_⟩
        · (first | (exfalso; omega) | (rw [hz, hA, hwa.1]))
        · (first | (exfalso; omega) | (intro _; exact hq))
        · (first | (exfalso; omega) | (intro _; exact ⟨hw2.2.1.trans hwa.2.1.symm, hw2.1.trans hwa.2.2.symm, hw2.2.2, rfl⟩))
        · (first | (exfalso; omega) | (intro h; rw [hz] at h; exact absurd h (by decide)))
        · (first | (exfalso; omega) | (intro h; rw [hz] at h; exact absurd h (by decide)))
        · (first | (exfalso; omega) | (intro h; exact absurd hz h))
        · (first | (exfalso; omega) | (omega))
        · (first | (exfalso; omega) | (exact f1_4))
      · exact absurd (by assumption) (by assumption)
    · have hR3a : riA (wd B pl (we B n pl)) (we B n pl - pl) = 3 := rI.symm.trans c24
      have hC : ¬ riC (wd B pl (we B n pl)) (we B n pl - pl) := by
        rcases hRa with h | h
        · exact absurd (h.1.symm.trans hR3a) (by decide)
        · exact h.2
      have hb := iB (by rw [hR3a]; decide)
      have hW8 : bA t21 len22 = (wd B pl (we B n pl)) := by rw [hb.2.2, ← hl9]; exact hW9
      refine s_aload_n X dX4_readWord_27 rfl 1 rfl ?_
      refine s_aload_n X dX4_readWord_28 rfl 2 rfl ?_
      refine s_callIV X lk_X4_38 [2, 3, 4] [0, 1] (wr := [oBy b a n rd e, aB G a 3000 B]) rfl rfl (by decide) (by decide) (by decide) (c_X4_readWithBase (kl K) G b w base22 k x i8 d8 pl af21 wh22 len22 ror rl re t21 (by omega) (by assumption)) rfl rfl dX4_readWord_29 rfl rfl (Nat.le_of_ble_eq_true rfl) (by decide) (fun z3 w3 h3 => ?_)
      obtain ⟨base23, wh23, len23, rfl, rfl, f3_0, f3_1⟩ := h3
      show SW K G 3 0 0 32 [(2, .int (iI (riA (bA t21 len21) len21))), (0, .ref w), (1, .ref k)] [.int (iI (rbA (bA t21 len22) len22))] [oBy b a n rd e, aB G a 3000 B, oWd w b base23, oTk k pl af21 wh23 re x len23 i8 d8 ror rl, aB G x 401 t21]
      have rB : rbA (bA t21 len22) len22 = rbA (wd B pl (we B n pl)) (we B n pl - pl) := by rw [hW8, hb.2.2]
      have jA := f3_0
      rw [hW8, hb.2.2] at jA
      have jB := f3_1
      rw [hW8, hb.2.2] at jB
      have hRb := rbA_c (wd B pl (we B n pl)) (we B n pl - pl)
      refine s_istore_n X dX4_readWord_32 rfl [(2, .int (iI (rbA (bA t21 len22) len22))), (0, .ref w), (1, .ref k)] (by decide) rfl ?_
      refine s_iload_n X dX4_readWord_33 rfl 0 rfl ?_
      refine s_iconst X dX4_readWord_34 ?_
      refine s_icmp_ne X 44 dX4_readWord_35 (by decide) (by omega) (fun c35 => ?_) (fun c35 => ?_)
      · have hR2 : ¬ rbA (wd B pl (we B n pl)) (we B n pl - pl) = 3 := fun h => c35 (rB.trans h)
        refine s_iload_n X dX4_readWord_44 rfl 0 rfl ?_
        refine s_perm (ws' := [oWd w b base23, oBy b a n rd e, aB G a 3000 B, oTk k pl af21 wh23 re x len23 i8 d8 ror rl, aB G x 401 t21]) [2, 0, 1, 3, 4] (by decide) rfl rfl ?_
        refine s_iret X Y dX4_readWord_45 (rfl) ?_
        refine ⟨base23, af21, wh23, len23, re, t21, rfl, ?_, ?_, ?_, ?_, ?_, ?_, ?_, ?_⟩
        · (first | (exfalso; omega) | (rw [rB, hA, (wA_2 hC hR2).1]))
        · (first | (exfalso; omega) | (intro _; exact hq))
        · (first | (exfalso; omega) | (intro h; rw [rB] at h; exact ⟨(jA h).2.1.trans (wA_2 hC hR2).2.1.symm, (jA h).1.trans (wA_2 hC hR2).2.2.symm, (jA h).2.2, rfl⟩))
        · (first | (exfalso; omega) | (intro h; rw [rB] at h; omega))
        · (first | (exfalso; omega) | (intro h; exact absurd h c35))
        · (first | (exfalso; omega) | (intro h; rw [rB] at h; exact (jB h).1.trans hb.1))
        · (first | (exfalso; omega) | (exact (Decidable.em (rbA (wd B pl (we B n pl)) (we B n pl - pl) = 1)).elim (fun h => by have := jA h; omega) (fun h => by have := jB h; omega)))
        · (first | (exfalso; omega) | (exact f1_4))
      · have hR3 : rbA (wd B pl (we B n pl)) (we B n pl - pl) = 3 := rB.symm.trans c35
        have hj := jB (by rw [hR3]; decide)
        have hW7 : bA t21 len23 = (wd B pl (we B n pl)) := by rw [hj.2.2, ← hl9]; exact hW9
        refine s_aload_n X dX4_readWord_38 rfl 1 rfl ?_
        refine s_aload_n X dX4_readWord_39 rfl 2 rfl ?_
        refine s_callIV X lk_X4_41 [2, 3, 4] [0, 1] (wr := [oBy b a n rd e, aB G a 3000 B]) rfl rfl (by decide) (by decide) (by decide) (c_X4_readReal (kl K) G b w base23 k x i8 d8 pl af21 wh23 len23 ror rl re t21 (by omega) (by assumption)) rfl rfl dX4_readWord_40 rfl rfl (Nat.le_of_ble_eq_true rfl) (by decide) (fun z4 w4 h4 => ?_)
        obtain ⟨wh24, len24, re24, rfl, rfl, f4_0, f4_1⟩ := h4
        show SW K G 3 0 0 43 [(2, .int (iI (rbA (bA t21 len22) len22))), (0, .ref w), (1, .ref k)] [.int (iI (rrA (bA t21 len23) len23))] [oBy b a n rd e, aB G a 3000 B, oWd w b base23, oTk k pl af21 wh24 re24 x len24 i8 d8 ror rl, aB G x 401 t21]
        have rR : rrA (bA t21 len23) len23 = rrA (wd B pl (we B n pl)) (we B n pl - pl) := by rw [hW7, hj.2.2]
        have lA := f4_0
        rw [hW7, hj.2.2] at lA
        have lB := f4_1
        rw [hW7, hj.2.2] at lB
        refine s_istore_n X dX4_readWord_43 rfl [(2, .int (iI (rrA (bA t21 len23) len23))), (0, .ref w), (1, .ref k)] (by decide) rfl ?_
        have hRr := rrA_c (wd B pl (we B n pl)) (we B n pl - pl)
        refine s_iload_n X dX4_readWord_44 rfl 0 rfl ?_
        refine s_perm (ws' := [oWd w b base23, oBy b a n rd e, aB G a 3000 B, oTk k pl af21 wh24 re24 x len24 i8 d8 ror rl, aB G x 401 t21]) [2, 0, 1, 3, 4] (by decide) rfl rfl ?_
        refine s_iret X Y dX4_readWord_45 (rfl) ?_
        refine ⟨base23, af21, wh24, len24, re24, t21, rfl, ?_, ?_, ?_, ?_, ?_, ?_, ?_, ?_⟩
        · (first | (exfalso; omega) | (rw [rR, hA, wA_3 hC hR3]))
        · (first | (exfalso; omega) | (intro _; exact hq))
        · (first | (exfalso; omega) | (intro h; rw [rR] at h; omega))
        · (first | (exfalso; omega) | (intro h; rw [rR] at h; exact lA h))
        · (first | (exfalso; omega) | (intro h; rw [rR] at h; have h8 := lB (by rw [h]; decide); exact ⟨h8.2.1.trans (hj.2.1.trans (hb.2.1.trans hw9)), h8.2.2, (by rw [h8.2.2, ← hj.2.2]; exact hW7), h8.1⟩))
        · (first | (exfalso; omega) | (intro _; exact hj.1.trans hb.1))
        · (first | (exfalso; omega) | (exact (Decidable.em (rrA (wd B pl (we B n pl)) (we B n pl - pl) = 2)).elim (fun h => by have := lA h; omega) (fun h => by have := lB h; omega)))
        · (first | (exfalso; omega) | (exact f1_4))
