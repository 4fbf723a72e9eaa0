set_option maxRecDepth 100000 in
set_option maxHeartbeats 4000000 in
theorem c_X2_lineEndWidth (l : Launch) (G : GX) (s : Nat) (b : Nat) (a : Nat) (n : Int) (rd : Int) (e : Int) (B : Nat → Nat) (i : Int) (hn : 0 ≤ n ∧ n ≤ 3000) (hBb : ∀ j, B j < 256) (hi : 0 ≤ i ∧ i ≤ 4000) : CtI l G yX2_lineEndWidth cX2_lineEndWidth 3 (some .int) ({ frames := 2, cells := 0, slots := 0, locals := 42 } : Room) [.ref s, .int (iI i)] [oSt s b, oBy b a n rd e, aB G a 3000 B] (fun (z9 : Int) (w9 : va_W) => z9 = (lw B n i) ∧ w9 = [oSt s b, oBy b a n rd e, aB G a 3000 B]) := by
  intro sz
  refine met_of (fun wc sz => va_Qi (qI _) (posW G wc sz) (va_A wc sz)) (by decide) [(0, .ref s), (1, .int (iI i))] rfl (Nat.le_of_ble_eq_true rfl) (fun K hK9 hnm X Y => ?_)
  subst hK9
  replace Y : RI K G (some .int) 0 0 _ := Y
  refine s_aload_n X dX2_lineEndWidth_0 rfl 0 rfl ?_
  refine s_get X dX2_lineEndWidth_1 fl_X2_9 0 rfl rfl ?_
  refine s_iload_n X dX2_lineEndWidth_4 rfl 1 rfl ?_
  refine s_callIV X lk_X2_26 [1, 2] [0] (wr := [oSt s b]) rfl rfl (by decide) (by decide) (by decide) (c_X1_at (kl K) G b a n rd e B i (by assumption) (by assumption) (by omega)) rfl rfl dX2_lineEndWidth_5 rfl rfl (Nat.le_of_ble_eq_true rfl) (by decide) (fun z1 w1 h1 => ?_)
  obtain ⟨rfl, rfl⟩ := h1
  show SW K G 3 0 0 8 [(0, .ref s), (1, .int (iI i))] [.int (iI (bA B n i))] [oSt s b, oBy b a n rd e, aB G a 3000 B]
  have q2 := bA_C n i (by assumption : ∀ j, B j < 256)
  refine s_istore_n X dX2_lineEndWidth_8 rfl [(2, .int (iI (bA B n i))), (0, .ref s), (1, .int (iI i))] (by decide) rfl ?_
  refine s_iload_n X dX2_lineEndWidth_9 rfl 0 rfl ?_
  refine s_bipush 13 X dX2_lineEndWidth_10 (by decide) ?_
  refine s_icmp_ne X 36 dX2_lineEndWidth_12 (by decide) (by omega) (fun c12 => ?_) (fun c12 => ?_)
  · refine s_iload_n X dX2_lineEndWidth_36 rfl 0 rfl ?_
    refine s_bipush 10 X dX2_lineEndWidth_37 (by decide) ?_
    refine s_icmp_ne X 46 dX2_lineEndWidth_39 (by decide) (by omega) (fun c39 => ?_) (fun c39 => ?_)
    · refine s_iconst X dX2_lineEndWidth_46 ?_
      refine s_iret X Y dX2_lineEndWidth_47 (rfl) ?_
      refine ⟨?_, rfl⟩
      · (first | (exfalso; omega) | (unfold lw; first | (rw [if_pos (by assumption), if_pos (by assumption)]; done) | (rw [if_pos (by assumption), if_neg (by assumption)]; done) | (rw [if_neg (by assumption), if_pos (by assumption)]; done) | (rw [if_neg (by assumption), if_neg (by assumption)]; done)))
    · refine s_iconst X dX2_lineEndWidth_42 ?_
      refine s_goto X 47 dX2_lineEndWidth_43 (by decide) ?_
      refine s_iret X Y dX2_lineEndWidth_47 (rfl) ?_
      refine ⟨?_, rfl⟩
      · (first | (exfalso; omega) | (unfold lw; first | (rw [if_pos (by assumption), if_pos (by assumption)]; done) | (rw [if_pos (by assumption), if_neg (by assumption)]; done) | (rw [if_neg (by assumption), if_pos (by assumption)]; done) | (rw [if_neg (by assumption), if_neg (by assumption)]; done)))
  · refine s_aload_n X dX2_lineEndWidth_15 rfl 1 rfl ?_
    refine s_get X dX2_lineEndWidth_16 fl_X2_9 0 rfl rfl ?_
    refine s_iload_n X dX2_lineEndWidth_19 rfl 2 rfl ?_
    refine s_iconst X dX2_lineEndWidth_20 ?_
    refine s_iadd X dX2_lineEndWidth_21 ?_
    refine s_callIV X lk_X2_26 [1, 2] [0] (wr := [oSt s b]) rfl rfl (by decide) (by decide) (by decide) (c_X1_at (kl K) G b a n rd e B (i + 1) (by assumption) (by assumption) (by omega)) rfl rfl dX2_lineEndWidth_22 rfl rfl (Nat.le_of_ble_eq_true rfl) (by decide) (fun z3 w3 h3 => ?_)
    obtain ⟨rfl, rfl⟩ := h3
    show SW K G 3 0 0 25 [(2, .int (iI (bA B n i))), (0, .ref s), (1, .int (iI i))] [.int (iI (bA B n (i + 1)))] [oSt s b, oBy b a n rd e, aB G a 3000 B]
    have q4 := bA_C n (i + 1) (by assumption : ∀ j, B j < 256)
    refine s_bipush 10 X dX2_lineEndWidth_25 (by decide) ?_
    refine s_icmp_ne X 34 dX2_lineEndWidth_27 (by decide) (by omega) (fun c27 => ?_) (fun c27 => ?_)
    · refine s_iconst X dX2_lineEndWidth_34 ?_
      refine s_iret X Y dX2_lineEndWidth_35 (rfl) ?_
      refine ⟨?_, rfl⟩
      · (first | (exfalso; omega) | (unfold lw; first | (rw [if_pos (by assumption), if_pos (by assumption)]; done) | (rw [if_pos (by assumption), if_neg (by assumption)]; done) | (rw [if_neg (by assumption), if_pos (by assumption)]; done) | (rw [if_neg (by assumption), if_neg (by assumption)]; done)))
    · refine s_iconst X dX2_lineEndWidth_30 ?_
      refine s_goto X 35 dX2_lineEndWidth_31 (by decide) ?_
      refine s_iret X Y dX2_lineEndWidth_35 (rfl) ?_
      refine ⟨?_, rfl⟩
      · (first | (exfalso; omega) | (unfold lw; first | (rw [if_pos (by assumption), if_pos (by assumption)]; done) | (rw [if_pos (by assumption), if_neg (by assumption)]; done) | (rw [if_neg (by assumption), if_pos (by assumption)]; done) | (rw [if_neg (by assumption), if_neg (by assumption)]; done)))
set_option maxRecDepth 100000 in
set_option maxHeartbeats 4000000 in
theorem c_X2_octalWidth (l : Launch) (G : GX) (s : Nat) (b : Nat) (a : Nat) (n : Int) (rd : Int) (e : Int) (B : Nat → Nat) (i : Int) (hn : 0 ≤ n ∧ n ≤ 3000) (hBb : ∀ j, B j < 256) (hi : 0 ≤ i ∧ i ≤ 4000) : CtI l G yX2_octalWidth cX2_octalWidth 3 (some .int) ({ frames := 2, cells := 0, slots := 0, locals := 42 } : Room) [.ref s, .int (iI i)] [oSt s b, oBy b a n rd e, aB G a 3000 B] (fun (z9 : Int) (w9 : va_W) => z9 = (oc B n i) ∧ w9 = [oSt s b, oBy b a n rd e, aB G a 3000 B]) := by
  intro sz
  refine met_of (fun wc sz => va_Qi (qI _) (posW G wc sz) (va_A wc sz)) (by decide) [(0, .ref s), (1, .int (iI i))] rfl (Nat.le_of_ble_eq_true rfl) (fun K hK9 hnm X Y => ?_)
  subst hK9
  replace Y : RI K G (some .int) 0 0 _ := Y
  refine s_iconst X dX2_octalWidth_0 ?_
  refine s_istore_n X dX2_octalWidth_1 rfl [(2, .int (iI 0)), (0, .ref s), (1, .int (iI i))] (by decide) rfl ?_
  have lp : ∀ (m9 : Nat) (q : Int) (h1 : 0 ≤ q ∧ q ≤ 3) (h2 : (1 ≤ q → dg (bA B n i) < 8) ∧ (2 ≤ q → dg (bA B n (i + 1)) < 8) ∧ (3 ≤ q → dg (bA B n (i + 2)) < 8)), (3 - q).toNat < m9 → SW K G 3 0 0 2 [(2, .int (iI q)), (0, .ref s), (1, .int (iI i))] [] [oSt s b, oBy b a n rd e, aB G a 3000 B] := by
    intro m9
    induction m9 with
    | zero => intro q h1 h2 hm9; exact absurd hm9 (Nat.not_lt_zero _)
    | succ m9 ih9 =>
      intro q h1 h2 hm9
      refine s_iload_n X dX2_octalWidth_2 rfl 0 rfl ?_
      refine s_iconst X dX2_octalWidth_3 ?_
      refine s_icmp_ge X 31 dX2_octalWidth_4 (by decide) (by omega) (fun c4 => ?_) (fun c4 => ?_)
      · refine s_iload_n X dX2_octalWidth_31 rfl 0 rfl ?_
        refine s_iret X Y dX2_octalWidth_32 (rfl) ?_
        refine ⟨?_, rfl⟩
        · (first | (exfalso; omega) | (exact oc_of h1 h2 (by first | (intro _; omega) | (intro _; assumption))))
      · refine s_aload_n X dX2_octalWidth_7 rfl 1 rfl ?_
        refine s_get X dX2_octalWidth_8 fl_X2_9 0 rfl rfl ?_
        refine s_iload_n X dX2_octalWidth_11 rfl 2 rfl ?_
        refine s_iload_n X dX2_octalWidth_12 rfl 0 rfl ?_
        refine s_iadd X dX2_octalWidth_13 ?_
        refine s_callIV X lk_X2_26 [1, 2] [0] (wr := [oSt s b]) rfl rfl (by decide) (by decide) (by decide) (c_X1_at (kl K) G b a n rd e B (i + q) (by assumption) (by assumption) (by omega)) rfl rfl dX2_octalWidth_14 rfl rfl (Nat.le_of_ble_eq_true rfl) (by decide) (fun z1 w1 h1 => ?_)
        obtain ⟨rfl, rfl⟩ := h1
        show SW K G 3 0 0 17 [(2, .int (iI q)), (0, .ref s), (1, .int (iI i))] [.int (iI (bA B n (i + q)))] [oSt s b, oBy b a n rd e, aB G a 3000 B]
        have q2 := bA_C n (i + q) (by assumption : ∀ j, B j < 256)
        refine s_callISN X lk_X2_67 [] [0, 1, 2] (wr := [oSt s b, oBy b a n rd e, aB G a 3000 B]) rfl rfl (by decide) (by decide) (by decide) (c_X5_digitOf (kl K) G (bA B n (i + q)) (by omega)) dX2_octalWidth_17 rfl rfl (Nat.le_of_ble_eq_true rfl) (by decide) (fun z3 w3 h3 => ?_)
        obtain ⟨rfl, rfl⟩ := h3
        show SW K G 3 0 0 20 [(2, .int (iI q)), (0, .ref s), (1, .int (iI i))] [.int (iI (dg (bA B n (i + q))))] [oSt s b, oBy b a n rd e, aB G a 3000 B]
        have q4 := dg_R (bA B n (i + q))
        refine s_bipush 8 X dX2_octalWidth_20 (by decide) ?_
        refine s_icmp_ge X 31 dX2_octalWidth_22 (by decide) (by omega) (fun c22 => ?_) (fun c22 => ?_)
        · refine s_iload_n X dX2_octalWidth_31 rfl 0 rfl ?_
          refine s_iret X Y dX2_octalWidth_32 (rfl) ?_
          refine ⟨?_, rfl⟩
          · (first | (exfalso; omega) | (exact oc_of h1 h2 (by first | (intro _; omega) | (intro _; assumption))))
        · refine s_iinc (z := q + 1) X dX2_octalWidth_25 0 rfl (by first | rfl | omega) [(2, .int (iI (q + 1))), (0, .ref s), (1, .int (iI i))] (by decide) rfl ?_
          refine s_goto X 2 dX2_octalWidth_28 (by decide) ?_
          exact ih9 (q + 1) (by omega) (by refine ⟨fun h => ?_, fun h => ?_, fun h => ?_⟩ <;> (rcases (show q = 0 ∨ q = 1 ∨ q = 2 by omega) with e9 | e9 | e9 <;> subst e9 <;> (try simp only [Int.add_zero] at *) <;> omega)) (by omega)
  exact lp _ 0 (by omega) (by refine ⟨fun h => ?_, fun h => ?_, fun h => ?_⟩ <;> omega) (Nat.lt_succ_self _)
set_option maxRecDepth 100000 in
set_option maxHeartbeats 4000000 in
theorem c_X2_octalAt (l : Launch) (G : GX) (s : Nat) (b : Nat) (a : Nat) (n : Int) (rd : Int) (e : Int) (B : Nat → Nat) (i : Int) (o8 : Int) (hn : 0 ≤ n ∧ n ≤ 3000) (hBb : ∀ j, B j < 256) (hi : 0 ≤ i ∧ i ≤ 4000) (ho8 : 1 ≤ o8 ∧ o8 ≤ 3) : CtI l G yX2_octalAt cX2_octalAt 5 (some .int) ({ frames := 2, cells := 0, slots := 0, locals := 42 } : Room) [.ref s, .int (iI i), .int (iI o8)] [oSt s b, oBy b a n rd e, aB G a 3000 B] (fun (z9 : Int) (w9 : va_W) => z9 = (ov B n i o8 % 256) ∧ w9 = [oSt s b, oBy b a n rd e, aB G a 3000 B]) := by
  intro sz
  refine met_of (fun wc sz => va_Qi (qI _) (posW G wc sz) (va_A wc sz)) (by decide) [(0, .ref s), (1, .int (iI i)), (2, .int (iI o8))] rfl (Nat.le_of_ble_eq_true rfl) (fun K hK9 hnm X Y => ?_)
  subst hK9
  replace Y : RI K G (some .int) 0 0 _ := Y
  refine s_iconst X dX2_octalAt_0 ?_
  refine s_istore_n X dX2_octalAt_1 rfl [(3, .int (iI 0)), (0, .ref s), (1, .int (iI i)), (2, .int (iI o8))] (by decide) rfl ?_
  refine s_iconst X dX2_octalAt_2 ?_
  refine s_istore X dX2_octalAt_3 [(4, .int (iI 0)), (3, .int (iI 0)), (0, .ref s), (1, .int (iI i)), (2, .int (iI o8))] (by decide) rfl ?_
  have lp : ∀ (m9 : Nat) (v : Int) (q : Int) (h1 : 0 ≤ q ∧ q ≤ o8) (h2 : (q = 0 ∧ v = 0) ∨ (q = 1 ∧ v = dg (bA B n i)) ∨ (q = 2 ∧ v = dg (bA B n i) * 8 + dg (bA B n (i + 1))) ∨ (q = 3 ∧ v = (dg (bA B n i) * 8 + dg (bA B n (i + 1))) * 8 + dg (bA B n (i + 2)))), (o8 - q).toNat < m9 → SW K G 5 0 0 5 [(3, .int (iI v)), (4, .int (iI q)), (0, .ref s), (1, .int (iI i)), (2, .int (iI o8))] [] [oSt s b, oBy b a n rd e, aB G a 3000 B] := by
    intro m9
    induction m9 with
    | zero => intro v q h1 h2 hm9; exact absurd hm9 (Nat.not_lt_zero _)
    | succ m9 ih9 =>
      intro v q h1 h2 hm9
      refine s_iload X dX2_octalAt_5 1 rfl ?_
      refine s_iload_n X dX2_octalAt_7 rfl 4 rfl ?_
      refine s_icmp_ge X 37 dX2_octalAt_8 (by decide) (by omega) (fun c8 => ?_) (fun c8 => ?_)
      · refine s_iload_n X dX2_octalAt_37 rfl 0 rfl ?_
        refine s_sipush 255 X dX2_octalAt_38 (by decide) ?_
        refine s_iand (z := v % 256) X dX2_octalAt_41 (by exact iand255 _) ?_
        refine s_iret X Y dX2_octalAt_42 (rfl) ?_
        refine ⟨?_, rfl⟩
        · (first | (exfalso; omega) | (unfold ov; rcases (show o8 = 1 ∨ o8 = 2 ∨ o8 = 3 by omega) with e9 | e9 | e9 <;> subst e9 <;> (repeat' split) <;> omega))
      · refine s_iload_n X dX2_octalAt_11 rfl 0 rfl ?_
        refine s_bipush 8 X dX2_octalAt_12 (by decide) ?_
        refine s_imul X dX2_octalAt_14 ?_
        refine s_aload_n X dX2_octalAt_15 rfl 2 rfl ?_
        refine s_get X dX2_octalAt_16 fl_X2_9 0 rfl rfl ?_
        refine s_iload_n X dX2_octalAt_19 rfl 3 rfl ?_
        refine s_iload X dX2_octalAt_20 1 rfl ?_
        refine s_iadd X dX2_octalAt_22 ?_
        refine s_callIV X lk_X2_26 [1, 2] [0] (wr := [oSt s b]) rfl rfl (by decide) (by decide) (by decide) (c_X1_at (kl K) G b a n rd e B (i + q) (by assumption) (by assumption) (by omega)) rfl rfl dX2_octalAt_23 rfl rfl (Nat.le_of_ble_eq_true rfl) (by decide) (fun z1 w1 h1 => ?_)
        obtain ⟨rfl, rfl⟩ := h1
        show SW K G 5 0 0 26 [(3, .int (iI v)), (4, .int (iI q)), (0, .ref s), (1, .int (iI i)), (2, .int (iI o8))] [.int (iI (bA B n (i + q))), .int (iI (v * 8))] [oSt s b, oBy b a n rd e, aB G a 3000 B]
        have q2 := bA_C n (i + q) (by assumption : ∀ j, B j < 256)
        refine s_callISN X lk_X2_67 [] [0, 1, 2] (wr := [oSt s b, oBy b a n rd e, aB G a 3000 B]) rfl rfl (by decide) (by decide) (by decide) (c_X5_digitOf (kl K) G (bA B n (i + q)) (by omega)) dX2_octalAt_26 rfl rfl (Nat.le_of_ble_eq_true rfl) (by decide) (fun z3 w3 h3 => ?_)
        obtain ⟨rfl, rfl⟩ := h3
        show SW K G 5 0 0 29 [(3, .int (iI v)), (4, .int (iI q)), (0, .ref s), (1, .int (iI i)), (2, .int (iI o8))] [.int (iI (dg (bA B n (i + q)))), .int (iI (v * 8))] [oSt s b, oBy b a n rd e, aB G a 3000 B]
        have q4 := dg_R (bA B n (i + q))
        refine s_iadd X dX2_octalAt_29 ?_
        refine s_istore_n X dX2_octalAt_30 rfl [(3, .int (iI ((v * 8) + (dg (bA B n (i + q)))))), (4, .int (iI q)), (0, .ref s), (1, .int (iI i)), (2, .int (iI o8))] (by decide) rfl ?_
        refine s_iinc (z := q + 1) X dX2_octalAt_31 1 rfl (by first | rfl | omega) [(4, .int (iI (q + 1))), (3, .int (iI ((v * 8) + (dg (bA B n (i + q)))))), (0, .ref s), (1, .int (iI i)), (2, .int (iI o8))] (by decide) rfl ?_
        refine s_goto X 5 dX2_octalAt_34 (by decide) ?_
        refine s_locs (lv' := [(3, .int (iI ((v * 8) + (dg (bA B n (i + q)))))), (4, .int (iI (q + 1))), (0, .ref s), (1, .int (iI i)), (2, .int (iI o8))]) [1, 0, 2, 3, 4] rfl ?_
        exact ih9 ((v * 8) + (dg (bA B n (i + q)))) (q + 1) (by omega) (by rcases (show q = 0 ∨ q = 1 ∨ q = 2 by omega) with e9 | e9 | e9 <;> subst e9 <;> (try simp only [Int.add_zero] at *) <;> omega) (by omega)
  refine s_locs (lv' := [(3, .int (iI 0)), (4, .int (iI 0)), (0, .ref s), (1, .int (iI i)), (2, .int (iI o8))]) [1, 0, 2, 3, 4] rfl ?_
  exact lp _ 0 0 (by omega) (by omega) (Nat.lt_succ_self _)
set_option maxRecDepth 100000 in
set_option maxHeartbeats 4000000 in
theorem c_X2_escaped (l : Launch) (G : GX) (c : Int) (hc : R32 c) : CtI l G yX2_escaped cX2_escaped 1 (some .int) ({ frames := 0, cells := 0, slots := 0, locals := 0 } : Room) [.int (iI c)] [] (fun (z9 : Int) (w9 : va_W) => z9 = (es c) ∧ w9 = []) := by
  intro sz
  refine met_of (fun wc sz => va_Qi (qI _) (posW G wc sz) (va_A wc sz)) (by decide) [(0, .int (iI c))] rfl (Nat.le_of_ble_eq_true rfl) (fun K hK9 hnm X Y => ?_)
  subst hK9
  replace Y : RI K G (some .int) 0 0 _ := Y
  refine s_iload_n X dX2_escaped_0 rfl 0 rfl ?_
  by_cases c1_98 : c = 98
  · have c1 := c1_98
    refine s_lookup (off := 60) X 61 dX2_escaped_1 (by decide) (by omega) (by rw [c1]; try decide) (by decide) ?_
    refine s_bipush 8 X dX2_escaped_61 (by decide) ?_
    refine s_iret X Y dX2_escaped_63 (rfl) ?_
    refine ⟨?_, rfl⟩
    · (first | (exfalso; omega) | (unfold es; (repeat' split) <;> omega))
  by_cases c1_102 : c = 102
  · have c1 := c1_102
    refine s_lookup (off := 63) X 64 dX2_escaped_1 (by decide) (by omega) (by rw [c1]; try decide) (by decide) ?_
    refine s_bipush 12 X dX2_escaped_64 (by decide) ?_
    refine s_iret X Y dX2_escaped_66 (rfl) ?_
    refine ⟨?_, rfl⟩
    · (first | (exfalso; omega) | (unfold es; (repeat' split) <;> omega))
  by_cases c1_110 : c = 110
  · have c1 := c1_110
    refine s_lookup (off := 51) X 52 dX2_escaped_1 (by decide) (by omega) (by rw [c1]; try decide) (by decide) ?_
    refine s_bipush 10 X dX2_escaped_52 (by decide) ?_
    refine s_iret X Y dX2_escaped_54 (rfl) ?_
    refine ⟨?_, rfl⟩
    · (first | (exfalso; omega) | (unfold es; (repeat' split) <;> omega))
  by_cases c1_114 : c = 114
  · have c1 := c1_114
    refine s_lookup (off := 54) X 55 dX2_escaped_1 (by decide) (by omega) (by rw [c1]; try decide) (by decide) ?_
    refine s_bipush 13 X dX2_escaped_55 (by decide) ?_
    refine s_iret X Y dX2_escaped_57 (rfl) ?_
    refine ⟨?_, rfl⟩
    · (first | (exfalso; omega) | (unfold es; (repeat' split) <;> omega))
  by_cases c1_116 : c = 116
  · have c1 := c1_116
    refine s_lookup (off := 57) X 58 dX2_escaped_1 (by decide) (by omega) (by rw [c1]; try decide) (by decide) ?_
    refine s_bipush 9 X dX2_escaped_58 (by decide) ?_
    refine s_iret X Y dX2_escaped_60 (rfl) ?_
    refine ⟨?_, rfl⟩
    · (first | (exfalso; omega) | (unfold es; (repeat' split) <;> omega))
  refine s_lookup (off := 66) X 67 dX2_escaped_1 (by decide) (by omega) (by simp [Op.lookupswitch.offset, c1_98, c1_102, c1_110, c1_114, c1_116, eq_comm]) (by decide) ?_
  refine s_iload_n X dX2_escaped_67 rfl 0 rfl ?_
  refine s_iret X Y dX2_escaped_68 (rfl) ?_
  refine ⟨?_, rfl⟩
  · (first | (exfalso; omega) | (unfold es; (repeat' split) <;> omega))
set_option maxRecDepth 100000 in
set_option maxHeartbeats 4000000 in
theorem c_X2_putEscaped (l : Launch) (G : GX) (s : Nat) (b : Nat) (a : Nat) (n : Int) (rd : Int) (e : Int) (B : Nat → Nat) (k : Nat) (x : Nat) (i8 : Nat) (d8 : Nat) (pl : Int) (af : Int) (wh : Int) (len : Int) (ror : Int) (rl : Int) (re : UInt64) (t : Nat → Nat) (o : List Nat) (i : Int) (hn : 0 ≤ n ∧ n ≤ 3000) (hBb : ∀ j, B j < 256) (hx : TX t len o) (hi : 0 ≤ i ∧ i ≤ 4000) : CtI l G yX2_putEscaped cX2_putEscaped 5 (some .int) ({ frames := 3, cells := 0, slots := 0, locals := 66 } : Room) [.ref s, .ref k, .int (iI i)] [oSt s b, oBy b a n rd e, aB G a 3000 B, oTk k pl af wh re x len i8 d8 ror rl, aB G x 401 t] (fun (z9 : Int) (w9 : va_W) => ∃ (len2 : Int), ∃ (t2 : Nat → Nat), z9 = (peW B n i) ∧ w9 = [oSt s b, oBy b a n rd e, aB G a 3000 B, oTk k pl af wh re x len2 i8 d8 ror rl, aB G x 401 t2] ∧ (TX t2 len2 (o ++ peO B n i))) := by
  intro sz
  refine met_of (fun wc sz => va_Qi (qI _) (posW G wc sz) (va_A wc sz)) (by decide) [(0, .ref s), (1, .ref k), (2, .int (iI i))] rfl (Nat.le_of_ble_eq_true rfl) (fun K hK9 hnm X Y => ?_)
  subst hK9
  replace Y : RI K G (some .int) 0 0 _ := Y
  have hlen := TX_R hx
  refine s_aload_n X dX2_putEscaped_0 rfl 0 rfl ?_
  refine s_iload_n X dX2_putEscaped_1 rfl 2 rfl ?_
  refine s_callIV X lk_X2_51 [0, 1, 2] [3, 4] (wr := [oTk k pl af wh re x len i8 d8 ror rl, aB G x 401 t]) rfl rfl (by decide) (by decide) (by decide) (c_X2_lineEndWidth (kl K) G s b a n rd e B i (by assumption) (by assumption) (by omega)) rfl rfl dX2_putEscaped_2 rfl rfl (Nat.le_of_ble_eq_true rfl) (by decide) (fun z1 w1 h1 => ?_)
  obtain ⟨rfl, rfl⟩ := h1
  show SW K G 5 0 0 5 [(0, .ref s), (1, .ref k), (2, .int (iI i))] [.int (iI (lw B n i))] [oTk k pl af wh re x len i8 d8 ror rl, aB G x 401 t, oSt s b, oBy b a n rd e, aB G a 3000 B]
  have q2 := lw_R B n i
  refine s_istore_n X dX2_putEscaped_5 rfl [(3, .int (iI (lw B n i))), (0, .ref s), (1, .ref k), (2, .int (iI i))] (by decide) rfl ?_
  refine s_iload_n X dX2_putEscaped_6 rfl 0 rfl ?_
  refine s_if_le X 12 dX2_putEscaped_7 (by decide) (by omega) (fun c7 => ?_) (fun c7 => ?_)
  · refine s_aload_n X dX2_putEscaped_12 rfl 1 rfl ?_
    refine s_iload_n X dX2_putEscaped_13 rfl 3 rfl ?_
    refine s_callIV X lk_X2_58 [2, 3, 4] [0, 1] (wr := [oTk k pl af wh re x len i8 d8 ror rl, aB G x 401 t]) rfl rfl (by decide) (by decide) (by decide) (c_X2_octalWidth (kl K) G s b a n rd e B i (by assumption) (by assumption) (by omega)) rfl rfl dX2_putEscaped_14 rfl rfl (Nat.le_of_ble_eq_true rfl) (by decide) (fun z3 w3 h3 => ?_)
    obtain ⟨rfl, rfl⟩ := h3
    show SW K G 5 0 0 17 [(3, .int (iI (lw B n i))), (0, .ref s), (1, .ref k), (2, .int (iI i))] [.int (iI (oc B n i))] [oTk k pl af wh re x len i8 d8 ror rl, aB G x 401 t, oSt s b, oBy b a n rd e, aB G a 3000 B]
    have q4 := oc_R B n i
    refine s_istore X dX2_putEscaped_17 [(4, .int (iI (oc B n i))), (3, .int (iI (lw B n i))), (0, .ref s), (1, .ref k), (2, .int (iI i))] (by decide) rfl ?_
    refine s_iload X dX2_putEscaped_19 0 rfl ?_
    refine s_if_le X 38 dX2_putEscaped_21 (by decide) (by omega) (fun c21 => ?_) (fun c21 => ?_)
    · refine s_aload_n X dX2_putEscaped_38 rfl 3 rfl ?_
      refine s_aload_n X dX2_putEscaped_39 rfl 2 rfl ?_
      refine s_get X dX2_putEscaped_40 fl_X2_9 2 rfl rfl ?_
      refine s_iload_n X dX2_putEscaped_43 rfl 4 rfl ?_
      refine s_callIV X lk_X2_26 [3, 4] [0, 1, 2] (wr := [oTk k pl af wh re x len i8 d8 ror rl, aB G x 401 t, oSt s b]) rfl rfl (by decide) (by decide) (by decide) (c_X1_at (kl K) G b a n rd e B i (by assumption) (by assumption) (by omega)) rfl rfl dX2_putEscaped_44 rfl rfl (Nat.le_of_ble_eq_true rfl) (by decide) (fun z5 w5 h5 => ?_)
      obtain ⟨rfl, rfl⟩ := h5
      show SW K G 5 0 0 47 [(4, .int (iI (oc B n i))), (3, .int (iI (lw B n i))), (0, .ref s), (1, .ref k), (2, .int (iI i))] [.int (iI (bA B n i)), .ref k] [oTk k pl af wh re x len i8 d8 ror rl, aB G x 401 t, oSt s b, oBy b a n rd e, aB G a 3000 B]
      have q6 := bA_C n i (by assumption : ∀ j, B j < 256)
      refine s_callIS X lk_X2_64 [] [0, 1, 2, 3, 4] (wr := [oTk k pl af wh re x len i8 d8 ror rl, aB G x 401 t, oSt s b, oBy b a n rd e, aB G a 3000 B]) rfl rfl (by decide) (by decide) (by decide) (c_X2_escaped (kl K) G (bA B n i) (by omega)) dX2_putEscaped_47 rfl rfl (Nat.le_of_ble_eq_true rfl) (by decide) (fun z7 w7 h7 => ?_)
      obtain ⟨rfl, rfl⟩ := h7
      show SW K G 5 0 0 50 [(4, .int (iI (oc B n i))), (3, .int (iI (lw B n i))), (0, .ref s), (1, .ref k), (2, .int (iI i))] [.int (iI (es (bA B n i))), .ref k] [oTk k pl af wh re x len i8 d8 ror rl, aB G x 401 t, oSt s b, oBy b a n rd e, aB G a 3000 B]
      refine s_callVV X lk_X2_54 [0, 1] [2, 3, 4] (wr := [oSt s b, oBy b a n rd e, aB G a 3000 B]) rfl rfl (by decide) (by decide) (by decide) (c_X3_put (kl K) G k x i8 d8 pl af wh len ror rl re t (es (bA B n i)) (by omega)) rfl rfl dX2_putEscaped_50 rfl rfl (Nat.le_of_ble_eq_true rfl) (by decide) (fun w8 h8 => ?_)
      obtain rfl := h8
      show SW K G 5 0 0 53 [(4, .int (iI (oc B n i))), (3, .int (iI (lw B n i))), (0, .ref s), (1, .ref k), (2, .int (iI i))] [] [oSt s b, oBy b a n rd e, aB G a 3000 B, oTk k pl af wh re x (putL len) i8 d8 ror rl, aB G x 401 (putT t len (es (bA B n i)))]
      have q9 := putL_R (len := len) (by omega)
      refine s_iconst X dX2_putEscaped_53 ?_
      refine s_iret X Y dX2_putEscaped_54 (rfl) ?_
      refine ⟨(putL len), (putT t len (es (bA B n i))), ?_, rfl, ?_⟩
      · (first | (exfalso; omega) | (unfold peW; rw [if_neg (by omega), if_neg (by omega)]))
      · (first | (exfalso; omega) | (rw [peO, if_neg (by omega), if_neg (by omega)]; exact TX_put hx))
    · refine s_aload_n X dX2_putEscaped_24 rfl 3 rfl ?_
      refine s_aload_n X dX2_putEscaped_25 rfl 2 rfl ?_
      refine s_iload_n X dX2_putEscaped_26 rfl 4 rfl ?_
      refine s_iload X dX2_putEscaped_27 0 rfl ?_
      refine s_callIV X lk_X2_61 [2, 3, 4] [0, 1] (wr := [oTk k pl af wh re x len i8 d8 ror rl, aB G x 401 t]) rfl rfl (by decide) (by decide) (by decide) (c_X2_octalAt (kl K) G s b a n rd e B i (oc B n i) (by assumption) (by assumption) (by omega) (by omega)) rfl rfl dX2_putEscaped_29 rfl rfl (Nat.le_of_ble_eq_true rfl) (by decide) (fun z10 w10 h10 => ?_)
      obtain ⟨rfl, rfl⟩ := h10
      show SW K G 5 0 0 32 [(4, .int (iI (oc B n i))), (3, .int (iI (lw B n i))), (0, .ref s), (1, .ref k), (2, .int (iI i))] [.int (iI (ov B n i (oc B n i) % 256)), .ref k] [oTk k pl af wh re x len i8 d8 ror rl, aB G x 401 t, oSt s b, oBy b a n rd e, aB G a 3000 B]
      refine s_callVV X lk_X2_54 [0, 1] [2, 3, 4] (wr := [oSt s b, oBy b a n rd e, aB G a 3000 B]) rfl rfl (by decide) (by decide) (by decide) (c_X3_put (kl K) G k x i8 d8 pl af wh len ror rl re t (ov B n i (oc B n i) % 256) (by omega)) rfl rfl dX2_putEscaped_32 rfl rfl (Nat.le_of_ble_eq_true rfl) (by decide) (fun w11 h11 => ?_)
      obtain rfl := h11
      show SW K G 5 0 0 35 [(4, .int (iI (oc B n i))), (3, .int (iI (lw B n i))), (0, .ref s), (1, .ref k), (2, .int (iI i))] [] [oSt s b, oBy b a n rd e, aB G a 3000 B, oTk k pl af wh re x (putL len) i8 d8 ror rl, aB G x 401 (putT t len (ov B n i (oc B n i) % 256))]
      have q12 := putL_R (len := len) (by omega)
      refine s_iload X dX2_putEscaped_35 0 rfl ?_
      refine s_iret X Y dX2_putEscaped_37 (rfl) ?_
      refine ⟨(putL len), (putT t len (ov B n i (oc B n i) % 256)), ?_, rfl, ?_⟩
      · (first | (exfalso; omega) | (unfold peW; rw [if_neg (by omega), if_pos (by assumption)]))
      · (first | (exfalso; omega) | (rw [peO, if_neg (by omega), if_pos (by assumption), ← by8_mod]; exact TX_put hx))
  · refine s_iload_n X dX2_putEscaped_10 rfl 0 rfl ?_
    refine s_perm (ws' := [oSt s b, oBy b a n rd e, aB G a 3000 B, oTk k pl af wh re x len i8 d8 ror rl, aB G x 401 t]) [2, 3, 4, 0, 1] (by decide) rfl rfl ?_
    refine s_iret X Y dX2_putEscaped_11 (rfl) ?_
    refine ⟨len, t, ?_, rfl, ?_⟩
    · (first | (exfalso; omega) | (unfold peW; rw [if_pos (by assumption)]))
    · (first | (exfalso; omega) | (rw [peO, if_pos (by assumption), List.append_nil]; exact hx))
set_option maxRecDepth 100000 in
set_option maxHeartbeats 4000000 in
theorem c_X2_putOne (l : Launch) (G : GX) (s : Nat) (b : Nat) (a : Nat) (n : Int) (rd : Int) (e : Int) (B : Nat → Nat) (k : Nat) (x : Nat) (i8 : Nat) (d8 : Nat) (pl : Int) (af : Int) (wh : Int) (len : Int) (ror : Int) (rl : Int) (re : UInt64) (t : Nat → Nat) (o : List Nat) (i : Int) (c : Int) (hn : 0 ≤ n ∧ n ≤ 3000) (hBb : ∀ j, B j < 256) (hx : TX t len o) (hi : 0 ≤ i ∧ i ≤ 3900) (hc : R32 c) : CtI l G yX2_putOne cX2_putOne 5 (some .int) ({ frames := 4, cells := 0, slots := 0, locals := 90 } : Room) [.ref s, .ref k, .int (iI i), .int (iI c)] [oSt s b, oBy b a n rd e, aB G a 3000 B, oTk k pl af wh re x len i8 d8 ror rl, aB G x 401 t] (fun (z9 : Int) (w9 : va_W) => ∃ (len2 : Int), ∃ (t2 : Nat → Nat), z9 = (poW B n i c) ∧ w9 = [oSt s b, oBy b a n rd e, aB G a 3000 B, oTk k pl af wh re x len2 i8 d8 ror rl, aB G x 401 t2] ∧ (TX t2 len2 (o ++ poO B n i c))) := by
  intro sz
  refine met_of (fun wc sz => va_Qi (qI _) (posW G wc sz) (va_A wc sz)) (by decide) [(0, .ref s), (1, .ref k), (2, .int (iI i)), (3, .int (iI c))] rfl (Nat.le_of_ble_eq_true rfl) (fun K hK9 hnm X Y => ?_)
  subst hK9
  replace Y : RI K G (some .int) 0 0 _ := Y
  have hlen := TX_R hx
  refine s_iload_n X dX2_putOne_0 rfl 3 rfl ?_
  refine s_bipush 92 X dX2_putOne_1 (by decide) ?_
  refine s_icmp_ne X 17 dX2_putOne_3 (by decide) (by omega) (fun c3 => ?_) (fun c3 => ?_)
  · refine s_aload_n X dX2_putOne_17 rfl 0 rfl ?_
    refine s_iload_n X dX2_putOne_18 rfl 2 rfl ?_
    refine s_callIV X lk_X2_51 [0, 1, 2] [3, 4] (wr := [oTk k pl af wh re x len i8 d8 ror rl, aB G x 401 t]) rfl rfl (by decide) (by decide) (by decide) (c_X2_lineEndWidth (kl K) G s b a n rd e B i (by assumption) (by assumption) (by omega)) rfl rfl dX2_putOne_19 rfl rfl (Nat.le_of_ble_eq_true rfl) (by decide) (fun z1 w1 h1 => ?_)
    obtain ⟨rfl, rfl⟩ := h1
    show SW K G 5 0 0 22 [(0, .ref s), (1, .ref k), (2, .int (iI i)), (3, .int (iI c))] [.int (iI (lw B n i))] [oTk k pl af wh re x len i8 d8 ror rl, aB G x 401 t, oSt s b, oBy b a n rd e, aB G a 3000 B]
    have q2 := lw_R B n i
    refine s_istore X dX2_putOne_22 [(4, .int (iI (lw B n i))), (0, .ref s), (1, .ref k), (2, .int (iI i)), (3, .int (iI c))] (by decide) rfl ?_
    refine s_iload X dX2_putOne_24 0 rfl ?_
    refine s_if_le X 38 dX2_putOne_26 (by decide) (by omega) (fun c26 => ?_) (fun c26 => ?_)
    · refine s_aload_n X dX2_putOne_38 rfl 2 rfl ?_
      refine s_iload_n X dX2_putOne_39 rfl 4 rfl ?_
      refine s_callVV X lk_X2_54 [0, 1] [2, 3, 4] (wr := [oSt s b, oBy b a n rd e, aB G a 3000 B]) rfl rfl (by decide) (by decide) (by decide) (c_X3_put (kl K) G k x i8 d8 pl af wh len ror rl re t c (by omega)) rfl rfl dX2_putOne_40 rfl rfl (Nat.le_of_ble_eq_true rfl) (by decide) (fun w3 h3 => ?_)
      obtain rfl := h3
      show SW K G 5 0 0 43 [(4, .int (iI (lw B n i))), (0, .ref s), (1, .ref k), (2, .int (iI i)), (3, .int (iI c))] [] [oSt s b, oBy b a n rd e, aB G a 3000 B, oTk k pl af wh re x (putL len) i8 d8 ror rl, aB G x 401 (putT t len c)]
      have q4 := putL_R (len := len) (by omega)
      refine s_iconst X dX2_putOne_43 ?_
      refine s_iret X Y dX2_putOne_44 (rfl) ?_
      refine ⟨(putL len), (putT t len c), ?_, rfl, ?_⟩
      · (first | (exfalso; omega) | (unfold poW; rw [if_neg (by assumption), if_neg (by omega)]))
      · (first | (exfalso; omega) | (rw [poO, if_neg (by assumption), if_neg (by omega)]; exact TX_put hx))
    · refine s_aload_n X dX2_putOne_29 rfl 2 rfl ?_
      refine s_bipush 10 X dX2_putOne_30 (by decide) ?_
      refine s_callVV X lk_X2_54 [0, 1] [2, 3, 4] (wr := [oSt s b, oBy b a n rd e, aB G a 3000 B]) rfl rfl (by decide) (by decide) (by decide) (c_X3_put (kl K) G k x i8 d8 pl af wh len ror rl re t 10 (by omega)) rfl rfl dX2_putOne_32 rfl rfl (Nat.le_of_ble_eq_true rfl) (by decide) (fun w5 h5 => ?_)
      obtain rfl := h5
      show SW K G 5 0 0 35 [(4, .int (iI (lw B n i))), (0, .ref s), (1, .ref k), (2, .int (iI i)), (3, .int (iI c))] [] [oSt s b, oBy b a n rd e, aB G a 3000 B, oTk k pl af wh re x (putL len) i8 d8 ror rl, aB G x 401 (putT t len 10)]
      have q6 := putL_R (len := len) (by omega)
      refine s_iload X dX2_putOne_35 0 rfl ?_
      refine s_iret X Y dX2_putOne_37 (rfl) ?_
      refine ⟨(putL len), (putT t len 10), ?_, rfl, ?_⟩
      · (first | (exfalso; omega) | (unfold poW; rw [if_neg (by assumption), if_pos (by assumption)]))
      · (first | (exfalso; omega) | (rw [poO, if_neg (by assumption), if_pos (by assumption)]; exact TX_put (v := 10) hx))
  · refine s_iconst X dX2_putOne_6 ?_
    refine s_aload_n X dX2_putOne_7 rfl 0 rfl ?_
    refine s_aload_n X dX2_putOne_8 rfl 1 rfl ?_
    refine s_iload_n X dX2_putOne_9 rfl 2 rfl ?_
    refine s_iconst X dX2_putOne_10 ?_
    refine s_iadd X dX2_putOne_11 ?_
    refine s_callIV X lk_X2_48 [0, 1, 2, 3, 4] [] (wr := []) rfl rfl (by decide) (by decide) (by decide) (c_X2_putEscaped (kl K) G s b a n rd e B k x i8 d8 pl af wh len ror rl re t o (i + 1) (by assumption) (by assumption) (by assumption) (by omega)) rfl rfl dX2_putOne_12 rfl rfl (Nat.le_of_ble_eq_true rfl) (by decide) (fun z7 w7 h7 => ?_)
    obtain ⟨len27, t27, rfl, rfl, f7_0⟩ := h7
    show SW K G 5 0 0 15 [(0, .ref s), (1, .ref k), (2, .int (iI i)), (3, .int (iI c))] [.int (iI (peW B n (i + 1))), .int (iI 1)] [oSt s b, oBy b a n rd e, aB G a 3000 B, oTk k pl af wh re x len27 i8 d8 ror rl, aB G x 401 t27]
    have q8 := peW_R B n (i + 1)
    refine s_iadd X dX2_putOne_15 ?_
    refine s_iret X Y dX2_putOne_16 (rfl) ?_
    refine ⟨len27, t27, ?_, rfl, ?_⟩
    · (first | (exfalso; omega) | (unfold poW; rw [if_pos (by assumption)]))
    · (first | (exfalso; omega) | (rw [poO, if_pos (by assumption)]; assumption))
set_option maxRecDepth 100000 in
set_option maxHeartbeats 4000000 in
theorem c_X2_wholeString (l : Launch) (G : GX) (k : Nat) (x : Nat) (i8 : Nat) (d8 : Nat) (pl : Int) (af : Int) (wh : Int) (len : Int) (ror : Int) (rl : Int) (re : UInt64) (q : Int) (hlen : 0 ≤ len ∧ len ≤ 401) : CtI l G yX2_wholeString cX2_wholeString 2 (some .int) ({ frames := 1, cells := 0, slots := 0, locals := 22 } : Room) [.ref k, .int (iI q)] [oTk k pl af wh re x len i8 d8 ror rl] (fun (z9 : Int) (w9 : va_W) => z9 = (if 400 < len then -2 else 6) ∧ w9 = [oTk k pl q (if 400 < len then wh else len) re x len i8 d8 ror rl]) := by
  intro sz
  refine met_of (fun wc sz => va_Qi (qI _) (posW G wc sz) (va_A wc sz)) (by decide) [(0, .ref k), (1, .int (iI q))] rfl (Nat.le_of_ble_eq_true rfl) (fun K hK9 hnm X Y => ?_)
  subst hK9
  replace Y : RI K G (some .int) 0 0 _ := Y
  refine s_aload_n X dX2_wholeString_0 rfl 0 rfl ?_
  refine s_iload_n X dX2_wholeString_1 rfl 1 rfl ?_
  refine s_put X dX2_wholeString_2 fl_X2_97 tyX3_ok nmX3 0 rfl rfl (rfl) (rfl) (Nat.le_of_ble_eq_true rfl) [oTk k pl q wh re x len i8 d8 ror rl] rfl ?_
  refine s_aload_n X dX2_wholeString_5 rfl 0 rfl ?_
  refine s_bipush 6 X dX2_wholeString_6 (by decide) ?_
  refine s_sipush 400 X dX2_wholeString_8 (by decide) ?_
  refine s_callIV X lk_X2_100 [0] [] (wr := []) rfl rfl (by decide) (by decide) (by decide) (c_X3_asText (kl K) G k x i8 d8 pl q wh len ror rl re 6 400 (by omega) (by omega)) rfl rfl dX2_wholeString_11 rfl rfl (Nat.le_of_ble_eq_true rfl) (by decide) (fun z1 w1 h1 => ?_)
  obtain ⟨rfl, rfl⟩ := h1
  show SW K G 2 0 0 14 [(0, .ref k), (1, .int (iI q))] [.int (iI (if 400 < len then -2 else 6))] [oTk k pl q (if 400 < len then wh else len) re x len i8 d8 ror rl]
  refine s_iret X Y dX2_wholeString_14 (rfl) ?_
  refine ⟨?_, rfl⟩
  · (first | (exfalso; omega) | (first | rfl | omega | (simp [*]; done)))
set_option maxRecDepth 100000 in
set_option maxHeartbeats 4000000 in
theorem c_X2_readRound (l : Launch) (G : GX) (s : Nat) (b : Nat) (a : Nat) (n : Int) (rd : Int) (e : Int) (B : Nat → Nat) (k : Nat) (x : Nat) (i8 : Nat) (d8 : Nat) (pl : Int) (af : Int) (wh : Int) (len : Int) (ror : Int) (rl : Int) (re : UInt64) (t : Nat → Nat) (hn : 0 ≤ n ∧ n ≤ 3000) (hBb : ∀ j, B j < 256) (he : e = 0 ∨ e = 1) (htb : ∀ j, t j < 256) (h0 : len = 0) (hi : 0 ≤ pl ∧ pl < n) : CtI l G yX2_readRound cX2_readRound 5 (some .int) ({ frames := 5, cells := 0, slots := 0, locals := 114 } : Room) [.ref s, .ref k] [oSt s b, oBy b a n rd e, aB G a 3000 B, oTk k pl af wh re x len i8 d8 ror rl, aB G x 401 t] (fun (z9 : Int) (w9 : va_W) => ∃ (pl2 : Int), ∃ (af2 : Int), ∃ (wh2 : Int), ∃ (len2 : Int), ∃ (t2 : Nat → Nat), w9 = [oSt s b, oBy b a n rd e, aB G a 3000 B, oTk k pl2 af2 wh2 re x len2 i8 d8 ror rl, aB G x 401 t2] ∧ (z9 = stA e (rdS B n (pl + 1) 1 [])) ∧ (z9 ≠ 0 → af2 = stF n (rdS B n (pl + 1) 1 []) ∧ pl2 = stP pl (rdS B n (pl + 1) 1 [])) ∧ (z9 = 6 → wh2 = ((rdS B n (pl + 1) 1 []).2.2.length : Int) ∧ TX t2 len2 (rdS B n (pl + 1) 1 []).2.2) ∧ (0 ≤ len2 ∧ len2 ≤ 401) ∧ (∀ j, t2 j < 256)) := by
  intro sz
  refine met_of (fun wc sz => va_Qi (qI _) (posW G wc sz) (va_A wc sz)) (by decide) [(0, .ref s), (1, .ref k)] rfl (Nat.le_of_ble_eq_true rfl) (fun K hK9 hnm X Y => ?_)
  subst hK9
  replace Y : RI K G (some .int) 0 0 _ := Y
  refine s_iconst X dX2_readRound_0 ?_
  refine s_istore_n X dX2_readRound_1 rfl [(2, .int (iI 1)), (0, .ref s), (1, .ref k)] (by decide) rfl ?_
  refine s_aload_n X dX2_readRound_2 rfl 2 rfl ?_
  refine s_get X dX2_readRound_3 fl_X2_15 3 rfl rfl ?_
  refine s_iconst X dX2_readRound_6 ?_
  refine s_iadd X dX2_readRound_7 ?_
  refine s_istore_n X dX2_readRound_8 rfl [(3, .int (iI (pl + 1))), (2, .int (iI 1)), (0, .ref s), (1, .ref k)] (by decide) rfl ?_
  have lp : ∀ (m9 : Nat) (i : Int) (op : Int) (ln : Int) (tt : Nat → Nat) (o : List Nat) (h1 : pl + 1 ≤ i ∧ i ≤ n + 4 ∧ 1 ≤ op ∧ op ≤ i - pl) (h3 : TX tt ln o) (h2 : rdS B n i op o = rdS B n (pl + 1) 1 []), (n + 10 - i).toNat < m9 → SW K G 5 0 0 9 [(2, .int (iI op)), (3, .int (iI i)), (0, .ref s), (1, .ref k)] [] [oSt s b, oBy b a n rd e, aB G a 3000 B, oTk k pl af wh re x ln i8 d8 ror rl, aB G x 401 tt] := by
    intro m9
    induction m9 with
    | zero => intro i op ln tt o h1 h3 h2 hm9; exact absurd hm9 (Nat.not_lt_zero _)
    | succ m9 ih9 =>
      intro i op ln tt o h1 h3 h2 hm9
      have hlen := TX_R h3
      refine s_iload_n X dX2_readRound_9 rfl 1 rfl ?_
      refine s_aload_n X dX2_readRound_10 rfl 2 rfl ?_
      refine s_get X dX2_readRound_11 fl_X2_9 0 rfl rfl ?_
      refine s_get X dX2_readRound_14 fl_X2_21 1 rfl rfl ?_
      refine s_icmp_ge X 80 dX2_readRound_17 (by decide) (by omega) (fun c17 => ?_) (fun c17 => ?_)
      · refine s_aload_n X dX2_readRound_80 rfl 2 rfl ?_
        refine s_get X dX2_readRound_81 fl_X2_9 0 rfl rfl ?_
        refine s_aload_n X dX2_readRound_84 rfl 3 rfl ?_
        have hr : rdS B n (pl + 1) 1 [] = (0, 0, []) := by rw [← h2, rdS_out (by omega)]
        refine s_callIV X lk_X2_44 [1, 3] [0, 2, 4] (wr := [oSt s b, aB G a 3000 B, aB G x 401 tt]) rfl rfl (by decide) (by decide) (by decide) (c_X1_lacking (kl K) G b a n rd e k x i8 d8 pl af wh ln ror rl re (by omega)) rfl rfl dX2_readRound_85 rfl rfl (Nat.le_of_ble_eq_true rfl) (by decide) (fun z1 w1 h1 => ?_)
        obtain ⟨rfl, rfl⟩ := h1
        show SW K G 5 0 0 88 [(2, .int (iI op)), (3, .int (iI i)), (0, .ref s), (1, .ref k)] [.int (iI (if e = 0 then 0 else -7))] [oSt s b, aB G a 3000 B, aB G x 401 tt, oBy b a n rd e, oTk k pl (if e = 0 then af else n) wh re x ln i8 d8 ror rl]
        refine s_perm (ws' := [oSt s b, oBy b a n rd e, aB G a 3000 B, oTk k pl (if e = 0 then af else n) wh re x ln i8 d8 ror rl, aB G x 401 tt]) [0, 3, 1, 4, 2] (by decide) rfl rfl ?_
        refine s_iret X Y dX2_readRound_88 (rfl) ?_
        refine ⟨pl, (if e = 0 then af else n), wh, ln, tt, rfl, ?_, ?_, ?_, ?_, ?_⟩
        · (first | (exfalso; omega) | (exact stA_0 hr))
        · (first | (exfalso; omega) | (intro h; rw [hr]; have h9 : ¬ e = 0 := (fun q => h (by rw [if_pos q])); exact ⟨by rw [if_neg h9]; rfl, rfl⟩))
        · (first | (exfalso; omega) | (intro h; exact absurd h (by split <;> decide)))
        · (first | (exfalso; omega) | (exact TX_R h3))
        · (first | (exfalso; omega) | (exact (h3).2.2))
      · refine s_aload_n X dX2_readRound_20 rfl 2 rfl ?_
        refine s_get X dX2_readRound_21 fl_X2_9 0 rfl rfl ?_
        refine s_iload_n X dX2_readRound_24 rfl 1 rfl ?_
        refine s_callIV X lk_X2_26 [1, 2] [0, 3, 4] (wr := [oSt s b, oTk k pl af wh re x ln i8 d8 ror rl, aB G x 401 tt]) rfl rfl (by decide) (by decide) (by decide) (c_X1_at (kl K) G b a n rd e B i (by assumption) (by assumption) (by omega)) rfl rfl dX2_readRound_25 rfl rfl (Nat.le_of_ble_eq_true rfl) (by decide) (fun z2 w2 h2 => ?_)
        obtain ⟨rfl, rfl⟩ := h2
        show SW K G 5 0 0 28 [(2, .int (iI op)), (3, .int (iI i)), (0, .ref s), (1, .ref k)] [.int (iI (bA B n i))] [oSt s b, oTk k pl af wh re x ln i8 d8 ror rl, aB G x 401 tt, oBy b a n rd e, aB G a 3000 B]
        have q3 := bA_C n i (by assumption : ∀ j, B j < 256)
        refine s_istore X dX2_readRound_28 [(4, .int (iI (bA B n i))), (2, .int (iI op)), (3, .int (iI i)), (0, .ref s), (1, .ref k)] (by decide) rfl ?_
        refine s_iload X dX2_readRound_30 0 rfl ?_
        refine s_bipush 40 X dX2_readRound_32 (by decide) ?_
        refine s_icmp_ne X 40 dX2_readRound_34 (by decide) (by omega) (fun c34 => ?_) (fun c34 => ?_)
        · refine s_iload X dX2_readRound_40 0 rfl ?_
          refine s_bipush 41 X dX2_readRound_42 (by decide) ?_
          refine s_icmp_ne X 50 dX2_readRound_44 (by decide) (by omega) (fun c44 => ?_) (fun c44 => ?_)
          · refine s_iload_n X dX2_readRound_50 rfl 1 rfl ?_
            refine s_if_ne X 62 dX2_readRound_51 (by decide) (by omega) (fun c51 => ?_) (fun c51 => ?_)
            · refine s_iload_n X dX2_readRound_62 rfl 2 rfl ?_
              refine s_iconst X dX2_readRound_63 ?_
              refine s_aload_n X dX2_readRound_64 rfl 3 rfl ?_
              refine s_aload_n X dX2_readRound_65 rfl 4 rfl ?_
              refine s_iload_n X dX2_readRound_66 rfl 2 rfl ?_
              refine s_iload X dX2_readRound_67 0 rfl ?_
              refine s_callIV X lk_X2_34 [0, 3, 4, 1, 2] [] (wr := []) rfl rfl (by decide) (by decide) (by decide) (c_X2_putOne (kl K) G s b a n rd e B k x i8 d8 pl af wh ln ror rl re tt o i (bA B n i) (by assumption) (by assumption) (by assumption) (by omega) (by omega)) rfl rfl dX2_readRound_69 rfl rfl (Nat.le_of_ble_eq_true rfl) (by decide) (fun z4 w4 h4 => ?_)
              obtain ⟨len24, t24, rfl, rfl, f4_0⟩ := h4
              show SW K G 5 0 0 72 [(4, .int (iI (bA B n i))), (2, .int (iI op)), (3, .int (iI i)), (0, .ref s), (1, .ref k)] [.int (iI (poW B n i (bA B n i))), .int (iI 1), .int (iI i)] [oSt s b, oBy b a n rd e, aB G a 3000 B, oTk k pl af wh re x len24 i8 d8 ror rl, aB G x 401 t24]
              have q5 := poW_R B n i (bA B n i)
              refine s_mmax X tm_max1 tm_max2 tm_ini tm_max4 ⟨⟨Nat.le_of_ble_eq_true rfl, Nat.le_of_ble_eq_true rfl⟩, Nat.le_of_ble_eq_true rfl, Nat.le_of_ble_eq_true rfl⟩ dX2_readRound_72 (by omega) ?_
              refine s_cast (st' := [.int (iI (poW B n i (bA B n i))), .int (iI i)]) (by rw [mx1 (poW_R B n i (bA B n i)).1]) rfl rfl ?_
              refine s_iadd X dX2_readRound_75 ?_
              refine s_istore_n X dX2_readRound_76 rfl [(3, .int (iI (i + (poW B n i (bA B n i))))), (4, .int (iI (bA B n i))), (2, .int (iI op)), (0, .ref s), (1, .ref k)] (by decide) rfl ?_
              refine s_goto X 9 dX2_readRound_77 (by decide) ?_
              refine s_locs (lv' := [(2, .int (iI op)), (3, .int (iI (i + (poW B n i (bA B n i))))), (0, .ref s), (1, .ref k)]) [2, 0, 3, 4] rfl ?_
              exact ih9 (i + (poW B n i (bA B n i))) op len24 t24 (o ++ poO B n i (bA B n i)) (by omega) (by assumption) (by rw [← h2, rdS_s (i := i) (by omega), show opn (bA B n i) op = op from by (unfold opn; (repeat' split) <;> omega), if_neg (by omega)]) (by omega)
            · refine s_aload_n X dX2_readRound_54 rfl 4 rfl ?_
              refine s_iload_n X dX2_readRound_55 rfl 2 rfl ?_
              refine s_iconst X dX2_readRound_56 ?_
              refine s_iadd X dX2_readRound_57 ?_
              have hr : rdS B n (pl + 1) 1 [] = (1, i + 1, o) := by rw [← h2, rdS_s (i := i) (by omega), if_pos (by unfold opn; (repeat' split) <;> omega)]
              refine s_callIS X lk_X2_30 [1] [0, 2, 3, 4] (wr := [oSt s b, aB G x 401 tt, oBy b a n rd e, aB G a 3000 B]) rfl rfl (by decide) (by decide) (by decide) (c_X2_wholeString (kl K) G k x i8 d8 pl af wh ln ror rl re (i + 1) (by omega)) dX2_readRound_58 rfl rfl (Nat.le_of_ble_eq_true rfl) (by decide) (fun z6 w6 h6 => ?_)
              obtain ⟨rfl, rfl⟩ := h6
              show SW K G 5 0 0 61 [(4, .int (iI (bA B n i))), (2, .int (iI op)), (3, .int (iI i)), (0, .ref s), (1, .ref k)] [.int (iI (if 400 < ln then -2 else 6))] [oSt s b, aB G x 401 tt, oBy b a n rd e, aB G a 3000 B, oTk k pl (i + 1) (if 400 < ln then wh else ln) re x ln i8 d8 ror rl]
              refine s_perm (ws' := [oSt s b, oBy b a n rd e, aB G a 3000 B, oTk k pl (i + 1) (if 400 < ln then wh else ln) re x ln i8 d8 ror rl, aB G x 401 tt]) [0, 2, 3, 4, 1] (by decide) rfl rfl ?_
              refine s_iret X Y dX2_readRound_61 (rfl) ?_
              refine ⟨pl, (i + 1), (if 400 < ln then wh else ln), ln, tt, rfl, ?_, ?_, ?_, ?_, ?_⟩
              · (first | (exfalso; omega) | (exact stA_1 hr h3))
              · (first | (exfalso; omega) | (intro _; rw [hr]; exact ⟨rfl, rfl⟩))
              · (first | (exfalso; omega) | (intro h; exact st6 hr h3 h))
              · (first | (exfalso; omega) | (exact TX_R h3))
              · (first | (exfalso; omega) | (exact (h3).2.2))
          · refine s_iinc (z := op + (-1)) X dX2_readRound_47 1 rfl (by first | rfl | omega) [(2, .int (iI (op + (-1)))), (4, .int (iI (bA B n i))), (3, .int (iI i)), (0, .ref s), (1, .ref k)] (by decide) rfl ?_
            refine s_iload_n X dX2_readRound_50 rfl 0 rfl ?_
            refine s_if_ne X 62 dX2_readRound_51 (by decide) (by omega) (fun c51 => ?_) (fun c51 => ?_)
            · refine s_iload_n X dX2_readRound_62 rfl 2 rfl ?_
              refine s_iconst X dX2_readRound_63 ?_
              refine s_aload_n X dX2_readRound_64 rfl 3 rfl ?_
              refine s_aload_n X dX2_readRound_65 rfl 4 rfl ?_
              refine s_iload_n X dX2_readRound_66 rfl 2 rfl ?_
              refine s_iload X dX2_readRound_67 1 rfl ?_
              refine s_callIV X lk_X2_34 [0, 3, 4, 1, 2] [] (wr := []) rfl rfl (by decide) (by decide) (by decide) (c_X2_putOne (kl K) G s b a n rd e B k x i8 d8 pl af wh ln ror rl re tt o i (bA B n i) (by assumption) (by assumption) (by assumption) (by omega) (by omega)) rfl rfl dX2_readRound_69 rfl rfl (Nat.le_of_ble_eq_true rfl) (by decide) (fun z7 w7 h7 => ?_)
              obtain ⟨len27, t27, rfl, rfl, f7_0⟩ := h7
              show SW K G 5 0 0 72 [(2, .int (iI (op + (-1)))), (4, .int (iI (bA B n i))), (3, .int (iI i)), (0, .ref s), (1, .ref k)] [.int (iI (poW B n i (bA B n i))), .int (iI 1), .int (iI i)] [oSt s b, oBy b a n rd e, aB G a 3000 B, oTk k pl af wh re x len27 i8 d8 ror rl, aB G x 401 t27]
              have q8 := poW_R B n i (bA B n i)
              refine s_mmax X tm_max1 tm_max2 tm_ini tm_max4 ⟨⟨Nat.le_of_ble_eq_true rfl, Nat.le_of_ble_eq_true rfl⟩, Nat.le_of_ble_eq_true rfl, Nat.le_of_ble_eq_true rfl⟩ dX2_readRound_72 (by omega) ?_
              refine s_cast (st' := [.int (iI (poW B n i (bA B n i))), .int (iI i)]) (by rw [mx1 (poW_R B n i (bA B n i)).1]) rfl rfl ?_
              refine s_iadd X dX2_readRound_75 ?_
              refine s_istore_n X dX2_readRound_76 rfl [(3, .int (iI (i + (poW B n i (bA B n i))))), (2, .int (iI (op + (-1)))), (4, .int (iI (bA B n i))), (0, .ref s), (1, .ref k)] (by decide) rfl ?_
              refine s_goto X 9 dX2_readRound_77 (by decide) ?_
              refine s_locs (lv' := [(2, .int (iI (op + (-1)))), (3, .int (iI (i + (poW B n i (bA B n i))))), (0, .ref s), (1, .ref k)]) [1, 0, 3, 4] rfl ?_
              exact ih9 (i + (poW B n i (bA B n i))) (op + (-1)) len27 t27 (o ++ poO B n i (bA B n i)) (by omega) (by assumption) (by rw [← h2, rdS_s (i := i) (by omega), show opn (bA B n i) op = op + (-1) from by (unfold opn; (repeat' split) <;> omega), if_neg (by omega)]) (by omega)
            · refine s_aload_n X dX2_readRound_54 rfl 4 rfl ?_
              refine s_iload_n X dX2_readRound_55 rfl 2 rfl ?_
              refine s_iconst X dX2_readRound_56 ?_
              refine s_iadd X dX2_readRound_57 ?_
              have hr : rdS B n (pl + 1) 1 [] = (1, i + 1, o) := by rw [← h2, rdS_s (i := i) (by omega), if_pos (by unfold opn; (repeat' split) <;> omega)]
              refine s_callIS X lk_X2_30 [1] [0, 2, 3, 4] (wr := [oSt s b, aB G x 401 tt, oBy b a n rd e, aB G a 3000 B]) rfl rfl (by decide) (by decide) (by decide) (c_X2_wholeString (kl K) G k x i8 d8 pl af wh ln ror rl re (i + 1) (by omega)) dX2_readRound_58 rfl rfl (Nat.le_of_ble_eq_true rfl) (by decide) (fun z9 w9 h9 => ?_)
              obtain ⟨rfl, rfl⟩ := h9
              show SW K G 5 0 0 61 [(2, .int (iI (op + (-1)))), (4, .int (iI (bA B n i))), (3, .int (iI i)), (0, .ref s), (1, .ref k)] [.int (iI (if 400 < ln then -2 else 6))] [oSt s b, aB G x 401 tt, oBy b a n rd e, aB G a 3000 B, oTk k pl (i + 1) (if 400 < ln then wh else ln) re x ln i8 d8 ror rl]
              refine s_perm (ws' := [oSt s b, oBy b a n rd e, aB G a 3000 B, oTk k pl (i + 1) (if 400 < ln then wh else ln) re x ln i8 d8 ror rl, aB G x 401 tt]) [0, 2, 3, 4, 1] (by decide) rfl rfl ?_
              refine s_iret X Y dX2_readRound_61 (rfl) ?_
              refine ⟨pl, (i + 1), (if 400 < ln then wh else ln), ln, tt, rfl, ?_, ?_, ?_, ?_, ?_⟩
              · (first | (exfalso; omega) | (exact stA_1 hr h3))
              · (first | (exfalso; omega) | (intro _; rw [hr]; exact ⟨rfl, rfl⟩))
              · (first | (exfalso; omega) | (intro h; exact st6 hr h3 h))
              · (first | (exfalso; omega) | (exact TX_R h3))
              · (first | (exfalso; omega) | (exact (h3).2.2))
        · refine s_iinc (z := op + 1) X dX2_readRound_37 1 rfl (by first | rfl | omega) [(2, .int (iI (op + 1))), (4, .int (iI (bA B n i))), (3, .int (iI i)), (0, .ref s), (1, .ref k)] (by decide) rfl ?_
          refine s_iload X dX2_readRound_40 1 rfl ?_
          refine s_bipush 41 X dX2_readRound_42 (by decide) ?_
          refine s_icmp_ne X 50 dX2_readRound_44 (by decide) (by omega) (fun c44 => ?_) (fun c44 => ?_)
          · refine s_iload_n X dX2_readRound_50 rfl 0 rfl ?_
            refine s_if_ne X 62 dX2_readRound_51 (by decide) (by omega) (fun c51 => ?_) (fun c51 => ?_)
            · refine s_iload_n X dX2_readRound_62 rfl 2 rfl ?_
              refine s_iconst X dX2_readRound_63 ?_
              refine s_aload_n X dX2_readRound_64 rfl 3 rfl ?_
              refine s_aload_n X dX2_readRound_65 rfl 4 rfl ?_
              refine s_iload_n X dX2_readRound_66 rfl 2 rfl ?_
              refine s_iload X dX2_readRound_67 1 rfl ?_
              refine s_callIV X lk_X2_34 [0, 3, 4, 1, 2] [] (wr := []) rfl rfl (by decide) (by decide) (by decide) (c_X2_putOne (kl K) G s b a n rd e B k x i8 d8 pl af wh ln ror rl re tt o i (bA B n i) (by assumption) (by assumption) (by assumption) (by omega) (by omega)) rfl rfl dX2_readRound_69 rfl rfl (Nat.le_of_ble_eq_true rfl) (by decide) (fun z10 w10 h10 => ?_)
              obtain ⟨len210, t210, rfl, rfl, f10_0⟩ := h10
              show SW K G 5 0 0 72 [(2, .int (iI (op + 1))), (4, .int (iI (bA B n i))), (3, .int (iI i)), (0, .ref s), (1, .ref k)] [.int (iI (poW B n i (bA B n i))), .int (iI 1), .int (iI i)] [oSt s b, oBy b a n rd e, aB G a 3000 B, oTk k pl af wh re x len210 i8 d8 ror rl, aB G x 401 t210]
              have q11 := poW_R B n i (bA B n i)
              refine s_mmax X tm_max1 tm_max2 tm_ini tm_max4 ⟨⟨Nat.le_of_ble_eq_true rfl, Nat.le_of_ble_eq_true rfl⟩, Nat.le_of_ble_eq_true rfl, Nat.le_of_ble_eq_true rfl⟩ dX2_readRound_72 (by omega) ?_
              refine s_cast (st' := [.int (iI (poW B n i (bA B n i))), .int (iI i)]) (by rw [mx1 (poW_R B n i (bA B n i)).1]) rfl rfl ?_
              refine s_iadd X dX2_readRound_75 ?_
              refine s_istore_n X dX2_readRound_76 rfl [(3, .int (iI (i + (poW B n i (bA B n i))))), (2, .int (iI (op + 1))), (4, .int (iI (bA B n i))), (0, .ref s), (1, .ref k)] (by decide) rfl ?_
              refine s_goto X 9 dX2_readRound_77 (by decide) ?_
              refine s_locs (lv' := [(2, .int (iI (op + 1))), (3, .int (iI (i + (poW B n i (bA B n i))))), (0, .ref s), (1, .ref k)]) [1, 0, 3, 4] rfl ?_
              exact ih9 (i + (poW B n i (bA B n i))) (op + 1) len210 t210 (o ++ poO B n i (bA B n i)) (by omega) (by assumption) (by rw [← h2, rdS_s (i := i) (by omega), show opn (bA B n i) op = op + 1 from by (unfold opn; (repeat' split) <;> omega), if_neg (by omega)]) (by omega)
            · refine s_aload_n X dX2_readRound_54 rfl 4 rfl ?_
              refine s_iload_n X dX2_readRound_55 rfl 2 rfl ?_
              refine s_iconst X dX2_readRound_56 ?_
              refine s_iadd X dX2_readRound_57 ?_
              have hr : rdS B n (pl + 1) 1 [] = (1, i + 1, o) := by rw [← h2, rdS_s (i := i) (by omega), if_pos (by unfold opn; (repeat' split) <;> omega)]
              refine s_callIS X lk_X2_30 [1] [0, 2, 3, 4] (wr := [oSt s b, aB G x 401 tt, oBy b a n rd e, aB G a 3000 B]) rfl rfl (by decide) (by decide) (by decide) (c_X2_wholeString (kl K) G k x i8 d8 pl af wh ln ror rl re (i + 1) (by omega)) dX2_readRound_58 rfl rfl (Nat.le_of_ble_eq_true rfl) (by decide) (fun z12 w12 h12 => ?_)
              obtain ⟨rfl, rfl⟩ := h12
              show SW K G 5 0 0 61 [(2, .int (iI (op + 1))), (4, .int (iI (bA B n i))), (3, .int (iI i)), (0, .ref s), (1, .ref k)] [.int (iI (if 400 < ln then -2 else 6))] [oSt s b, aB G x 401 tt, oBy b a n rd e, aB G a 3000 B, oTk k pl (i + 1) (if 400 < ln then wh else ln) re x ln i8 d8 ror rl]
              refine s_perm (ws' := [oSt s b, oBy b a n rd e, aB G a 3000 B, oTk k pl (i + 1) (if 400 < ln then wh else ln) re x ln i8 d8 ror rl, aB G x 401 tt]) [0, 2, 3, 4, 1] (by decide) rfl rfl ?_
              refine s_iret X Y dX2_readRound_61 (rfl) ?_
              refine ⟨pl, (i + 1), (if 400 < ln then wh else ln), ln, tt, rfl, ?_, ?_, ?_, ?_, ?_⟩
              · (first | (exfalso; omega) | (exact stA_1 hr h3))
              · (first | (exfalso; omega) | (intro _; rw [hr]; exact ⟨rfl, rfl⟩))
              · (first | (exfalso; omega) | (intro h; exact st6 hr h3 h))
              · (first | (exfalso; omega) | (exact TX_R h3))
              · (first | (exfalso; omega) | (exact (h3).2.2))
          · refine s_iinc (z := (op + 1) + (-1)) X dX2_readRound_47 0 rfl (by first | rfl | omega) [(2, .int (iI ((op + 1) + (-1)))), (4, .int (iI (bA B n i))), (3, .int (iI i)), (0, .ref s), (1, .ref k)] (by decide) rfl ?_
            refine s_iload_n X dX2_readRound_50 rfl 0 rfl ?_
            refine s_if_ne X 62 dX2_readRound_51 (by decide) (by omega) (fun c51 => ?_) (fun c51 => ?_)
            · refine s_iload_n X dX2_readRound_62 rfl 2 rfl ?_
              refine s_iconst X dX2_readRound_63 ?_
              refine s_aload_n X dX2_readRound_64 rfl 3 rfl ?_
              refine s_aload_n X dX2_readRound_65 rfl 4 rfl ?_
              refine s_iload_n X dX2_readRound_66 rfl 2 rfl ?_
              refine s_iload X dX2_readRound_67 1 rfl ?_
              refine s_callIV X lk_X2_34 [0, 3, 4, 1, 2] [] (wr := []) rfl rfl (by decide) (by decide) (by decide) (c_X2_putOne (kl K) G s b a n rd e B k x i8 d8 pl af wh ln ror rl re tt o i (bA B n i) (by assumption) (by assumption) (by assumption) (by omega) (by omega)) rfl rfl dX2_readRound_69 rfl rfl (Nat.le_of_ble_eq_true rfl) (by decide) (fun z13 w13 h13 => ?_)
              obtain ⟨len213, t213, rfl, rfl, f13_0⟩ := h13
              show SW K G 5 0 0 72 [(2, .int (iI ((op + 1) + (-1)))), (4, .int (iI (bA B n i))), (3, .int (iI i)), (0, .ref s), (1, .ref k)] [.int (iI (poW B n i (bA B n i))), .int (iI 1), .int (iI i)] [oSt s b, oBy b a n rd e, aB G a 3000 B, oTk k pl af wh re x len213 i8 d8 ror rl, aB G x 401 t213]
              have q14 := poW_R B n i (bA B n i)
              refine s_mmax X tm_max1 tm_max2 tm_ini tm_max4 ⟨⟨Nat.le_of_ble_eq_true rfl, Nat.le_of_ble_eq_true rfl⟩, Nat.le_of_ble_eq_true rfl, Nat.le_of_ble_eq_true rfl⟩ dX2_readRound_72 (by omega) ?_
              refine s_cast (st' := [.int (iI (poW B n i (bA B n i))), .int (iI i)]) (by rw [mx1 (poW_R B n i (bA B n i)).1]) rfl rfl ?_
              refine s_iadd X dX2_readRound_75 ?_
              refine s_istore_n X dX2_readRound_76 rfl [(3, .int (iI (i + (poW B n i (bA B n i))))), (2, .int (iI ((op + 1) + (-1)))), (4, .int (iI (bA B n i))), (0, .ref s), (1, .ref k)] (by decide) rfl ?_
              refine s_goto X 9 dX2_readRound_77 (by decide) ?_
              refine s_locs (lv' := [(2, .int (iI ((op + 1) + (-1)))), (3, .int (iI (i + (poW B n i (bA B n i))))), (0, .ref s), (1, .ref k)]) [1, 0, 3, 4] rfl ?_
              exact ih9 (i + (poW B n i (bA B n i))) ((op + 1) + (-1)) len213 t213 (o ++ poO B n i (bA B n i)) (by omega) (by assumption) (by rw [← h2, rdS_s (i := i) (by omega), show opn (bA B n i) op = (op + 1) + (-1) from by (unfold opn; (repeat' split) <;> omega), if_neg (by omega)]) (by omega)
            · refine s_aload_n X dX2_readRound_54 rfl 4 rfl ?_
              refine s_iload_n X dX2_readRound_55 rfl 2 rfl ?_
              refine s_iconst X dX2_readRound_56 ?_
              refine s_iadd X dX2_readRound_57 ?_
              have hr : rdS B n (pl + 1) 1 [] = (1, i + 1, o) := by rw [← h2, rdS_s (i := i) (by omega), if_pos (by unfold opn; (repeat' split) <;> omega)]
              refine s_callIS X lk_X2_30 [1] [0, 2, 3, 4] (wr := [oSt s b, aB G x 401 tt, oBy b a n rd e, aB G a 3000 B]) rfl rfl (by decide) (by decide) (by decide) (c_X2_wholeString (kl K) G k x i8 d8 pl af wh ln ror rl re (i + 1) (by omega)) dX2_readRound_58 rfl rfl (Nat.le_of_ble_eq_true rfl) (by decide) (fun z15 w15 h15 => ?_)
              obtain ⟨rfl, rfl⟩ := h15
              show SW K G 5 0 0 61 [(2, .int (iI ((op + 1) + (-1)))), (4, .int (iI (bA B n i))), (3, .int (iI i)), (0, .ref s), (1, .ref k)] [.int (iI (if 400 < ln then -2 else 6))] [oSt s b, aB G x 401 tt, oBy b a n rd e, aB G a 3000 B, oTk k pl (i + 1) (if 400 < ln then wh else ln) re x ln i8 d8 ror rl]
              refine s_perm (ws' := [oSt s b, oBy b a n rd e, aB G a 3000 B, oTk k pl (i + 1) (if 400 < ln then wh else ln) re x ln i8 d8 ror rl, aB G x 401 tt]) [0, 2, 3, 4, 1] (by decide) rfl rfl ?_
              refine s_iret X Y dX2_readRound_61 (rfl) ?_
              refine ⟨pl, (i + 1), (if 400 < ln then wh else ln), ln, tt, rfl, ?_, ?_, ?_, ?_, ?_⟩
              · (first | (exfalso; omega) | (exact stA_1 hr h3))
              · (first | (exfalso; omega) | (intro _; rw [hr]; exact ⟨rfl, rfl⟩))
              · (first | (exfalso; omega) | (intro h; exact st6 hr h3 h))
              · (first | (exfalso; omega) | (exact TX_R h3))
              · (first | (exfalso; omega) | (exact (h3).2.2))
  refine s_locs (lv' := [(2, .int (iI 1)), (3, .int (iI (pl + 1))), (0, .ref s), (1, .ref k)]) [1, 0, 2, 3] rfl ?_
  exact lp _ (pl + 1) 1 len t ([]) (by omega) (by subst h0; exact TX_0 htb) (rfl) (Nat.lt_succ_self _)
