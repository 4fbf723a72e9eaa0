set_option maxRecDepth 100000 in
set_option maxHeartbeats 4000000 in
theorem c_X1_has (l : Launch) (G : GX) (b : Nat) (a : Nat) (n : Int) (rd : Int) (e : Int) (i : Int) (hn : 0 ≤ n ∧ n ≤ 3000) (hi : R32 i) : CtI l G yX1_has cX1_has 2 (some .boolean) ({ frames := 0, cells := 0, slots := 0, locals := 0 } : Room) [.ref b, .int (iI i)] [oBy b a n rd e] (fun (z9 : Int) (w9 : va_W) => z9 = (tf (0 ≤ i ∧ i < n)) ∧ w9 = [oBy b a n rd e]) := by
  intro sz
  refine met_of (fun wc sz => va_Qi (qI _) (posW G wc sz) (va_A wc sz)) (by decide) [(0, .ref b), (1, .int (iI i))] rfl (Nat.le_of_ble_eq_true rfl) (fun K hK9 hnm X Y => ?_)
  subst hK9
  replace Y : RI K G (some .boolean) 0 0 _ := Y
  refine s_iload_n X dX1_has_0 rfl 1 rfl ?_
  refine s_if_lt X 16 dX1_has_1 (by decide) (by omega) (fun c1 => ?_) (fun c1 => ?_)
  · refine s_iconst X dX1_has_16 ?_
    refine s_iret X Y dX1_has_17 (rfl) ?_
    refine ⟨?_, rfl⟩
    · (first | (exfalso; omega) | (first | exact (tf_t (by omega)).symm | exact (tf_f (by omega)).symm))
  · refine s_iload_n X dX1_has_4 rfl 1 rfl ?_
    refine s_aload_n X dX1_has_5 rfl 0 rfl ?_
    refine s_get X dX1_has_6 fl_X1_15 0 rfl rfl ?_
    refine s_icmp_ge X 16 dX1_has_9 (by decide) (by omega) (fun c9 => ?_) (fun c9 => ?_)
    · refine s_iconst X dX1_has_16 ?_
      refine s_iret X Y dX1_has_17 (rfl) ?_
      refine ⟨?_, rfl⟩
      · (first | (exfalso; omega) | (first | exact (tf_t (by omega)).symm | exact (tf_f (by omega)).symm))
    · refine s_iconst X dX1_has_12 ?_
      refine s_goto X 17 dX1_has_13 (by decide) ?_
      refine s_iret X Y dX1_has_17 (rfl) ?_
      refine ⟨?_, rfl⟩
      · (first | (exfalso; omega) | (first | exact (tf_t (by omega)).symm | exact (tf_f (by omega)).symm))
set_option maxRecDepth 100000 in
set_option maxHeartbeats 4000000 in
theorem c_X1_at (l : Launch) (G : GX) (b : Nat) (a : Nat) (n : Int) (rd : Int) (e : Int) (B : Nat → Nat) (i : Int) (hn : 0 ≤ n ∧ n ≤ 3000) (hBb : ∀ j, B j < 256) (hi : R32 i) : CtI l G yX1_at cX1_at 2 (some .int) ({ frames := 1, cells := 0, slots := 0, locals := 21 } : Room) [.ref b, .int (iI i)] [oBy b a n rd e, aB G a 3000 B] (fun (z9 : Int) (w9 : va_W) => z9 = (bA B n i) ∧ w9 = [oBy b a n rd e, aB G a 3000 B]) := by
  intro sz
  refine met_of (fun wc sz => va_Qi (qI _) (posW G wc sz) (va_A wc sz)) (by decide) [(0, .ref b), (1, .int (iI i))] rfl (Nat.le_of_ble_eq_true rfl) (fun K hK9 hnm X Y => ?_)
  subst hK9
  replace Y : RI K G (some .int) 0 0 _ := Y
  refine s_aload_n X dX1_at_0 rfl 0 rfl ?_
  refine s_iload_n X dX1_at_1 rfl 1 rfl ?_
  refine s_callIV X lk_X1_26 [0] [1] (wr := [aB G a 3000 B]) rfl rfl (by decide) (by decide) (by decide) (c_X1_has (kl K) G b a n rd e i (by assumption) (by omega)) rfl rfl dX1_at_2 rfl rfl (Nat.le_of_ble_eq_true rfl) (by decide) (fun z1 w1 h1 => ?_)
  obtain ⟨rfl, rfl⟩ := h1
  show SW K G 2 0 0 5 [(0, .ref b), (1, .int (iI i))] [.int (iI (tf (0 ≤ i ∧ i < n)))] [aB G a 3000 B, oBy b a n rd e]
  refine s_tf_eq X 21 dX1_at_5 (by decide) (fun c5 => ?_) (fun c5 => ?_)
  · refine s_iconst X dX1_at_21 ?_
    refine s_perm (ws' := [oBy b a n rd e, aB G a 3000 B]) [1, 0] (by decide) rfl rfl ?_
    refine s_iret X Y dX1_at_22 (rfl) ?_
    refine ⟨?_, rfl⟩
    · (first | (exfalso; omega) | (first | exact (bA_in ‹_›).symm | exact (bA_out ‹_›).symm))
  · refine s_aload_n X dX1_at_8 rfl 0 rfl ?_
    refine s_get X dX1_at_9 fl_X1_9 1 rfl rfl ?_
    refine s_iload_n X dX1_at_12 rfl 1 rfl ?_
    refine s_bald X dX1_at_13 0 rfl (by omega) ?_
    refine s_sipush 255 X dX1_at_14 (by decide) ?_
    refine s_iand (z := (((B i.toNat) : Nat) : Int)) X dX1_at_17 (sb_and9 (hBb _)) ?_
    refine s_goto X 22 dX1_at_18 (by decide) ?_
    refine s_perm (ws' := [oBy b a n rd e, aB G a 3000 B]) [1, 0] (by decide) rfl rfl ?_
    refine s_iret X Y dX1_at_22 (rfl) ?_
    refine ⟨?_, rfl⟩
    · (first | (exfalso; omega) | (first | exact (bA_in ‹_›).symm | exact (bA_out ‹_›).symm))
set_option maxRecDepth 100000 in
set_option maxHeartbeats 4000000 in
theorem c_X1_isWhite (l : Launch) (G : GX) (c : Int) (hc : R32 c) : CtI l G yX1_isWhite cX1_isWhite 1 (some .boolean) ({ frames := 0, cells := 0, slots := 0, locals := 0 } : Room) [.int (iI c)] [] (fun (z9 : Int) (w9 : va_W) => z9 = (tf (isW c)) ∧ w9 = []) := by
  intro sz
  refine met_of (fun wc sz => va_Qi (qI _) (posW G wc sz) (va_A wc sz)) (by decide) [(0, .int (iI c))] rfl (Nat.le_of_ble_eq_true rfl) (fun K hK9 hnm X Y => ?_)
  subst hK9
  replace Y : RI K G (some .boolean) 0 0 _ := Y
  refine s_iload_n X dX1_isWhite_0 rfl 0 rfl ?_
  refine s_if_eq X 34 dX1_isWhite_1 (by decide) (by omega) (fun c1 => ?_) (fun c1 => ?_)
  · refine s_iconst X dX1_isWhite_34 ?_
    refine s_goto X 39 dX1_isWhite_35 (by decide) ?_
    refine s_iret X Y dX1_isWhite_39 (rfl) ?_
    refine ⟨?_, rfl⟩
    · (first | (exfalso; omega) | (first | exact (tf_t (by omega)).symm | exact (tf_f (by omega)).symm))
  · refine s_iload_n X dX1_isWhite_4 rfl 0 rfl ?_
    refine s_bipush 9 X dX1_isWhite_5 (by decide) ?_
    refine s_icmp_eq X 34 dX1_isWhite_7 (by decide) (by omega) (fun c7 => ?_) (fun c7 => ?_)
    · refine s_iconst X dX1_isWhite_34 ?_
      refine s_goto X 39 dX1_isWhite_35 (by decide) ?_
      refine s_iret X Y dX1_isWhite_39 (rfl) ?_
      refine ⟨?_, rfl⟩
      · (first | (exfalso; omega) | (first | exact (tf_t (by omega)).symm | exact (tf_f (by omega)).symm))
    · refine s_iload_n X dX1_isWhite_10 rfl 0 rfl ?_
      refine s_bipush 10 X dX1_isWhite_11 (by decide) ?_
      refine s_icmp_eq X 34 dX1_isWhite_13 (by decide) (by omega) (fun c13 => ?_) (fun c13 => ?_)
      · refine s_iconst X dX1_isWhite_34 ?_
        refine s_goto X 39 dX1_isWhite_35 (by decide) ?_
        refine s_iret X Y dX1_isWhite_39 (rfl) ?_
        refine ⟨?_, rfl⟩
        · (first | (exfalso; omega) | (first | exact (tf_t (by omega)).symm | exact (tf_f (by omega)).symm))
      · refine s_iload_n X dX1_isWhite_16 rfl 0 rfl ?_
        refine s_bipush 12 X dX1_isWhite_17 (by decide) ?_
        refine s_icmp_eq X 34 dX1_isWhite_19 (by decide) (by omega) (fun c19 => ?_) (fun c19 => ?_)
        · refine s_iconst X dX1_isWhite_34 ?_
          refine s_goto X 39 dX1_isWhite_35 (by decide) ?_
          refine s_iret X Y dX1_isWhite_39 (rfl) ?_
          refine ⟨?_, rfl⟩
          · (first | (exfalso; omega) | (first | exact (tf_t (by omega)).symm | exact (tf_f (by omega)).symm))
        · refine s_iload_n X dX1_isWhite_22 rfl 0 rfl ?_
          refine s_bipush 13 X dX1_isWhite_23 (by decide) ?_
          refine s_icmp_eq X 34 dX1_isWhite_25 (by decide) (by omega) (fun c25 => ?_) (fun c25 => ?_)
          · refine s_iconst X dX1_isWhite_34 ?_
            refine s_goto X 39 dX1_isWhite_35 (by decide) ?_
            refine s_iret X Y dX1_isWhite_39 (rfl) ?_
            refine ⟨?_, rfl⟩
            · (first | (exfalso; omega) | (first | exact (tf_t (by omega)).symm | exact (tf_f (by omega)).symm))
          · refine s_iload_n X dX1_isWhite_28 rfl 0 rfl ?_
            refine s_bipush 32 X dX1_isWhite_29 (by decide) ?_
            refine s_icmp_ne X 38 dX1_isWhite_31 (by decide) (by omega) (fun c31 => ?_) (fun c31 => ?_)
            · refine s_iconst X dX1_isWhite_38 ?_
              refine s_iret X Y dX1_isWhite_39 (rfl) ?_
              refine ⟨?_, rfl⟩
              · (first | (exfalso; omega) | (first | exact (tf_t (by omega)).symm | exact (tf_f (by omega)).symm))
            · refine s_iconst X dX1_isWhite_34 ?_
              refine s_goto X 39 dX1_isWhite_35 (by decide) ?_
              refine s_iret X Y dX1_isWhite_39 (rfl) ?_
              refine ⟨?_, rfl⟩
              · (first | (exfalso; omega) | (first | exact (tf_t (by omega)).symm | exact (tf_f (by omega)).symm))
set_option maxRecDepth 100000 in
set_option maxHeartbeats 4000000 in
theorem c_X1_isOwn (l : Launch) (G : GX) (c : Int) (hc : R32 c) : CtI l G yX1_isOwn cX1_isOwn 1 (some .boolean) ({ frames := 0, cells := 0, slots := 0, locals := 0 } : Room) [.int (iI c)] [] (fun (z9 : Int) (w9 : va_W) => z9 = (tf (isO c)) ∧ w9 = []) := by
  intro sz
  refine met_of (fun wc sz => va_Qi (qI _) (posW G wc sz) (va_A wc sz)) (by decide) [(0, .int (iI c))] rfl (Nat.le_of_ble_eq_true rfl) (fun K hK9 hnm X Y => ?_)
  subst hK9
  replace Y : RI K G (some .boolean) 0 0 _ := Y
  refine s_iload_n X dX1_isOwn_0 rfl 0 rfl ?_
  by_cases c1_37 : c = 37
  · have c1 := c1_37
    refine s_lookup (off := 91) X 92 dX1_isOwn_1 (by decide) (by omega) (by rw [c1]; try decide) (by decide) ?_
    refine s_iconst X dX1_isOwn_92 ?_
    refine s_iret X Y dX1_isOwn_93 (rfl) ?_
    refine ⟨?_, rfl⟩
    · (first | (exfalso; omega) | (first | exact (tf_t (by omega)).symm | exact (tf_f (by omega)).symm))
  by_cases c1_40 : c = 40
  · have c1 := c1_40
    refine s_lookup (off := 91) X 92 dX1_isOwn_1 (by decide) (by omega) (by rw [c1]; try decide) (by decide) ?_
    refine s_iconst X dX1_isOwn_92 ?_
    refine s_iret X Y dX1_isOwn_93 (rfl) ?_
    refine ⟨?_, rfl⟩
    · (first | (exfalso; omega) | (first | exact (tf_t (by omega)).symm | exact (tf_f (by omega)).symm))
  by_cases c1_41 : c = 41
  · have c1 := c1_41
    refine s_lookup (off := 91) X 92 dX1_isOwn_1 (by decide) (by omega) (by rw [c1]; try decide) (by decide) ?_
    refine s_iconst X dX1_isOwn_92 ?_
    refine s_iret X Y dX1_isOwn_93 (rfl) ?_
    refine ⟨?_, rfl⟩
    · (first | (exfalso; omega) | (first | exact (tf_t (by omega)).symm | exact (tf_f (by omega)).symm))
  by_cases c1_47 : c = 47
  · have c1 := c1_47
    refine s_lookup (off := 91) X 92 dX1_isOwn_1 (by decide) (by omega) (by rw [c1]; try decide) (by decide) ?_
    refine s_iconst X dX1_isOwn_92 ?_
    refine s_iret X Y dX1_isOwn_93 (rfl) ?_
    refine ⟨?_, rfl⟩
    · (first | (exfalso; omega) | (first | exact (tf_t (by omega)).symm | exact (tf_f (by omega)).symm))
  by_cases c1_60 : c = 60
  · have c1 := c1_60
    refine s_lookup (off := 91) X 92 dX1_isOwn_1 (by decide) (by omega) (by rw [c1]; try decide) (by decide) ?_
    refine s_iconst X dX1_isOwn_92 ?_
    refine s_iret X Y dX1_isOwn_93 (rfl) ?_
    refine ⟨?_, rfl⟩
    · (first | (exfalso; omega) | (first | exact (tf_t (by omega)).symm | exact (tf_f (by omega)).symm))
  by_cases c1_62 : c = 62
  · have c1 := c1_62
    refine s_lookup (off := 91) X 92 dX1_isOwn_1 (by decide) (by omega) (by rw [c1]; try decide) (by decide) ?_
    refine s_iconst X dX1_isOwn_92 ?_
    refine s_iret X Y dX1_isOwn_93 (rfl) ?_
    refine ⟨?_, rfl⟩
    · (first | (exfalso; omega) | (first | exact (tf_t (by omega)).symm | exact (tf_f (by omega)).symm))
  by_cases c1_91 : c = 91
  · have c1 := c1_91
    refine s_lookup (off := 91) X 92 dX1_isOwn_1 (by decide) (by omega) (by rw [c1]; try decide) (by decide) ?_
    refine s_iconst X dX1_isOwn_92 ?_
    refine s_iret X Y dX1_isOwn_93 (rfl) ?_
    refine ⟨?_, rfl⟩
    · (first | (exfalso; omega) | (first | exact (tf_t (by omega)).symm | exact (tf_f (by omega)).symm))
  by_cases c1_93 : c = 93
  · have c1 := c1_93
    refine s_lookup (off := 91) X 92 dX1_isOwn_1 (by decide) (by omega) (by rw [c1]; try decide) (by decide) ?_
    refine s_iconst X dX1_isOwn_92 ?_
    refine s_iret X Y dX1_isOwn_93 (rfl) ?_
    refine ⟨?_, rfl⟩
    · (first | (exfalso; omega) | (first | exact (tf_t (by omega)).symm | exact (tf_f (by omega)).symm))
  by_cases c1_123 : c = 123
  · have c1 := c1_123
    refine s_lookup (off := 91) X 92 dX1_isOwn_1 (by decide) (by omega) (by rw [c1]; try decide) (by decide) ?_
    refine s_iconst X dX1_isOwn_92 ?_
    refine s_iret X Y dX1_isOwn_93 (rfl) ?_
    refine ⟨?_, rfl⟩
    · (first | (exfalso; omega) | (first | exact (tf_t (by omega)).symm | exact (tf_f (by omega)).symm))
  by_cases c1_125 : c = 125
  · have c1 := c1_125
    refine s_lookup (off := 91) X 92 dX1_isOwn_1 (by decide) (by omega) (by rw [c1]; try decide) (by decide) ?_
    refine s_iconst X dX1_isOwn_92 ?_
    refine s_iret X Y dX1_isOwn_93 (rfl) ?_
    refine ⟨?_, rfl⟩
    · (first | (exfalso; omega) | (first | exact (tf_t (by omega)).symm | exact (tf_f (by omega)).symm))
  refine s_lookup (off := 93) X 94 dX1_isOwn_1 (by decide) (by omega) (by simp [Op.lookupswitch.offset, c1_37, c1_40, c1_41, c1_47, c1_60, c1_62, c1_91, c1_93, c1_123, c1_125, eq_comm]) (by decide) ?_
  refine s_iconst X dX1_isOwn_94 ?_
  refine s_iret X Y dX1_isOwn_95 (rfl) ?_
  refine ⟨?_, rfl⟩
  · (first | (exfalso; omega) | (first | exact (tf_t (by omega)).symm | exact (tf_f (by omega)).symm))
set_option maxRecDepth 100000 in
set_option maxHeartbeats 4000000 in
theorem c_X1_isPlain (l : Launch) (G : GX) (c : Int) (hc : 0 ≤ c ∧ R32 c) : CtI l G yX1_isPlain cX1_isPlain 1 (some .boolean) ({ frames := 1, cells := 0, slots := 0, locals := 20 } : Room) [.int (iI c)] [] (fun (z9 : Int) (w9 : va_W) => z9 = (tf (isP c)) ∧ w9 = []) := by
  intro sz
  refine met_of (fun wc sz => va_Qi (qI _) (posW G wc sz) (va_A wc sz)) (by decide) [(0, .int (iI c))] rfl (Nat.le_of_ble_eq_true rfl) (fun K hK9 hnm X Y => ?_)
  subst hK9
  replace Y : RI K G (some .boolean) 0 0 _ := Y
  refine s_iload_n X dX1_isPlain_0 rfl 0 rfl ?_
  refine s_sipush 159 X dX1_isPlain_1 (by decide) ?_
  refine s_icmp_gt X 28 dX1_isPlain_4 (by decide) (by omega) (fun c4 => ?_) (fun c4 => ?_)
  · refine s_iconst X dX1_isPlain_28 ?_
    refine s_goto X 33 dX1_isPlain_29 (by decide) ?_
    refine s_iret X Y dX1_isPlain_33 (rfl) ?_
    refine ⟨?_, rfl⟩
    · (first | (exfalso; omega) | (first | exact (tf_t (by omega)).symm | exact (tf_f (by omega)).symm))
  · refine s_iload_n X dX1_isPlain_7 rfl 0 rfl ?_
    refine s_sipush 128 X dX1_isPlain_8 (by decide) ?_
    refine s_icmp_ge X 32 dX1_isPlain_11 (by decide) (by omega) (fun c11 => ?_) (fun c11 => ?_)
    · refine s_iconst X dX1_isPlain_32 ?_
      refine s_iret X Y dX1_isPlain_33 (rfl) ?_
      refine ⟨?_, rfl⟩
      · (first | (exfalso; omega) | (first | exact (tf_t (by omega)).symm | exact (tf_f (by omega)).symm))
    · refine s_iload_n X dX1_isPlain_14 rfl 0 rfl ?_
      refine s_callIS X lk_X1_34 [] [] (wr := []) rfl rfl (by decide) (by decide) (by decide) (c_X1_isWhite (kl K) G c (by omega)) dX1_isPlain_15 rfl rfl (Nat.le_of_ble_eq_true rfl) (by decide) (fun z1 w1 h1 => ?_)
      obtain ⟨rfl, rfl⟩ := h1
      show SW K G 1 0 0 18 [(0, .int (iI c))] [.int (iI (tf (isW c)))] []
      refine s_tf_ne X 32 dX1_isPlain_18 (by decide) (fun c18 => ?_) (fun c18 => ?_)
      · refine s_iconst X dX1_isPlain_32 ?_
        refine s_iret X Y dX1_isPlain_33 (rfl) ?_
        refine ⟨?_, rfl⟩
        · (first | (exfalso; omega) | (first | exact (tf_t (by omega)).symm | exact (tf_f (by omega)).symm))
      · refine s_iload_n X dX1_isPlain_21 rfl 0 rfl ?_
        refine s_callIS X lk_X1_45 [] [] (wr := []) rfl rfl (by decide) (by decide) (by decide) (c_X1_isOwn (kl K) G c (by omega)) dX1_isPlain_22 rfl rfl (Nat.le_of_ble_eq_true rfl) (by decide) (fun z2 w2 h2 => ?_)
        obtain ⟨rfl, rfl⟩ := h2
        show SW K G 1 0 0 25 [(0, .int (iI c))] [.int (iI (tf (isO c)))] []
        refine s_tf_ne X 32 dX1_isPlain_25 (by decide) (fun c25 => ?_) (fun c25 => ?_)
        · refine s_iconst X dX1_isPlain_32 ?_
          refine s_iret X Y dX1_isPlain_33 (rfl) ?_
          refine ⟨?_, rfl⟩
          · (first | (exfalso; omega) | (first | exact (tf_t (by omega)).symm | exact (tf_f (by omega)).symm))
        · refine s_iconst X dX1_isPlain_28 ?_
          refine s_goto X 33 dX1_isPlain_29 (by decide) ?_
          refine s_iret X Y dX1_isPlain_33 (rfl) ?_
          refine ⟨?_, rfl⟩
          · (first | (exfalso; omega) | (first | exact (tf_t (by omega)).symm | exact (tf_f (by omega)).symm))
set_option maxRecDepth 100000 in
set_option maxHeartbeats 4000000 in
theorem c_X1_wordEnd (l : Launch) (G : GX) (b : Nat) (a : Nat) (n : Int) (rd : Int) (e : Int) (B : Nat → Nat) (i0 : Int) (hn : 0 ≤ n ∧ n ≤ 3000) (hBb : ∀ j, B j < 256) (hi : 0 ≤ i0 ∧ i0 ≤ n) : CtI l G yX1_wordEnd cX1_wordEnd 3 (some .int) ({ frames := 2, cells := 0, slots := 0, locals := 42 } : Room) [.ref b, .int (iI i0)] [oBy b a n rd e, aB G a 3000 B] (fun (z9 : Int) (w9 : va_W) => z9 = (we B n i0) ∧ w9 = [oBy b a n rd e, aB G a 3000 B]) := by
  intro sz
  refine met_of (fun wc sz => va_Qi (qI _) (posW G wc sz) (va_A wc sz)) (by decide) [(0, .ref b), (1, .int (iI i0))] rfl (Nat.le_of_ble_eq_true rfl) (fun K hK9 hnm X Y => ?_)
  subst hK9
  replace Y : RI K G (some .int) 0 0 _ := Y
  refine s_iload_n X dX1_wordEnd_0 rfl 1 rfl ?_
  refine s_istore_n X dX1_wordEnd_1 rfl [(2, .int (iI i0)), (0, .ref b), (1, .int (iI i0))] (by decide) rfl ?_
  have lp : ∀ (m9 : Nat) (i : Int) (h1 : i0 ≤ i ∧ i ≤ n) (h2 : we B n i = we B n i0), (n - i).toNat < m9 → SW K G 3 0 0 2 [(0, .ref b), (2, .int (iI i))] [] [oBy b a n rd e, aB G a 3000 B] := by
    intro m9
    induction m9 with
    | zero => intro i h1 h2 hm9; exact absurd hm9 (Nat.not_lt_zero _)
    | succ m9 ih9 =>
      intro i h1 h2 hm9
      refine s_iload_n X dX1_wordEnd_2 rfl 1 rfl ?_
      refine s_aload_n X dX1_wordEnd_3 rfl 0 rfl ?_
      refine s_get X dX1_wordEnd_4 fl_X1_15 0 rfl rfl ?_
      refine s_icmp_ge X 29 dX1_wordEnd_7 (by decide) (by omega) (fun c7 => ?_) (fun c7 => ?_)
      · refine s_aload_n X dX1_wordEnd_29 rfl 0 rfl ?_
        refine s_get X dX1_wordEnd_30 fl_X1_15 0 rfl rfl ?_
        refine s_iret X Y dX1_wordEnd_33 (rfl) ?_
        refine ⟨?_, rfl⟩
        · (first | (exfalso; omega) | (first | (rw [← h2, we_out (by omega)]) | (rw [← h2, we_s (by omega), if_neg (by assumption)]; done)))
      · refine s_aload_n X dX1_wordEnd_10 rfl 0 rfl ?_
        refine s_iload_n X dX1_wordEnd_11 rfl 1 rfl ?_
        refine s_callIV X lk_X1_30 [0, 1] [] (wr := []) rfl rfl (by decide) (by decide) (by decide) (c_X1_at (kl K) G b a n rd e B i (by assumption) (by assumption) (by omega)) rfl rfl dX1_wordEnd_12 rfl rfl (Nat.le_of_ble_eq_true rfl) (by decide) (fun z1 w1 h1 => ?_)
        obtain ⟨rfl, rfl⟩ := h1
        show SW K G 3 0 0 15 [(0, .ref b), (2, .int (iI i))] [.int (iI (bA B n i))] [oBy b a n rd e, aB G a 3000 B]
        have q2 := bA_C n i (by assumption : ∀ j, B j < 256)
        refine s_callIS X lk_X1_37 [] [0, 1] (wr := [oBy b a n rd e, aB G a 3000 B]) rfl rfl (by decide) (by decide) (by decide) (c_X1_isPlain (kl K) G (bA B n i) (by omega)) dX1_wordEnd_15 rfl rfl (Nat.le_of_ble_eq_true rfl) (by decide) (fun z3 w3 h3 => ?_)
        obtain ⟨rfl, rfl⟩ := h3
        show SW K G 3 0 0 18 [(0, .ref b), (2, .int (iI i))] [.int (iI (tf (isP (bA B n i))))] [oBy b a n rd e, aB G a 3000 B]
        refine s_tf_ne X 23 dX1_wordEnd_18 (by decide) (fun c18 => ?_) (fun c18 => ?_)
        · refine s_iinc (z := i + 1) X dX1_wordEnd_23 1 rfl (by first | rfl | omega) [(2, .int (iI (i + 1))), (0, .ref b)] (by decide) rfl ?_
          refine s_goto X 2 dX1_wordEnd_26 (by decide) ?_
          refine s_locs (lv' := [(0, .ref b), (2, .int (iI (i + 1)))]) [1, 0] rfl ?_
          exact ih9 (i + 1) (by omega) (by rw [← h2, we_s (i := i) (by omega), if_pos (by assumption)]) (by omega)
        · refine s_iload_n X dX1_wordEnd_21 rfl 1 rfl ?_
          refine s_iret X Y dX1_wordEnd_22 (rfl) ?_
          refine ⟨?_, rfl⟩
          · (first | (exfalso; omega) | (first | (rw [← h2, we_out (by omega)]) | (rw [← h2, we_s (by omega), if_neg (by assumption)]; done)))
  refine s_locs (lv' := [(0, .ref b), (2, .int (iI i0))]) [1, 0] rfl ?_
  exact lp _ i0 (by omega) (rfl) (Nat.lt_succ_self _)
set_option maxRecDepth 100000 in
set_option maxHeartbeats 4000000 in
theorem c_X1_firstNotWhite (l : Launch) (G : GX) (b : Nat) (a : Nat) (n : Int) (rd : Int) (e : Int) (B : Nat → Nat) (hn : 0 ≤ n ∧ n ≤ 3000) (hBb : ∀ j, B j < 256) (hi : 0 ≤ rd ∧ rd ≤ n) : CtI l G yX1_firstNotWhite cX1_firstNotWhite 4 (some .int) ({ frames := 2, cells := 0, slots := 0, locals := 42 } : Room) [.ref b] [oBy b a n rd e, aB G a 3000 B] (fun (z9 : Int) (w9 : va_W) => z9 = (fw B n rd 0) ∧ w9 = [oBy b a n rd e, aB G a 3000 B]) := by
  intro sz
  refine met_of (fun wc sz => va_Qi (qI _) (posW G wc sz) (va_A wc sz)) (by decide) [(0, .ref b)] rfl (Nat.le_of_ble_eq_true rfl) (fun K hK9 hnm X Y => ?_)
  subst hK9
  replace Y : RI K G (some .int) 0 0 _ := Y
  refine s_iconst X dX1_firstNotWhite_0 ?_
  refine s_istore_n X dX1_firstNotWhite_1 rfl [(1, .int (iI 0)), (0, .ref b)] (by decide) rfl ?_
  refine s_aload_n X dX1_firstNotWhite_2 rfl 1 rfl ?_
  refine s_get X dX1_firstNotWhite_3 fl_X1_19 0 rfl rfl ?_
  refine s_istore_n X dX1_firstNotWhite_6 rfl [(2, .int (iI rd)), (1, .int (iI 0)), (0, .ref b)] (by decide) rfl ?_
  have lp : ∀ (m9 : Nat) (i : Int) (c : Int) (h1 : rd ≤ i ∧ i ≤ n ∧ (c = 0 ∨ c = 1)) (h2 : fw B n i c = fw B n rd 0), (n - i).toNat < m9 → SW K G 4 0 0 7 [(0, .ref b), (1, .int (iI c)), (2, .int (iI i))] [] [oBy b a n rd e, aB G a 3000 B] := by
    intro m9
    induction m9 with
    | zero => intro i c h1 h2 hm9; exact absurd hm9 (Nat.not_lt_zero _)
    | succ m9 ih9 =>
      intro i c h1 h2 hm9
      refine s_iload_n X dX1_firstNotWhite_7 rfl 2 rfl ?_
      refine s_aload_n X dX1_firstNotWhite_8 rfl 0 rfl ?_
      refine s_get X dX1_firstNotWhite_9 fl_X1_15 0 rfl rfl ?_
      refine s_icmp_ge X 82 dX1_firstNotWhite_12 (by decide) (by omega) (fun c12 => ?_) (fun c12 => ?_)
      · refine s_aload_n X dX1_firstNotWhite_82 rfl 0 rfl ?_
        refine s_get X dX1_firstNotWhite_83 fl_X1_15 0 rfl rfl ?_
        refine s_iret X Y dX1_firstNotWhite_86 (rfl) ?_
        refine ⟨?_, rfl⟩
        · (first | (exfalso; omega) | (first | (rw [← h2, fw_out (by omega)]) | (rw [← h2, fw_s (by omega), show cmt c (bA B n i) = 0 from by (unfold cmt; (repeat' split) <;> omega), if_pos (by omega)])))
      · refine s_aload_n X dX1_firstNotWhite_15 rfl 0 rfl ?_
        refine s_iload_n X dX1_firstNotWhite_16 rfl 2 rfl ?_
        refine s_callIV X lk_X1_30 [0, 1] [] (wr := []) rfl rfl (by decide) (by decide) (by decide) (c_X1_at (kl K) G b a n rd e B i (by assumption) (by assumption) (by omega)) rfl rfl dX1_firstNotWhite_17 rfl rfl (Nat.le_of_ble_eq_true rfl) (by decide) (fun z1 w1 h1 => ?_)
        obtain ⟨rfl, rfl⟩ := h1
        show SW K G 4 0 0 20 [(0, .ref b), (1, .int (iI c)), (2, .int (iI i))] [.int (iI (bA B n i))] [oBy b a n rd e, aB G a 3000 B]
        have q2 := bA_C n i (by assumption : ∀ j, B j < 256)
        refine s_istore_n X dX1_firstNotWhite_20 rfl [(3, .int (iI (bA B n i))), (0, .ref b), (1, .int (iI c)), (2, .int (iI i))] (by decide) rfl ?_
        refine s_iload_n X dX1_firstNotWhite_21 rfl 2 rfl ?_
        refine s_if_eq X 51 dX1_firstNotWhite_22 (by decide) (by omega) (fun c22 => ?_) (fun c22 => ?_)
        · refine s_iload_n X dX1_firstNotWhite_51 rfl 0 rfl ?_
          refine s_bipush 37 X dX1_firstNotWhite_52 (by decide) ?_
          refine s_icmp_ne X 61 dX1_firstNotWhite_54 (by decide) (by omega) (fun c54 => ?_) (fun c54 => ?_)
          · refine s_iconst X dX1_firstNotWhite_61 ?_
            refine s_istore_n X dX1_firstNotWhite_62 rfl [(1, .int (iI 0)), (3, .int (iI (bA B n i))), (0, .ref b), (2, .int (iI i))] (by decide) rfl ?_
            refine s_iload_n X dX1_firstNotWhite_63 rfl 0 rfl ?_
            refine s_if_ne X 76 dX1_firstNotWhite_64 (by decide) (by omega) (fun c64 => ?_) (fun c64 => ?_)
            · refine s_iinc (z := i + 1) X dX1_firstNotWhite_76 3 rfl (by first | rfl | omega) [(2, .int (iI (i + 1))), (1, .int (iI 0)), (3, .int (iI (bA B n i))), (0, .ref b)] (by decide) rfl ?_
              refine s_goto X 7 dX1_firstNotWhite_79 (by decide) ?_
              refine s_locs (lv' := [(0, .ref b), (1, .int (iI 0)), (2, .int (iI (i + 1)))]) [3, 1, 0] rfl ?_
              exact ih9 (i + 1) 0 (by omega) (by rw [← h2, fw_s (i := i) (by omega), show cmt c (bA B n i) = 0 from by (unfold cmt; (repeat' split) <;> omega), if_neg (by omega)]) (by omega)
            · refine s_iload_n X dX1_firstNotWhite_67 rfl 1 rfl ?_
              refine s_callIS X lk_X1_34 [] [0, 1] (wr := [oBy b a n rd e, aB G a 3000 B]) rfl rfl (by decide) (by decide) (by decide) (c_X1_isWhite (kl K) G (bA B n i) (by omega)) dX1_firstNotWhite_68 rfl rfl (Nat.le_of_ble_eq_true rfl) (by decide) (fun z3 w3 h3 => ?_)
              obtain ⟨rfl, rfl⟩ := h3
              show SW K G 4 0 0 71 [(1, .int (iI 0)), (3, .int (iI (bA B n i))), (0, .ref b), (2, .int (iI i))] [.int (iI (tf (isW (bA B n i))))] [oBy b a n rd e, aB G a 3000 B]
              refine s_tf_ne X 76 dX1_firstNotWhite_71 (by decide) (fun c71 => ?_) (fun c71 => ?_)
              · refine s_iinc (z := i + 1) X dX1_firstNotWhite_76 3 rfl (by first | rfl | omega) [(2, .int (iI (i + 1))), (1, .int (iI 0)), (3, .int (iI (bA B n i))), (0, .ref b)] (by decide) rfl ?_
                refine s_goto X 7 dX1_firstNotWhite_79 (by decide) ?_
                refine s_locs (lv' := [(0, .ref b), (1, .int (iI 0)), (2, .int (iI (i + 1)))]) [3, 1, 0] rfl ?_
                exact ih9 (i + 1) 0 (by omega) (by rw [← h2, fw_s (i := i) (by omega), show cmt c (bA B n i) = 0 from by (unfold cmt; (repeat' split) <;> omega), if_neg (by omega)]) (by omega)
              · refine s_iload_n X dX1_firstNotWhite_74 rfl 3 rfl ?_
                refine s_iret X Y dX1_firstNotWhite_75 (rfl) ?_
                refine ⟨?_, rfl⟩
                · (first | (exfalso; omega) | (first | (rw [← h2, fw_out (by omega)]) | (rw [← h2, fw_s (by omega), show cmt c (bA B n i) = 0 from by (unfold cmt; (repeat' split) <;> omega), if_pos (by omega)])))
          · refine s_iconst X dX1_firstNotWhite_57 ?_
            refine s_goto X 62 dX1_firstNotWhite_58 (by decide) ?_
            refine s_istore_n X dX1_firstNotWhite_62 rfl [(1, .int (iI 1)), (3, .int (iI (bA B n i))), (0, .ref b), (2, .int (iI i))] (by decide) rfl ?_
            refine s_iload_n X dX1_firstNotWhite_63 rfl 0 rfl ?_
            refine s_if_ne X 76 dX1_firstNotWhite_64 (by decide) (by omega) (fun c64 => ?_) (fun c64 => ?_)
            · refine s_iinc (z := i + 1) X dX1_firstNotWhite_76 3 rfl (by first | rfl | omega) [(2, .int (iI (i + 1))), (1, .int (iI 1)), (3, .int (iI (bA B n i))), (0, .ref b)] (by decide) rfl ?_
              refine s_goto X 7 dX1_firstNotWhite_79 (by decide) ?_
              refine s_locs (lv' := [(0, .ref b), (1, .int (iI 1)), (2, .int (iI (i + 1)))]) [3, 1, 0] rfl ?_
              exact ih9 (i + 1) 1 (by omega) (by rw [← h2, fw_s (i := i) (by omega), show cmt c (bA B n i) = 1 from by (unfold cmt; (repeat' split) <;> omega), if_neg (by omega)]) (by omega)
            · refine s_iload_n X dX1_firstNotWhite_67 rfl 1 rfl ?_
              refine s_callIS X lk_X1_34 [] [0, 1] (wr := [oBy b a n rd e, aB G a 3000 B]) rfl rfl (by decide) (by decide) (by decide) (c_X1_isWhite (kl K) G (bA B n i) (by omega)) dX1_firstNotWhite_68 rfl rfl (Nat.le_of_ble_eq_true rfl) (by decide) (fun z4 w4 h4 => ?_)
              obtain ⟨rfl, rfl⟩ := h4
              show SW K G 4 0 0 71 [(1, .int (iI 1)), (3, .int (iI (bA B n i))), (0, .ref b), (2, .int (iI i))] [.int (iI (tf (isW (bA B n i))))] [oBy b a n rd e, aB G a 3000 B]
              refine s_tf_ne X 76 dX1_firstNotWhite_71 (by decide) (fun c71 => ?_) (fun c71 => ?_)
              · refine s_iinc (z := i + 1) X dX1_firstNotWhite_76 3 rfl (by first | rfl | omega) [(2, .int (iI (i + 1))), (1, .int (iI 1)), (3, .int (iI (bA B n i))), (0, .ref b)] (by decide) rfl ?_
                refine s_goto X 7 dX1_firstNotWhite_79 (by decide) ?_
                refine s_locs (lv' := [(0, .ref b), (1, .int (iI 1)), (2, .int (iI (i + 1)))]) [3, 1, 0] rfl ?_
                exact ih9 (i + 1) 1 (by omega) (by rw [← h2, fw_s (i := i) (by omega), show cmt c (bA B n i) = 1 from by (unfold cmt; (repeat' split) <;> omega), if_neg (by omega)]) (by omega)
              · refine s_iload_n X dX1_firstNotWhite_74 rfl 3 rfl ?_
                refine s_iret X Y dX1_firstNotWhite_75 (rfl) ?_
                refine ⟨?_, rfl⟩
                · (first | (exfalso; omega) | (first | (rw [← h2, fw_out (by omega)]) | (rw [← h2, fw_s (by omega), show cmt c (bA B n i) = 0 from by (unfold cmt; (repeat' split) <;> omega), if_pos (by omega)])))
        · refine s_iload_n X dX1_firstNotWhite_25 rfl 0 rfl ?_
          refine s_bipush 10 X dX1_firstNotWhite_26 (by decide) ?_
          refine s_icmp_eq X 47 dX1_firstNotWhite_28 (by decide) (by omega) (fun c28 => ?_) (fun c28 => ?_)
          · refine s_iconst X dX1_firstNotWhite_47 ?_
            refine s_goto X 62 dX1_firstNotWhite_48 (by decide) ?_
            refine s_istore_n X dX1_firstNotWhite_62 rfl [(1, .int (iI 0)), (3, .int (iI (bA B n i))), (0, .ref b), (2, .int (iI i))] (by decide) rfl ?_
            refine s_iload_n X dX1_firstNotWhite_63 rfl 0 rfl ?_
            refine s_if_ne X 76 dX1_firstNotWhite_64 (by decide) (by omega) (fun c64 => ?_) (fun c64 => ?_)
            · refine s_iinc (z := i + 1) X dX1_firstNotWhite_76 3 rfl (by first | rfl | omega) [(2, .int (iI (i + 1))), (1, .int (iI 0)), (3, .int (iI (bA B n i))), (0, .ref b)] (by decide) rfl ?_
              refine s_goto X 7 dX1_firstNotWhite_79 (by decide) ?_
              refine s_locs (lv' := [(0, .ref b), (1, .int (iI 0)), (2, .int (iI (i + 1)))]) [3, 1, 0] rfl ?_
              exact ih9 (i + 1) 0 (by omega) (by rw [← h2, fw_s (i := i) (by omega), show cmt c (bA B n i) = 0 from by (unfold cmt; (repeat' split) <;> omega), if_neg (by omega)]) (by omega)
            · refine s_iload_n X dX1_firstNotWhite_67 rfl 1 rfl ?_
              refine s_callIS X lk_X1_34 [] [0, 1] (wr := [oBy b a n rd e, aB G a 3000 B]) rfl rfl (by decide) (by decide) (by decide) (c_X1_isWhite (kl K) G (bA B n i) (by omega)) dX1_firstNotWhite_68 rfl rfl (Nat.le_of_ble_eq_true rfl) (by decide) (fun z5 w5 h5 => ?_)
              obtain ⟨rfl, rfl⟩ := h5
              show SW K G 4 0 0 71 [(1, .int (iI 0)), (3, .int (iI (bA B n i))), (0, .ref b), (2, .int (iI i))] [.int (iI (tf (isW (bA B n i))))] [oBy b a n rd e, aB G a 3000 B]
              refine s_tf_ne X 76 dX1_firstNotWhite_71 (by decide) (fun c71 => ?_) (fun c71 => ?_)
              · refine s_iinc (z := i + 1) X dX1_firstNotWhite_76 3 rfl (by first | rfl | omega) [(2, .int (iI (i + 1))), (1, .int (iI 0)), (3, .int (iI (bA B n i))), (0, .ref b)] (by decide) rfl ?_
                refine s_goto X 7 dX1_firstNotWhite_79 (by decide) ?_
                refine s_locs (lv' := [(0, .ref b), (1, .int (iI 0)), (2, .int (iI (i + 1)))]) [3, 1, 0] rfl ?_
                exact ih9 (i + 1) 0 (by omega) (by rw [← h2, fw_s (i := i) (by omega), show cmt c (bA B n i) = 0 from by (unfold cmt; (repeat' split) <;> omega), if_neg (by omega)]) (by omega)
              · refine s_iload_n X dX1_firstNotWhite_74 rfl 3 rfl ?_
                refine s_iret X Y dX1_firstNotWhite_75 (rfl) ?_
                refine ⟨?_, rfl⟩
                · (first | (exfalso; omega) | (first | (rw [← h2, fw_out (by omega)]) | (rw [← h2, fw_s (by omega), show cmt c (bA B n i) = 0 from by (unfold cmt; (repeat' split) <;> omega), if_pos (by omega)])))
          · refine s_iload_n X dX1_firstNotWhite_31 rfl 0 rfl ?_
            refine s_bipush 12 X dX1_firstNotWhite_32 (by decide) ?_
            refine s_icmp_eq X 47 dX1_firstNotWhite_34 (by decide) (by omega) (fun c34 => ?_) (fun c34 => ?_)
            · refine s_iconst X dX1_firstNotWhite_47 ?_
              refine s_goto X 62 dX1_firstNotWhite_48 (by decide) ?_
              refine s_istore_n X dX1_firstNotWhite_62 rfl [(1, .int (iI 0)), (3, .int (iI (bA B n i))), (0, .ref b), (2, .int (iI i))] (by decide) rfl ?_
              refine s_iload_n X dX1_firstNotWhite_63 rfl 0 rfl ?_
              refine s_if_ne X 76 dX1_firstNotWhite_64 (by decide) (by omega) (fun c64 => ?_) (fun c64 => ?_)
              · refine s_iinc (z := i + 1) X dX1_firstNotWhite_76 3 rfl (by first | rfl | omega) [(2, .int (iI (i + 1))), (1, .int (iI 0)), (3, .int (iI (bA B n i))), (0, .ref b)] (by decide) rfl ?_
                refine s_goto X 7 dX1_firstNotWhite_79 (by decide) ?_
                refine s_locs (lv' := [(0, .ref b), (1, .int (iI 0)), (2, .int (iI (i + 1)))]) [3, 1, 0] rfl ?_
                exact ih9 (i + 1) 0 (by omega) (by rw [← h2, fw_s (i := i) (by omega), show cmt c (bA B n i) = 0 from by (unfold cmt; (repeat' split) <;> omega), if_neg (by omega)]) (by omega)
              · refine s_iload_n X dX1_firstNotWhite_67 rfl 1 rfl ?_
                refine s_callIS X lk_X1_34 [] [0, 1] (wr := [oBy b a n rd e, aB G a 3000 B]) rfl rfl (by decide) (by decide) (by decide) (c_X1_isWhite (kl K) G (bA B n i) (by omega)) dX1_firstNotWhite_68 rfl rfl (Nat.le_of_ble_eq_true rfl) (by decide) (fun z6 w6 h6 => ?_)
                obtain ⟨rfl, rfl⟩ := h6
                show SW K G 4 0 0 71 [(1, .int (iI 0)), (3, .int (iI (bA B n i))), (0, .ref b), (2, .int (iI i))] [.int (iI (tf (isW (bA B n i))))] [oBy b a n rd e, aB G a 3000 B]
                refine s_tf_ne X 76 dX1_firstNotWhite_71 (by decide) (fun c71 => ?_) (fun c71 => ?_)
                · refine s_iinc (z := i + 1) X dX1_firstNotWhite_76 3 rfl (by first | rfl | omega) [(2, .int (iI (i + 1))), (1, .int (iI 0)), (3, .int (iI (bA B n i))), (0, .ref b)] (by decide) rfl ?_
                  refine s_goto X 7 dX1_firstNotWhite_79 (by decide) ?_
                  refine s_locs (lv' := [(0, .ref b), (1, .int (iI 0)), (2, .int (iI (i + 1)))]) [3, 1, 0] rfl ?_
                  exact ih9 (i + 1) 0 (by omega) (by rw [← h2, fw_s (i := i) (by omega), show cmt c (bA B n i) = 0 from by (unfold cmt; (repeat' split) <;> omega), if_neg (by omega)]) (by omega)
                · refine s_iload_n X dX1_firstNotWhite_74 rfl 3 rfl ?_
                  refine s_iret X Y dX1_firstNotWhite_75 (rfl) ?_
                  refine ⟨?_, rfl⟩
                  · (first | (exfalso; omega) | (first | (rw [← h2, fw_out (by omega)]) | (rw [← h2, fw_s (by omega), show cmt c (bA B n i) = 0 from by (unfold cmt; (repeat' split) <;> omega), if_pos (by omega)])))
            · refine s_iload_n X dX1_firstNotWhite_37 rfl 0 rfl ?_
              refine s_bipush 13 X dX1_firstNotWhite_38 (by decide) ?_
              refine s_icmp_eq X 47 dX1_firstNotWhite_40 (by decide) (by omega) (fun c40 => ?_) (fun c40 => ?_)
              · refine s_iconst X dX1_firstNotWhite_47 ?_
                refine s_goto X 62 dX1_firstNotWhite_48 (by decide) ?_
                refine s_istore_n X dX1_firstNotWhite_62 rfl [(1, .int (iI 0)), (3, .int (iI (bA B n i))), (0, .ref b), (2, .int (iI i))] (by decide) rfl ?_
                refine s_iload_n X dX1_firstNotWhite_63 rfl 0 rfl ?_
                refine s_if_ne X 76 dX1_firstNotWhite_64 (by decide) (by omega) (fun c64 => ?_) (fun c64 => ?_)
                · refine s_iinc (z := i + 1) X dX1_firstNotWhite_76 3 rfl (by first | rfl | omega) [(2, .int (iI (i + 1))), (1, .int (iI 0)), (3, .int (iI (bA B n i))), (0, .ref b)] (by decide) rfl ?_
                  refine s_goto X 7 dX1_firstNotWhite_79 (by decide) ?_
                  refine s_locs (lv' := [(0, .ref b), (1, .int (iI 0)), (2, .int (iI (i + 1)))]) [3, 1, 0] rfl ?_
                  exact ih9 (i + 1) 0 (by omega) (by rw [← h2, fw_s (i := i) (by omega), show cmt c (bA B n i) = 0 from by (unfold cmt; (repeat' split) <;> omega), if_neg (by omega)]) (by omega)
                · refine s_iload_n X dX1_firstNotWhite_67 rfl 1 rfl ?_
                  refine s_callIS X lk_X1_34 [] [0, 1] (wr := [oBy b a n rd e, aB G a 3000 B]) rfl rfl (by decide) (by decide) (by decide) (c_X1_isWhite (kl K) G (bA B n i) (by omega)) dX1_firstNotWhite_68 rfl rfl (Nat.le_of_ble_eq_true rfl) (by decide) (fun z7 w7 h7 => ?_)
                  obtain ⟨rfl, rfl⟩ := h7
                  show SW K G 4 0 0 71 [(1, .int (iI 0)), (3, .int (iI (bA B n i))), (0, .ref b), (2, .int (iI i))] [.int (iI (tf (isW (bA B n i))))] [oBy b a n rd e, aB G a 3000 B]
                  refine s_tf_ne X 76 dX1_firstNotWhite_71 (by decide) (fun c71 => ?_) (fun c71 => ?_)
                  · refine s_iinc (z := i + 1) X dX1_firstNotWhite_76 3 rfl (by first | rfl | omega) [(2, .int (iI (i + 1))), (1, .int (iI 0)), (3, .int (iI (bA B n i))), (0, .ref b)] (by decide) rfl ?_
                    refine s_goto X 7 dX1_firstNotWhite_79 (by decide) ?_
                    refine s_locs (lv' := [(0, .ref b), (1, .int (iI 0)), (2, .int (iI (i + 1)))]) [3, 1, 0] rfl ?_
                    exact ih9 (i + 1) 0 (by omega) (by rw [← h2, fw_s (i := i) (by omega), show cmt c (bA B n i) = 0 from by (unfold cmt; (repeat' split) <;> omega), if_neg (by omega)]) (by omega)
                  · refine s_iload_n X dX1_firstNotWhite_74 rfl 3 rfl ?_
                    refine s_iret X Y dX1_firstNotWhite_75 (rfl) ?_
                    refine ⟨?_, rfl⟩
                    · (first | (exfalso; omega) | (first | (rw [← h2, fw_out (by omega)]) | (rw [← h2, fw_s (by omega), show cmt c (bA B n i) = 0 from by (unfold cmt; (repeat' split) <;> omega), if_pos (by omega)])))
              · refine s_iconst X dX1_firstNotWhite_43 ?_
                refine s_goto X 62 dX1_firstNotWhite_44 (by decide) ?_
                refine s_istore_n X dX1_firstNotWhite_62 rfl [(1, .int (iI 1)), (3, .int (iI (bA B n i))), (0, .ref b), (2, .int (iI i))] (by decide) rfl ?_
                refine s_iload_n X dX1_firstNotWhite_63 rfl 0 rfl ?_
                refine s_if_ne X 76 dX1_firstNotWhite_64 (by decide) (by omega) (fun c64 => ?_) (fun c64 => ?_)
                · refine s_iinc (z := i + 1) X dX1_firstNotWhite_76 3 rfl (by first | rfl | omega) [(2, .int (iI (i + 1))), (1, .int (iI 1)), (3, .int (iI (bA B n i))), (0, .ref b)] (by decide) rfl ?_
                  refine s_goto X 7 dX1_firstNotWhite_79 (by decide) ?_
                  refine s_locs (lv' := [(0, .ref b), (1, .int (iI 1)), (2, .int (iI (i + 1)))]) [3, 1, 0] rfl ?_
                  exact ih9 (i + 1) 1 (by omega) (by rw [← h2, fw_s (i := i) (by omega), show cmt c (bA B n i) = 1 from by (unfold cmt; (repeat' split) <;> omega), if_neg (by omega)]) (by omega)
                · refine s_iload_n X dX1_firstNotWhite_67 rfl 1 rfl ?_
                  refine s_callIS X lk_X1_34 [] [0, 1] (wr := [oBy b a n rd e, aB G a 3000 B]) rfl rfl (by decide) (by decide) (by decide) (c_X1_isWhite (kl K) G (bA B n i) (by omega)) dX1_firstNotWhite_68 rfl rfl (Nat.le_of_ble_eq_true rfl) (by decide) (fun z8 w8 h8 => ?_)
                  obtain ⟨rfl, rfl⟩ := h8
                  show SW K G 4 0 0 71 [(1, .int (iI 1)), (3, .int (iI (bA B n i))), (0, .ref b), (2, .int (iI i))] [.int (iI (tf (isW (bA B n i))))] [oBy b a n rd e, aB G a 3000 B]
                  refine s_tf_ne X 76 dX1_firstNotWhite_71 (by decide) (fun c71 => ?_) (fun c71 => ?_)
                  · refine s_iinc (z := i + 1) X dX1_firstNotWhite_76 3 rfl (by first | rfl | omega) [(2, .int (iI (i + 1))), (1, .int (iI 1)), (3, .int (iI (bA B n i))), (0, .ref b)] (by decide) rfl ?_
                    refine s_goto X 7 dX1_firstNotWhite_79 (by decide) ?_
                    refine s_locs (lv' := [(0, .ref b), (1, .int (iI 1)), (2, .int (iI (i + 1)))]) [3, 1, 0] rfl ?_
                    exact ih9 (i + 1) 1 (by omega) (by rw [← h2, fw_s (i := i) (by omega), show cmt c (bA B n i) = 1 from by (unfold cmt; (repeat' split) <;> omega), if_neg (by omega)]) (by omega)
                  · refine s_iload_n X dX1_firstNotWhite_74 rfl 3 rfl ?_
                    refine s_iret X Y dX1_firstNotWhite_75 (rfl) ?_
                    refine ⟨?_, rfl⟩
                    · (first | (exfalso; omega) | (first | (rw [← h2, fw_out (by omega)]) | (rw [← h2, fw_s (by omega), show cmt c (bA B n i) = 0 from by (unfold cmt; (repeat' split) <;> omega), if_pos (by omega)])))
  refine s_locs (lv' := [(0, .ref b), (1, .int (iI 0)), (2, .int (iI rd))]) [2, 1, 0] rfl ?_
  exact lp _ rd 0 (by omega) (rfl) (Nat.lt_succ_self _)
set_option maxRecDepth 100000 in
set_option maxHeartbeats 4000000 in
theorem c_X1_lacking (l : Launch) (G : GX) (b : Nat) (a : Nat) (n : Int) (rd : Int) (e : Int) (k : Nat) (x : Nat) (i8 : Nat) (d8 : Nat) (pl : Int) (af : Int) (wh : Int) (len : Int) (ror : Int) (rl : Int) (re : UInt64) (he : R32 e) : CtI l G yX1_lacking cX1_lacking 2 (some .int) ({ frames := 0, cells := 0, slots := 0, locals := 0 } : Room) [.ref b, .ref k] [oBy b a n rd e, oTk k pl af wh re x len i8 d8 ror rl] (fun (z9 : Int) (w9 : va_W) => z9 = (if e = 0 then 0 else -7) ∧ w9 = [oBy b a n rd e, oTk k pl (if e = 0 then af else n) wh re x len i8 d8 ror rl]) := by
  intro sz
  refine met_of (fun wc sz => va_Qi (qI _) (posW G wc sz) (va_A wc sz)) (by decide) [(0, .ref b), (1, .ref k)] rfl (Nat.le_of_ble_eq_true rfl) (fun K hK9 hnm X Y => ?_)
  subst hK9
  replace Y : RI K G (some .int) 0 0 _ := Y
  refine s_aload_n X dX1_lacking_0 rfl 0 rfl ?_
  refine s_get X dX1_lacking_1 fl_X1_22 0 rfl rfl ?_
  refine s_if_ne X 9 dX1_lacking_4 (by decide) (by omega) (fun c4 => ?_) (fun c4 => ?_)
  · refine s_aload_n X dX1_lacking_9 rfl 1 rfl ?_
    refine s_aload_n X dX1_lacking_10 rfl 0 rfl ?_
    refine s_get X dX1_lacking_11 fl_X1_15 0 rfl rfl ?_
    refine s_put X dX1_lacking_14 fl_X1_40 tyX3_ok nmX3 1 rfl rfl (rfl) (rfl) (Nat.le_of_ble_eq_true rfl) [oBy b a n rd e, oTk k pl n wh re x len i8 d8 ror rl] rfl ?_
    refine s_bipush (-7) X dX1_lacking_17 (by decide) ?_
    refine s_iret X Y dX1_lacking_19 (rfl) ?_
    refine ⟨?_, ?_⟩
    · (first | (exfalso; omega) | (first | rfl | omega | simp [*]))
    · (first | (exfalso; omega) | (simp [*]))
  · refine s_iconst X dX1_lacking_7 ?_
    refine s_iret X Y dX1_lacking_8 (rfl) ?_
    refine ⟨?_, ?_⟩
    · (first | (exfalso; omega) | (first | rfl | omega | simp [*]))
    · (first | (exfalso; omega) | (simp [*]))
set_option maxRecDepth 100000 in
set_option maxHeartbeats 4000000 in
theorem c_X1_append (l : Launch) (G : GX) (b : Nat) (a : Nat) (n : Int) (rd : Int) (e : Int) (B : Nat → Nat) (v : Int) (hn : 0 ≤ n ∧ n ≤ 3000) : CtI l G yX1_append cX1_append 2 (some .boolean) ({ frames := 0, cells := 0, slots := 0, locals := 0 } : Room) [.ref b, .int (iI v)] [oBy b a n rd e, aB G a 3000 B] (fun (z9 : Int) (w9 : va_W) => z9 = (tf (n < 3000)) ∧ w9 = [oBy b a (if n < 3000 then n + 1 else n) rd e, aB G a 3000 (if n < 3000 then uB B n.toNat (by8 v) else B)]) := by
  intro sz
  refine met_of (fun wc sz => va_Qi (qI _) (posW G wc sz) (va_A wc sz)) (by decide) [(0, .ref b), (1, .int (iI v))] rfl (Nat.le_of_ble_eq_true rfl) (fun K hK9 hnm X Y => ?_)
  subst hK9
  replace Y : RI K G (some .boolean) 0 0 _ := Y
  refine s_aload_n X dX1_append_0 rfl 0 rfl ?_
  refine s_get X dX1_append_1 fl_X1_15 0 rfl rfl ?_
  refine s_aload_n X dX1_append_4 rfl 0 rfl ?_
  refine s_get X dX1_append_5 fl_X1_9 0 rfl rfl ?_
  refine s_alen (z := 3000) X dX1_append_8 1 0 rfl rfl rfl ?_
  refine s_icmp_lt X 14 dX1_append_9 (by decide) (by omega) (fun c9 => ?_) (fun c9 => ?_)
  · refine s_aload_n X dX1_append_14 rfl 0 rfl ?_
    refine s_get X dX1_append_15 fl_X1_9 0 rfl rfl ?_
    refine s_aload_n X dX1_append_18 rfl 0 rfl ?_
    refine s_get X dX1_append_19 fl_X1_15 0 rfl rfl ?_
    refine s_iload_n X dX1_append_22 rfl 1 rfl ?_
    refine s_bastI X dX1_append_23 1 rfl (by omega) [oBy b a n rd e, aB G a 3000 (uB B n.toNat (by8 v))] rfl ?_
    refine s_aload_n X dX1_append_24 rfl 0 rfl ?_
    refine s_dup X dX1_append_25 rfl ?_
    refine s_get X dX1_append_26 fl_X1_15 0 rfl rfl ?_
    refine s_iconst X dX1_append_29 ?_
    refine s_iadd X dX1_append_30 ?_
    refine s_put X dX1_append_31 fl_X1_15 tyX1_ok nmX1 0 rfl rfl (rfl) (rfl) (Nat.le_of_ble_eq_true rfl) [oBy b a (n + 1) rd e, aB G a 3000 (uB B n.toNat (by8 v))] rfl ?_
    refine s_iconst X dX1_append_34 ?_
    refine s_iret X Y dX1_append_35 (rfl) ?_
    refine ⟨?_, ?_⟩
    · (first | (exfalso; omega) | (first | exact (tf_t (by omega)).symm | exact (tf_f (by omega)).symm))
    · (first | (exfalso; omega) | (simp [show n < 3000 from by omega]) | (simp [show ¬ n < 3000 from by omega]))
  · refine s_iconst X dX1_append_12 ?_
    refine s_iret X Y dX1_append_13 (rfl) ?_
    refine ⟨?_, ?_⟩
    · (first | (exfalso; omega) | (first | exact (tf_t (by omega)).symm | exact (tf_f (by omega)).symm))
    · (first | (exfalso; omega) | (simp [show n < 3000 from by omega]) | (simp [show ¬ n < 3000 from by omega]))
set_option maxRecDepth 100000 in
set_option maxHeartbeats 4000000 in
theorem c_X1_forget (l : Launch) (G : GX) (b : Nat) (a : Nat) (n : Int) (rd : Int) (e : Int)  : CtV l G yX1_forget cX1_forget 1 none ({ frames := 0, cells := 0, slots := 0, locals := 0 } : Room) [.ref b] [oBy b a n rd e] (fun (w9 : va_W) => w9 = [oBy b a 0 0 0]) := by
  intro sz
  refine met_of (fun wc sz => va_Qv _ (posW G wc sz) (va_A wc sz)) (by decide) [(0, .ref b)] rfl (Nat.le_of_ble_eq_true rfl) (fun K hK9 hnm X Y => ?_)
  subst hK9
  replace Y : RV K G none 0 0 _ := Y
  refine s_aload_n X dX1_forget_0 rfl 0 rfl ?_
  refine s_iconst X dX1_forget_1 ?_
  refine s_put X dX1_forget_2 fl_X1_15 tyX1_ok nmX1 0 rfl rfl (rfl) (rfl) (Nat.le_of_ble_eq_true rfl) [oBy b a 0 rd e] rfl ?_
  refine s_aload_n X dX1_forget_5 rfl 0 rfl ?_
  refine s_iconst X dX1_forget_6 ?_
  refine s_put X dX1_forget_7 fl_X1_19 tyX1_ok nmX1 0 rfl rfl (rfl) (rfl) (Nat.le_of_ble_eq_true rfl) [oBy b a 0 0 e] rfl ?_
  refine s_aload_n X dX1_forget_10 rfl 0 rfl ?_
  refine s_iconst X dX1_forget_11 ?_
  refine s_put X dX1_forget_12 fl_X1_22 tyX1_ok nmX1 0 rfl rfl (rfl) (rfl) (Nat.le_of_ble_eq_true rfl) [oBy b a 0 0 0] rfl ?_
  refine s_vret X Y dX1_forget_15 ?_
  exact rfl
