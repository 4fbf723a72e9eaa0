set_option maxRecDepth 100000 in
set_option maxHeartbeats 4000000 in
theorem c_X0_signedAt (l : Launch) (G : GX) (s : Nat) (b : Nat) (a : Nat) (n : Int) (rd : Int) (e : Int) (B : Nat → Nat) (i : Int) (w : Int) (lf : Int) (hn : 0 ≤ n ∧ n ≤ 3000) (hBb : ∀ j, B j < 256) (hi : 0 ≤ i ∧ i + w ≤ n) (hw : w = 1 ∨ w = 2 ∨ w = 4) (hlf : lf = 0 ∨ lf = 1) : CtI l G yX0_signedAt cX0_signedAt 6 (some .int) ({ frames := 2, cells := 0, slots := 0, locals := 42 } : Room) [.ref s, .int (iI i), .int (iI w), .int (iI lf)] [oBi s b, oBy b a n rd e, aB G a 3000 B] (fun (z9 : Int) (w9 : va_W) => z9 = (nmb B n i w lf) ∧ w9 = [oBi s b, oBy b a n rd e, aB G a 3000 B]) := by
  intro sz
  refine met_of (fun wc sz => va_Qi (qI _) (posW G wc sz) (va_A wc sz)) (by decide) [(0, .ref s), (1, .int (iI i)), (2, .int (iI w)), (3, .int (iI lf))] rfl (Nat.le_of_ble_eq_true rfl) (fun K hK9 hnm X Y => ?_)
  subst hK9
  replace Y : RI K G (some .int) 0 0 _ := Y
  refine s_iconst X dX0_signedAt_0 ?_
  refine s_istore X dX0_signedAt_1 [(4, .int (iI 0)), (0, .ref s), (1, .int (iI i)), (2, .int (iI w)), (3, .int (iI lf))] (by decide) rfl ?_
  refine s_iconst X dX0_signedAt_3 ?_
  refine s_istore X dX0_signedAt_4 [(5, .int (iI 0)), (4, .int (iI 0)), (0, .ref s), (1, .int (iI i)), (2, .int (iI w)), (3, .int (iI lf))] (by decide) rfl ?_
  have lp : ∀ (m9 : Nat) (v : Int) (q : Int) (h1 : 0 ≤ q ∧ q ≤ w) (hv : (q = 0 ∧ v = 0) ∨ (q = 1 ∧ 0 ≤ v ∧ v < 256) ∨ (q = 2 ∧ 0 ≤ v ∧ v < 65536) ∨ (q = 3 ∧ 0 ≤ v ∧ v < 16777216) ∨ (q = 4 ∧ 0 ≤ v ∧ v < 4294967296)) (h2 : v = uu B n i w lf q.toNat), (w - q).toNat < m9 → SW K G 6 0 0 6 [(4, .int (iI v)), (5, .int (iI q)), (0, .ref s), (1, .int (iI i)), (2, .int (iI w)), (3, .int (iI lf))] [] [oBi s b, oBy b a n rd e, aB G a 3000 B] := by
    intro m9
    induction m9 with
    | zero => intro v q h1 hv h2 hm9; exact absurd hm9 (Nat.not_lt_zero _)
    | succ m9 ih9 =>
      intro v q h1 hv h2 hm9
      refine s_iload X dX0_signedAt_6 1 rfl ?_
      refine s_iload_n X dX0_signedAt_8 rfl 4 rfl ?_
      refine s_icmp_ge X 52 dX0_signedAt_9 (by decide) (by omega) (fun c9 => ?_) (fun c9 => ?_)
      · have hvw : uR w v := by omega
        have hqw : q = w := by omega
        refine s_bipush 32 X dX0_signedAt_52 (by decide) ?_
        refine s_bipush 8 X dX0_signedAt_54 (by decide) ?_
        refine s_iload_n X dX0_signedAt_56 rfl 4 rfl ?_
        refine s_imul X dX0_signedAt_57 ?_
        refine s_isub X dX0_signedAt_58 ?_
        refine s_istore X dX0_signedAt_59 [(5, .int (iI (32 - (8 * w)))), (4, .int (iI v)), (0, .ref s), (1, .int (iI i)), (2, .int (iI w)), (3, .int (iI lf))] (by decide) rfl ?_
        refine s_iload X dX0_signedAt_61 1 rfl ?_
        refine s_iload X dX0_signedAt_63 0 rfl ?_
        refine s_ishl (z := shv w v) X dX0_signedAt_65 (by exact shl_w hw) ?_
        refine s_iload X dX0_signedAt_66 0 rfl ?_
        refine s_ishr (z := sgn w v) X dX0_signedAt_68 (by exact shr_w hvw) ?_
        refine s_iret X Y dX0_signedAt_69 (rfl) ?_
        refine ⟨?_, rfl⟩
        · (first | (exfalso; omega) | (unfold nmb; rw [h2, hqw]))
      · refine s_iload X dX0_signedAt_12 0 rfl ?_
        refine s_bipush 8 X dX0_signedAt_14 (by decide) ?_
        refine s_ishl (z := v * 256) X dX0_signedAt_16 (by exact shl8 _) ?_
        refine s_aload_n X dX0_signedAt_17 rfl 2 rfl ?_
        refine s_get X dX0_signedAt_18 fl_X0_9 0 rfl rfl ?_
        refine s_iload_n X dX0_signedAt_21 rfl 5 rfl ?_
        refine s_if_eq X 36 dX0_signedAt_22 (by decide) (by omega) (fun c22 => ?_) (fun c22 => ?_)
        · refine s_iload_n X dX0_signedAt_36 rfl 3 rfl ?_
          refine s_iload X dX0_signedAt_37 1 rfl ?_
          refine s_iadd X dX0_signedAt_39 ?_
          refine s_callIV X lk_X0_69 [1, 2] [0] (wr := [oBi s b]) rfl rfl (by decide) (by decide) (by decide) (c_X1_at (kl K) G b a n rd e B (i + q) (by assumption) (by assumption) (by omega)) rfl rfl dX0_signedAt_40 rfl rfl (Nat.le_of_ble_eq_true rfl) (by decide) (fun z1 w1 h1 => ?_)
          obtain ⟨rfl, rfl⟩ := h1
          show SW K G 6 0 0 43 [(4, .int (iI v)), (5, .int (iI q)), (0, .ref s), (1, .int (iI i)), (2, .int (iI w)), (3, .int (iI lf))] [.int (iI (bA B n (i + q))), .int (iI (v * 256))] [oBi s b, oBy b a n rd e, aB G a 3000 B]
          have q2 := bA_C n (i + q) (by assumption : ∀ j, B j < 256)
          refine s_ior (z := v * 256 + bA B n (i + q)) X dX0_signedAt_43 (by exact or8 (by omega) (by omega)) ?_
          refine s_istore X dX0_signedAt_44 [(4, .int (iI (v * 256 + bA B n (i + q)))), (5, .int (iI q)), (0, .ref s), (1, .int (iI i)), (2, .int (iI w)), (3, .int (iI lf))] (by decide) rfl ?_
          refine s_iinc (z := q + 1) X dX0_signedAt_46 1 rfl (by first | rfl | omega) [(5, .int (iI (q + 1))), (4, .int (iI (v * 256 + bA B n (i + q)))), (0, .ref s), (1, .int (iI i)), (2, .int (iI w)), (3, .int (iI lf))] (by decide) rfl ?_
          refine s_goto X 6 dX0_signedAt_49 (by decide) ?_
          refine s_locs (lv' := [(4, .int (iI (v * 256 + bA B n (i + q)))), (5, .int (iI (q + 1))), (0, .ref s), (1, .int (iI i)), (2, .int (iI w)), (3, .int (iI lf))]) [1, 0, 2, 3, 4, 5] rfl ?_
          exact ih9 (v * 256 + bA B n (i + q)) (q + 1) (by omega) (by omega) (by rw [h2, uu_s h1.1]; first | rw [if_pos (by omega)] | rw [if_neg (by omega)]) (by omega)
        · refine s_iload_n X dX0_signedAt_25 rfl 3 rfl ?_
          refine s_iload_n X dX0_signedAt_26 rfl 4 rfl ?_
          refine s_iadd X dX0_signedAt_27 ?_
          refine s_iconst X dX0_signedAt_28 ?_
          refine s_isub X dX0_signedAt_29 ?_
          refine s_iload X dX0_signedAt_30 1 rfl ?_
          refine s_isub X dX0_signedAt_32 ?_
          refine s_goto X 40 dX0_signedAt_33 (by decide) ?_
          refine s_callIV X lk_X0_69 [1, 2] [0] (wr := [oBi s b]) rfl rfl (by decide) (by decide) (by decide) (c_X1_at (kl K) G b a n rd e B (((i + w) - 1) - q) (by assumption) (by assumption) (by omega)) rfl rfl dX0_signedAt_40 rfl rfl (Nat.le_of_ble_eq_true rfl) (by decide) (fun z3 w3 h3 => ?_)
          obtain ⟨rfl, rfl⟩ := h3
          show SW K G 6 0 0 43 [(4, .int (iI v)), (5, .int (iI q)), (0, .ref s), (1, .int (iI i)), (2, .int (iI w)), (3, .int (iI lf))] [.int (iI (bA B n (((i + w) - 1) - q))), .int (iI (v * 256))] [oBi s b, oBy b a n rd e, aB G a 3000 B]
          have q4 := bA_C n (((i + w) - 1) - q) (by assumption : ∀ j, B j < 256)
          refine s_ior (z := v * 256 + bA B n (((i + w) - 1) - q)) X dX0_signedAt_43 (by exact or8 (by omega) (by omega)) ?_
          refine s_istore X dX0_signedAt_44 [(4, .int (iI (v * 256 + bA B n (((i + w) - 1) - q)))), (5, .int (iI q)), (0, .ref s), (1, .int (iI i)), (2, .int (iI w)), (3, .int (iI lf))] (by decide) rfl ?_
          refine s_iinc (z := q + 1) X dX0_signedAt_46 1 rfl (by first | rfl | omega) [(5, .int (iI (q + 1))), (4, .int (iI (v * 256 + bA B n (((i + w) - 1) - q)))), (0, .ref s), (1, .int (iI i)), (2, .int (iI w)), (3, .int (iI lf))] (by decide) rfl ?_
          refine s_goto X 6 dX0_signedAt_49 (by decide) ?_
          refine s_locs (lv' := [(4, .int (iI (v * 256 + bA B n (((i + w) - 1) - q)))), (5, .int (iI (q + 1))), (0, .ref s), (1, .int (iI i)), (2, .int (iI w)), (3, .int (iI lf))]) [1, 0, 2, 3, 4, 5] rfl ?_
          exact ih9 (v * 256 + bA B n (((i + w) - 1) - q)) (q + 1) (by omega) (by omega) (by rw [h2, uu_s h1.1]; first | rw [if_pos (by omega)] | rw [if_neg (by omega)]) (by omega)
  refine s_locs (lv' := [(4, .int (iI 0)), (5, .int (iI 0)), (0, .ref s), (1, .int (iI i)), (2, .int (iI w)), (3, .int (iI lf))]) [1, 0, 2, 3, 4, 5] rfl ?_
  exact lp _ 0 0 (by omega) (by omega) (rfl) (Nat.lt_succ_self _)
set_option maxRecDepth 100000 in
set_option maxHeartbeats 4000000 in
theorem c_X0_countAt (l : Launch) (G : GX) (s : Nat) (b : Nat) (a : Nat) (n : Int) (rd : Int) (e : Int) (B : Nat → Nat) (i : Int) (w : Int) (lf : Int) (hn : 0 ≤ n ∧ n ≤ 3000) (hBb : ∀ j, B j < 256) (hi : 0 ≤ i ∧ i + w ≤ n) (hw : w = 1 ∨ w = 2) (hlf : lf = 0 ∨ lf = 1) : CtI l G yX0_countAt cX0_countAt 4 (some .int) ({ frames := 3, cells := 0, slots := 0, locals := 67 } : Room) [.ref s, .int (iI i), .int (iI w), .int (iI lf)] [oBi s b, oBy b a n rd e, aB G a 3000 B] (fun (z9 : Int) (w9 : va_W) => z9 = (uu B n i w lf w.toNat) ∧ w9 = [oBi s b, oBy b a n rd e, aB G a 3000 B]) := by
  intro sz
  refine met_of (fun wc sz => va_Qi (qI _) (posW G wc sz) (va_A wc sz)) (by decide) [(0, .ref s), (1, .int (iI i)), (2, .int (iI w)), (3, .int (iI lf))] rfl (Nat.le_of_ble_eq_true rfl) (fun K hK9 hnm X Y => ?_)
  subst hK9
  replace Y : RI K G (some .int) 0 0 _ := Y
  refine s_aload_n X dX0_countAt_0 rfl 0 rfl ?_
  refine s_iload_n X dX0_countAt_1 rfl 1 rfl ?_
  refine s_iload_n X dX0_countAt_2 rfl 2 rfl ?_
  refine s_iload_n X dX0_countAt_3 rfl 3 rfl ?_
  refine s_callIV X lk_X0_61 [0, 1, 2] [] (wr := []) rfl rfl (by decide) (by decide) (by decide) (c_X0_signedAt (kl K) G s b a n rd e B i w lf (by assumption) (by assumption) (by omega) (by omega) (by omega)) rfl rfl dX0_countAt_4 rfl rfl (Nat.le_of_ble_eq_true rfl) (by decide) (fun z1 w1 h1 => ?_)
  obtain ⟨rfl, rfl⟩ := h1
  show SW K G 4 0 0 7 [(0, .ref s), (1, .int (iI i)), (2, .int (iI w)), (3, .int (iI lf))] [.int (iI (nmb B n i w lf))] [oBi s b, oBy b a n rd e, aB G a 3000 B]
  have q2 := nmb_R (B := B) (n := n) (i := i) (w := w) (lf := lf) (by assumption) (by omega) (by omega) (by omega)
  refine s_iload_n X dX0_countAt_7 rfl 2 rfl ?_
  refine s_iconst X dX0_countAt_8 ?_
  have hu := uu_R (B := B) (n := n) (i := i) (w := w) (lf := lf) hBb hi (by omega) hlf
  have hm := sgn_mod hu
  refine s_icmp_ne X 18 dX0_countAt_9 (by decide) (by omega) (fun c9 => ?_) (fun c9 => ?_)
  · refine s_ldc 65535 X dX0_countAt_18 tg339 (by decide) ?_
    refine s_iand (z := uu B n i w lf w.toNat) X dX0_countAt_20 (by unfold nmb; rw [iand65535, hm.2 (by omega)]) ?_
    refine s_iret X Y dX0_countAt_21 (rfl) ?_
    refine ⟨?_, rfl⟩
    · (first | (exfalso; omega) | (rfl))
  · refine s_sipush 255 X dX0_countAt_12 (by decide) ?_
    refine s_goto X 20 dX0_countAt_15 (by decide) ?_
    refine s_iand (z := uu B n i w lf w.toNat) X dX0_countAt_20 (by unfold nmb; rw [iand255, hm.1 (by omega)]) ?_
    refine s_iret X Y dX0_countAt_21 (rfl) ?_
    refine ⟨?_, rfl⟩
    · (first | (exfalso; omega) | (rfl))
set_option maxRecDepth 100000 in
set_option maxHeartbeats 4000000 in
theorem c_X0_widthOf (l : Launch) (G : GX) (f : Int) (hf : R32 f) : CtI l G yX0_widthOf cX0_widthOf 2 (some .int) ({ frames := 0, cells := 0, slots := 0, locals := 0 } : Room) [.int (iI f)] [] (fun (z9 : Int) (w9 : va_W) => z9 = (wO f) ∧ w9 = []) := by
  intro sz
  refine met_of (fun wc sz => va_Qi (qI _) (posW G wc sz) (va_A wc sz)) (by decide) [(0, .int (iI f))] rfl (Nat.le_of_ble_eq_true rfl) (fun K hK9 hnm X Y => ?_)
  subst hK9
  replace Y : RI K G (some .int) 0 0 _ := Y
  refine s_iload_n X dX0_widthOf_0 rfl 0 rfl ?_
  refine s_bipush 127 X dX0_widthOf_1 (by decide) ?_
  refine s_iand (z := f % 128) X dX0_widthOf_3 (by exact iand127 _) ?_
  refine s_istore_n X dX0_widthOf_4 rfl [(1, .int (iI (f % 128))), (0, .int (iI f))] (by decide) rfl ?_
  refine s_iload_n X dX0_widthOf_5 rfl 0 rfl ?_
  refine s_bipush 32 X dX0_widthOf_6 (by decide) ?_
  refine s_icmp_lt X 21 dX0_widthOf_8 (by decide) (by omega) (fun c8 => ?_) (fun c8 => ?_)
  · refine s_iconst X dX0_widthOf_21 ?_
    refine s_iret X Y dX0_widthOf_22 (rfl) ?_
    refine ⟨?_, rfl⟩
    · (first | (exfalso; omega) | (unfold wO; first | rw [if_pos (by omega)] | rw [if_neg (by omega)]))
  · refine s_iload_n X dX0_widthOf_11 rfl 0 rfl ?_
    refine s_bipush 48 X dX0_widthOf_12 (by decide) ?_
    refine s_icmp_ge X 21 dX0_widthOf_14 (by decide) (by omega) (fun c14 => ?_) (fun c14 => ?_)
    · refine s_iconst X dX0_widthOf_21 ?_
      refine s_iret X Y dX0_widthOf_22 (rfl) ?_
      refine ⟨?_, rfl⟩
      · (first | (exfalso; omega) | (unfold wO; first | rw [if_pos (by omega)] | rw [if_neg (by omega)]))
    · refine s_iconst X dX0_widthOf_17 ?_
      refine s_goto X 22 dX0_widthOf_18 (by decide) ?_
      refine s_iret X Y dX0_widthOf_22 (rfl) ?_
      refine ⟨?_, rfl⟩
      · (first | (exfalso; omega) | (unfold wO; first | rw [if_pos (by omega)] | rw [if_neg (by omega)]))
set_option maxRecDepth 100000 in
set_option maxHeartbeats 4000000 in
theorem c_X0_fixedValue (l : Launch) (G : GX) (z : Int) (f : Int) (hz : R32 z) (hf : R32 f) : CtD l G yX0_fixedValue cX0_fixedValue 2 (some .double) ({ frames := 1, cells := 0, slots := 0, locals := 27 } : Room) [.int (iI z), .int (iI f)] [] (fun (z9 : UInt64) (w9 : va_W) => z9 = (fxV z f) ∧ w9 = []) := by
  intro sz
  refine met_of (fun wc sz => va_Qd _ (posW G wc sz) (va_A wc sz)) (by decide) [(0, .int (iI z)), (1, .int (iI f))] rfl (Nat.le_of_ble_eq_true rfl) (fun K hK9 hnm X Y => ?_)
  subst hK9
  replace Y : RD K G (some .double) 0 0 _ := Y
  refine s_iload_n X dX0_fixedValue_0 rfl 0 rfl ?_
  refine s_i2d X dX0_fixedValue_1 ?_
  refine s_ldc2d X dX0_fixedValue_2 tg303 ?_
  refine s_iload_n X dX0_fixedValue_5 rfl 1 rfl ?_
  refine s_bipush 31 X dX0_fixedValue_6 (by decide) ?_
  refine s_iand (z := f % 32) X dX0_fixedValue_8 (by exact iand31 _) ?_
  refine s_ineg X dX0_fixedValue_9 ?_
  refine s_callDSN X lk_X0_120 [] [] (wr := []) rfl rfl (by decide) (by decide) (by decide) (c_X5_scaled (kl K) G (FP.i2d (iI z)) 4611686018427387904 (-(f % 32)) (by omega) (fun j _ => tw_mul (by omega) j (by omega)) (fun j _ => tw_div (by omega) j (by omega))) dX0_fixedValue_10 rfl rfl (Nat.le_of_ble_eq_true rfl) (by decide) (fun z1 w1 h1 => ?_)
  obtain ⟨rfl, rfl⟩ := h1
  show SW K G 2 0 0 13 [(0, .int (iI z)), (1, .int (iI f))] [.double (scl (FP.i2d (iI z)) 4611686018427387904 (-(f % 32)))] []
  refine s_dret X Y dX0_fixedValue_13 ?_
  refine ⟨?_, rfl⟩
  · (first | (exfalso; omega) | (rfl))
set_option maxRecDepth 100000 in
set_option maxHeartbeats 4000000 in
theorem c_X0_isFinite (l : Launch) (G : GX) (z : Int) (hz : R32 z) : CtI l G yX0_isFinite cX0_isFinite 1 (some .boolean) ({ frames := 0, cells := 0, slots := 0, locals := 0 } : Room) [.int (iI z)] [] (fun (z9 : Int) (w9 : va_W) => z9 = (tf (¬ eb z = 255)) ∧ w9 = []) := by
  intro sz
  refine met_of (fun wc sz => va_Qi (qI _) (posW G wc sz) (va_A wc sz)) (by decide) [(0, .int (iI z))] rfl (Nat.le_of_ble_eq_true rfl) (fun K hK9 hnm X Y => ?_)
  subst hK9
  replace Y : RI K G (some .boolean) 0 0 _ := Y
  refine s_iload_n X dX0_isFinite_0 rfl 0 rfl ?_
  refine s_bipush 23 X dX0_isFinite_1 (by decide) ?_
  refine s_iushr (z := z % 4294967296 / 8388608) X dX0_isFinite_3 (by exact ushr23 _) ?_
  refine s_sipush 255 X dX0_isFinite_4 (by decide) ?_
  have hz9 := eb_R z
  refine s_iand (z := eb z) X dX0_isFinite_7 (by exact iand255 _) ?_
  refine s_sipush 255 X dX0_isFinite_8 (by decide) ?_
  refine s_icmp_eq X 18 dX0_isFinite_11 (by decide) (by omega) (fun c11 => ?_) (fun c11 => ?_)
  · refine s_iconst X dX0_isFinite_18 ?_
    refine s_iret X Y dX0_isFinite_19 (rfl) ?_
    refine ⟨?_, rfl⟩
    · (first | (exfalso; omega) | (first | exact (tf_t (by omega)).symm | exact (tf_f (by omega)).symm))
  · refine s_iconst X dX0_isFinite_14 ?_
    refine s_goto X 19 dX0_isFinite_15 (by decide) ?_
    refine s_iret X Y dX0_isFinite_19 (rfl) ?_
    refine ⟨?_, rfl⟩
    · (first | (exfalso; omega) | (first | exact (tf_t (by omega)).symm | exact (tf_f (by omega)).symm))
set_option maxRecDepth 100000 in
set_option maxHeartbeats 4000000 in
theorem c_X0_floatValue (l : Launch) (G : GX) (z : Int) (hz : R32 z) : CtD l G yX0_floatValue cX0_floatValue 5 (some .double) ({ frames := 1, cells := 0, slots := 0, locals := 27 } : Room) [.int (iI z)] [] (fun (z9 : UInt64) (w9 : va_W) => z9 = (flV z) ∧ w9 = []) := by
  intro sz
  refine met_of (fun wc sz => va_Qd _ (posW G wc sz) (va_A wc sz)) (by decide) [(0, .int (iI z))] rfl (Nat.le_of_ble_eq_true rfl) (fun K hK9 hnm X Y => ?_)
  subst hK9
  replace Y : RD K G (some .double) 0 0 _ := Y
  refine s_iload_n X dX0_floatValue_0 rfl 0 rfl ?_
  refine s_bipush 23 X dX0_floatValue_1 (by decide) ?_
  refine s_iushr (z := z % 4294967296 / 8388608) X dX0_floatValue_3 (by exact ushr23 _) ?_
  refine s_sipush 255 X dX0_floatValue_4 (by decide) ?_
  have hz9 := eb_R z
  have hz8 := fb_R z
  refine s_iand (z := eb z) X dX0_floatValue_7 (by exact iand255 _) ?_
  refine s_istore_n X dX0_floatValue_8 rfl [(1, .int (iI (eb z))), (0, .int (iI z))] (by decide) rfl ?_
  refine s_iload_n X dX0_floatValue_9 rfl 1 rfl ?_
  refine s_ldc 8388607 X dX0_floatValue_10 tg321 (by decide) ?_
  refine s_iand (z := fb z) X dX0_floatValue_12 (by exact iand8388607 _) ?_
  refine s_istore_n X dX0_floatValue_13 rfl [(2, .int (iI (fb z))), (1, .int (iI (eb z))), (0, .int (iI z))] (by decide) rfl ?_
  refine s_iload_n X dX0_floatValue_14 rfl 1 rfl ?_
  have j48 : ∀ (sz9 : UInt64) (hsz : sz9 = flS z), SW K G 5 0 0 48 [(2, .int (iI (fb z))), (1, .int (iI (eb z))), (0, .int (iI z))] [.double sz9] [] := by
    intro sz9 hsz
    refine s_dstore_n X dX0_floatValue_48 rfl [(3, .double sz9), (2, .int (iI (fb z))), (1, .int (iI (eb z))), (0, .int (iI z))] (by decide) rfl ?_
    refine s_iload_n X dX0_floatValue_49 rfl 3 rfl ?_
    refine s_if_ge X 59 dX0_floatValue_50 (by decide) (by omega) (fun c50 => ?_) (fun c50 => ?_)
    · refine s_dload_n X dX0_floatValue_59 rfl 0 rfl ?_
      refine s_dret X Y dX0_floatValue_60 ?_
      refine ⟨?_, rfl⟩
      · (first | (exfalso; omega) | (unfold flV; rw [← hsz]; first | rw [if_pos (by omega)] | rw [if_neg (by omega)]))
    · refine s_dconst0 X dX0_floatValue_53 ?_
      refine s_dload_n X dX0_floatValue_54 rfl 0 rfl ?_
      refine s_dsub X dX0_floatValue_55 (NN_sub (by rw [hsz]; exact flS_NN z)) ?_
      refine s_goto X 60 dX0_floatValue_56 (by decide) ?_
      refine s_dret X Y dX0_floatValue_60 ?_
      refine ⟨?_, rfl⟩
      · (first | (exfalso; omega) | (unfold flV; rw [← hsz]; first | rw [if_pos (by omega)] | rw [if_neg (by omega)]))
  refine s_if_ne X 32 dX0_floatValue_15 (by decide) (by omega) (fun c15 => ?_) (fun c15 => ?_)
  · refine s_ldc 8388608 X dX0_floatValue_32 tg322 (by decide) ?_
    refine s_iload_n X dX0_floatValue_34 rfl 0 rfl ?_
    refine s_iadd X dX0_floatValue_35 ?_
    refine s_i2d X dX0_floatValue_36 ?_
    refine s_ldc2d X dX0_floatValue_37 tg303 ?_
    refine s_iload_n X dX0_floatValue_40 rfl 1 rfl ?_
    refine s_sipush 150 X dX0_floatValue_41 (by decide) ?_
    refine s_isub X dX0_floatValue_44 ?_
    refine s_callDSN X lk_X0_120 [] [] (wr := []) rfl rfl (by decide) (by decide) (by decide) (c_X5_scaled (kl K) G (FP.i2d (iI (8388608 + (fb z)))) 4611686018427387904 ((eb z) - 150) (by omega) (fun j _ => tw_mul (by omega) j (by omega)) (fun j _ => tw_div (by omega) j (by omega))) dX0_floatValue_45 rfl rfl (Nat.le_of_ble_eq_true rfl) (by decide) (fun z1 w1 h1 => ?_)
    obtain ⟨rfl, rfl⟩ := h1
    show SW K G 5 0 0 48 [(2, .int (iI (fb z))), (1, .int (iI (eb z))), (0, .int (iI z))] [.double (scl (FP.i2d (iI (8388608 + (fb z)))) 4611686018427387904 ((eb z) - 150))] []
    exact j48 (scl (FP.i2d (iI (8388608 + (fb z)))) 4611686018427387904 ((eb z) - 150)) (by unfold flS; first | rw [if_pos (by assumption)] | rw [if_neg (by assumption)])
  · refine s_iload_n X dX0_floatValue_18 rfl 0 rfl ?_
    refine s_i2d X dX0_floatValue_19 ?_
    refine s_ldc2d X dX0_floatValue_20 tg303 ?_
    refine s_sipush (-149) X dX0_floatValue_23 (by decide) ?_
    refine s_callDSN X lk_X0_120 [] [] (wr := []) rfl rfl (by decide) (by decide) (by decide) (c_X5_scaled (kl K) G (FP.i2d (iI (fb z))) 4611686018427387904 (-149) (by omega) (fun j _ => tw_mul (by omega) j (by omega)) (fun j _ => tw_div (by omega) j (by omega))) dX0_floatValue_26 rfl rfl (Nat.le_of_ble_eq_true rfl) (by decide) (fun z2 w2 h2 => ?_)
    obtain ⟨rfl, rfl⟩ := h2
    show SW K G 5 0 0 29 [(2, .int (iI (fb z))), (1, .int (iI (eb z))), (0, .int (iI z))] [.double (scl (FP.i2d (iI (fb z))) 4611686018427387904 (-149))] []
    refine s_goto X 48 dX0_floatValue_29 (by decide) ?_
    exact j48 (scl (FP.i2d (iI (fb z))) 4611686018427387904 (-149)) (by unfold flS; first | rw [if_pos (by assumption)] | rw [if_neg (by assumption)])
set_option maxRecDepth 100000 in
set_option maxHeartbeats 4000000 in
theorem c_X0_reaches (l : Launch) (G : GX) (s : Nat) (b : Nat) (a : Nat) (n : Int) (rd : Int) (e : Int) (k : Nat) (x : Nat) (i8 : Nat) (d8 : Nat) (pl : Int) (af : Int) (wh : Int) (len : Int) (ror : Int) (rl : Int) (re : UInt64) (q : Int) (hn : 0 ≤ n ∧ n ≤ 3000) (hq : R32 q) : CtI l G yX0_reaches cX0_reaches 3 (some .boolean) ({ frames := 0, cells := 0, slots := 0, locals := 0 } : Room) [.ref s, .ref k, .int (iI q)] [oBi s b, oBy b a n rd e, oTk k pl af wh re x len i8 d8 ror rl] (fun (z9 : Int) (w9 : va_W) => z9 = (tf (q ≤ n)) ∧ w9 = [oBi s b, oBy b a n rd e, oTk k pl q wh re x len i8 d8 ror rl]) := by
  intro sz
  refine met_of (fun wc sz => va_Qi (qI _) (posW G wc sz) (va_A wc sz)) (by decide) [(0, .ref s), (1, .ref k), (2, .int (iI q))] rfl (Nat.le_of_ble_eq_true rfl) (fun K hK9 hnm X Y => ?_)
  subst hK9
  replace Y : RI K G (some .boolean) 0 0 _ := Y
  refine s_aload_n X dX0_reaches_0 rfl 1 rfl ?_
  refine s_iload_n X dX0_reaches_1 rfl 2 rfl ?_
  refine s_put X dX0_reaches_2 fl_X0_40 tyX3_ok nmX3 2 rfl rfl (rfl) (rfl) (Nat.le_of_ble_eq_true rfl) [oBi s b, oBy b a n rd e, oTk k pl q wh re x len i8 d8 ror rl] rfl ?_
  refine s_iload_n X dX0_reaches_5 rfl 2 rfl ?_
  refine s_aload_n X dX0_reaches_6 rfl 0 rfl ?_
  refine s_get X dX0_reaches_7 fl_X0_9 0 rfl rfl ?_
  refine s_get X dX0_reaches_10 fl_X0_46 1 rfl rfl ?_
  refine s_icmp_gt X 20 dX0_reaches_13 (by decide) (by omega) (fun c13 => ?_) (fun c13 => ?_)
  · refine s_iconst X dX0_reaches_20 ?_
    refine s_iret X Y dX0_reaches_21 (rfl) ?_
    refine ⟨?_, rfl⟩
    · (first | (exfalso; omega) | (first | exact (tf_t (by omega)).symm | exact (tf_f (by omega)).symm))
  · refine s_iconst X dX0_reaches_16 ?_
    refine s_goto X 21 dX0_reaches_17 (by decide) ?_
    refine s_iret X Y dX0_reaches_21 (rfl) ?_
    refine ⟨?_, rfl⟩
    · (first | (exfalso; omega) | (first | exact (tf_t (by omega)).symm | exact (tf_f (by omega)).symm))
set_option maxRecDepth 100000 in
set_option maxHeartbeats 4000000 in
theorem c_X0_readNumber (l : Launch) (G : GX) (s : Nat) (b : Nat) (a : Nat) (n : Int) (rd : Int) (e : Int) (B : Nat → Nat) (k : Nat) (x : Nat) (i8 : Nat) (d8 : Nat) (pl : Int) (af : Int) (wh : Int) (len : Int) (ror : Int) (rl : Int) (re : UInt64) (w : Int) (lf : Int) (hn : 0 ≤ n ∧ n ≤ 3000) (hBb : ∀ j, B j < 256) (he : e = 0 ∨ e = 1) (hi : 0 ≤ pl ∧ pl < n) (hw : w = 1 ∨ w = 2 ∨ w = 4) (hlf : lf = 0 ∨ lf = 1) : CtI l G yX0_readNumber cX0_readNumber 5 (some .int) ({ frames := 3, cells := 0, slots := 0, locals := 67 } : Room) [.ref s, .ref k, .int (iI w), .int (iI lf)] [oBi s b, oBy b a n rd e, aB G a 3000 B, oTk k pl af wh re x len i8 d8 ror rl] (fun (z9 : Int) (w9 : va_W) => ∃ (af2 : Int), ∃ (wh2 : Int), ∃ (len2 : Int), z9 = (nuA n e (pl + 1 + w) 1) ∧ w9 = [oBi s b, oBy b a n rd e, aB G a 3000 B, oTk k pl af2 wh2 re x len2 i8 d8 ror rl] ∧ (z9 ≠ 0 → af2 = lkF n (pl + 1 + w)) ∧ (pl + 1 + w ≤ n → wh2 = nmb B n (pl + 1) w lf ∧ len2 = 0) ∧ (n < pl + 1 + w → wh2 = wh ∧ len2 = len)) := by
  intro sz
  refine met_of (fun wc sz => va_Qi (qI _) (posW G wc sz) (va_A wc sz)) (by decide) [(0, .ref s), (1, .ref k), (2, .int (iI w)), (3, .int (iI lf))] rfl (Nat.le_of_ble_eq_true rfl) (fun K hK9 hnm X Y => ?_)
  subst hK9
  replace Y : RI K G (some .int) 0 0 _ := Y
  refine s_aload_n X dX0_readNumber_0 rfl 1 rfl ?_
  refine s_get X dX0_readNumber_1 fl_X0_51 3 rfl rfl ?_
  refine s_iconst X dX0_readNumber_4 ?_
  refine s_iadd X dX0_readNumber_5 ?_
  refine s_istore X dX0_readNumber_6 [(4, .int (iI (pl + 1))), (0, .ref s), (1, .ref k), (2, .int (iI w)), (3, .int (iI lf))] (by decide) rfl ?_
  refine s_aload_n X dX0_readNumber_8 rfl 1 rfl ?_
  refine s_aload_n X dX0_readNumber_9 rfl 2 rfl ?_
  refine s_iload X dX0_readNumber_10 0 rfl ?_
  refine s_iload_n X dX0_readNumber_12 rfl 3 rfl ?_
  refine s_iadd X dX0_readNumber_13 ?_
  refine s_callIV X lk_X0_54 [0, 1, 3] [2] (wr := [aB G a 3000 B]) rfl rfl (by decide) (by decide) (by decide) (c_X0_reaches (kl K) G s b a n rd e k x i8 d8 pl af wh len ror rl re ((pl + 1) + w) (by assumption) (by omega)) rfl rfl dX0_readNumber_14 rfl rfl (Nat.le_of_ble_eq_true rfl) (by decide) (fun z1 w1 h1 => ?_)
  obtain ⟨rfl, rfl⟩ := h1
  show SW K G 5 0 0 17 [(4, .int (iI (pl + 1))), (0, .ref s), (1, .ref k), (2, .int (iI w)), (3, .int (iI lf))] [.int (iI (tf (((pl + 1) + w) ≤ n)))] [aB G a 3000 B, oBi s b, oBy b a n rd e, oTk k pl ((pl + 1) + w) wh re x len i8 d8 ror rl]
  refine s_tf_ne X 29 dX0_readNumber_17 (by decide) (fun c17 => ?_) (fun c17 => ?_)
  · refine s_aload_n X dX0_readNumber_29 rfl 2 rfl ?_
    refine s_iconst X dX0_readNumber_30 ?_
    refine s_aload_n X dX0_readNumber_31 rfl 1 rfl ?_
    refine s_iload X dX0_readNumber_32 0 rfl ?_
    refine s_iload_n X dX0_readNumber_34 rfl 3 rfl ?_
    refine s_iload_n X dX0_readNumber_35 rfl 4 rfl ?_
    refine s_callIV X lk_X0_61 [1, 2, 0] [3] (wr := [oTk k pl ((pl + 1) + w) wh re x len i8 d8 ror rl]) rfl rfl (by decide) (by decide) (by decide) (c_X0_signedAt (kl K) G s b a n rd e B (pl + 1) w lf (by assumption) (by assumption) (by omega) (by omega) (by omega)) rfl rfl dX0_readNumber_36 rfl rfl (Nat.le_of_ble_eq_true rfl) (by decide) (fun z2 w2 h2 => ?_)
    obtain ⟨rfl, rfl⟩ := h2
    show SW K G 5 0 0 39 [(4, .int (iI (pl + 1))), (0, .ref s), (1, .ref k), (2, .int (iI w)), (3, .int (iI lf))] [.int (iI (nmb B n (pl + 1) w lf)), .int (iI 1), .ref k] [oTk k pl ((pl + 1) + w) wh re x len i8 d8 ror rl, oBi s b, oBy b a n rd e, aB G a 3000 B]
    have q3 := nmb_R (B := B) (n := n) (i := (pl + 1)) (w := w) (lf := lf) (by assumption) (by omega) (by omega) (by omega)
    refine s_i2l X dX0_readNumber_39 (by omega) ?_
    refine s_callIV X lk_X0_65 [0] [1, 2, 3] (wr := [oBi s b, oBy b a n rd e, aB G a 3000 B]) rfl rfl (by decide) (by decide) (by decide) (c_X3_asWhole (kl K) G k x i8 d8 pl ((pl + 1) + w) wh len ror rl re 1 (nmb B n (pl + 1) w lf)) rfl rfl dX0_readNumber_40 rfl rfl (Nat.le_of_ble_eq_true rfl) (by decide) (fun z4 w4 h4 => ?_)
    obtain ⟨rfl, rfl⟩ := h4
    show SW K G 5 0 0 43 [(4, .int (iI (pl + 1))), (0, .ref s), (1, .ref k), (2, .int (iI w)), (3, .int (iI lf))] [.int (iI 1)] [oBi s b, oBy b a n rd e, aB G a 3000 B, oTk k pl ((pl + 1) + w) (nmb B n (pl + 1) w lf) re x 0 i8 d8 ror rl]
    refine s_iret X Y dX0_readNumber_43 (rfl) ?_
    refine ⟨((pl + 1) + w), (nmb B n (pl + 1) w lf), 0, ?_, rfl, ?_, ?_, ?_⟩
    · (first | (exfalso; omega) | (exact nuA_y (by assumption)))
    · (first | (exfalso; omega) | (intro _; exact lk_y (by assumption)))
    · (first | (exfalso; omega) | (intro _; exact ⟨rfl, rfl⟩))
    · (first | (exfalso; omega) | (intro h; omega))
  · refine s_aload_n X dX0_readNumber_20 rfl 1 rfl ?_
    refine s_get X dX0_readNumber_21 fl_X0_9 1 rfl rfl ?_
    refine s_aload_n X dX0_readNumber_24 rfl 2 rfl ?_
    refine s_callIV X lk_X0_58 [2, 3] [0, 1] (wr := [aB G a 3000 B, oBi s b]) rfl rfl (by decide) (by decide) (by decide) (c_X1_lacking (kl K) G b a n rd e k x i8 d8 pl ((pl + 1) + w) wh len ror rl re (by omega)) rfl rfl dX0_readNumber_25 rfl rfl (Nat.le_of_ble_eq_true rfl) (by decide) (fun z5 w5 h5 => ?_)
    obtain ⟨rfl, rfl⟩ := h5
    show SW K G 5 0 0 28 [(4, .int (iI (pl + 1))), (0, .ref s), (1, .ref k), (2, .int (iI w)), (3, .int (iI lf))] [.int (iI (if e = 0 then 0 else -7))] [aB G a 3000 B, oBi s b, oBy b a n rd e, oTk k pl (if e = 0 then ((pl + 1) + w) else n) wh re x len i8 d8 ror rl]
    refine s_perm (ws' := [oBi s b, oBy b a n rd e, aB G a 3000 B, oTk k pl (if e = 0 then ((pl + 1) + w) else n) wh re x len i8 d8 ror rl]) [1, 2, 0, 3] (by decide) rfl rfl ?_
    refine s_iret X Y dX0_readNumber_28 (rfl) ?_
    refine ⟨(if e = 0 then ((pl + 1) + w) else n), wh, len, ?_, rfl, ?_, ?_, ?_⟩
    · (first | (exfalso; omega) | (exact nuA_n (by assumption)))
    · (first | (exfalso; omega) | (intro h; exact lk_n (by assumption) h))
    · (first | (exfalso; omega) | (intro h; omega))
    · (first | (exfalso; omega) | (intro _; exact ⟨rfl, rfl⟩))
set_option maxRecDepth 100000 in
set_option maxHeartbeats 4000000 in
theorem c_X0_readNumbered (l : Launch) (G : GX) (s : Nat) (b : Nat) (a : Nat) (n : Int) (rd : Int) (e : Int) (B : Nat → Nat) (k : Nat) (x : Nat) (i8 : Nat) (d8 : Nat) (pl : Int) (af : Int) (wh : Int) (len : Int) (ror : Int) (rl : Int) (re : UInt64) (kd : Int) (hn : 0 ≤ n ∧ n ≤ 3000) (hBb : ∀ j, B j < 256) (he : e = 0 ∨ e = 1) (hi : 0 ≤ pl ∧ pl < n) (hkd : 1 ≤ kd ∧ kd ≤ 20) : CtI l G yX0_readNumbered cX0_readNumbered 4 (some .int) ({ frames := 2, cells := 0, slots := 0, locals := 42 } : Room) [.ref s, .ref k, .int (iI kd)] [oBi s b, oBy b a n rd e, aB G a 3000 B, oTk k pl af wh re x len i8 d8 ror rl] (fun (z9 : Int) (w9 : va_W) => ∃ (af2 : Int), ∃ (wh2 : Int), ∃ (len2 : Int), z9 = (nuA n e (pl + 1 + 1) kd) ∧ w9 = [oBi s b, oBy b a n rd e, aB G a 3000 B, oTk k pl af2 wh2 re x len2 i8 d8 ror rl] ∧ (z9 ≠ 0 → af2 = lkF n (pl + 1 + 1)) ∧ (pl + 1 + 1 ≤ n → wh2 = bA B n (pl + 1) ∧ len2 = 0) ∧ (n < pl + 1 + 1 → wh2 = wh ∧ len2 = len)) := by
  intro sz
  refine met_of (fun wc sz => va_Qi (qI _) (posW G wc sz) (va_A wc sz)) (by decide) [(0, .ref s), (1, .ref k), (2, .int (iI kd))] rfl (Nat.le_of_ble_eq_true rfl) (fun K hK9 hnm X Y => ?_)
  subst hK9
  replace Y : RI K G (some .int) 0 0 _ := Y
  refine s_aload_n X dX0_readNumbered_0 rfl 1 rfl ?_
  refine s_get X dX0_readNumbered_1 fl_X0_51 3 rfl rfl ?_
  refine s_iconst X dX0_readNumbered_4 ?_
  refine s_iadd X dX0_readNumbered_5 ?_
  refine s_istore_n X dX0_readNumbered_6 rfl [(3, .int (iI (pl + 1))), (0, .ref s), (1, .ref k), (2, .int (iI kd))] (by decide) rfl ?_
  refine s_aload_n X dX0_readNumbered_7 rfl 1 rfl ?_
  refine s_aload_n X dX0_readNumbered_8 rfl 2 rfl ?_
  refine s_iload_n X dX0_readNumbered_9 rfl 0 rfl ?_
  refine s_iconst X dX0_readNumbered_10 ?_
  refine s_iadd X dX0_readNumbered_11 ?_
  refine s_callIV X lk_X0_54 [0, 1, 3] [2] (wr := [aB G a 3000 B]) rfl rfl (by decide) (by decide) (by decide) (c_X0_reaches (kl K) G s b a n rd e k x i8 d8 pl af wh len ror rl re ((pl + 1) + 1) (by assumption) (by omega)) rfl rfl dX0_readNumbered_12 rfl rfl (Nat.le_of_ble_eq_true rfl) (by decide) (fun z1 w1 h1 => ?_)
  obtain ⟨rfl, rfl⟩ := h1
  show SW K G 4 0 0 15 [(3, .int (iI (pl + 1))), (0, .ref s), (1, .ref k), (2, .int (iI kd))] [.int (iI (tf (((pl + 1) + 1) ≤ n)))] [aB G a 3000 B, oBi s b, oBy b a n rd e, oTk k pl ((pl + 1) + 1) wh re x len i8 d8 ror rl]
  refine s_tf_ne X 27 dX0_readNumbered_15 (by decide) (fun c15 => ?_) (fun c15 => ?_)
  · refine s_aload_n X dX0_readNumbered_27 rfl 2 rfl ?_
    refine s_iload_n X dX0_readNumbered_28 rfl 3 rfl ?_
    refine s_aload_n X dX0_readNumbered_29 rfl 1 rfl ?_
    refine s_get X dX0_readNumbered_30 fl_X0_9 1 rfl rfl ?_
    refine s_iload_n X dX0_readNumbered_33 rfl 0 rfl ?_
    refine s_callIV X lk_X0_69 [2, 0] [1, 3] (wr := [oBi s b, oTk k pl ((pl + 1) + 1) wh re x len i8 d8 ror rl]) rfl rfl (by decide) (by decide) (by decide) (c_X1_at (kl K) G b a n rd e B (pl + 1) (by assumption) (by assumption) (by omega)) rfl rfl dX0_readNumbered_34 rfl rfl (Nat.le_of_ble_eq_true rfl) (by decide) (fun z2 w2 h2 => ?_)
    obtain ⟨rfl, rfl⟩ := h2
    show SW K G 4 0 0 37 [(3, .int (iI (pl + 1))), (0, .ref s), (1, .ref k), (2, .int (iI kd))] [.int (iI (bA B n (pl + 1))), .int (iI kd), .ref k] [oBi s b, oTk k pl ((pl + 1) + 1) wh re x len i8 d8 ror rl, oBy b a n rd e, aB G a 3000 B]
    have q3 := bA_C n (pl + 1) (by assumption : ∀ j, B j < 256)
    refine s_i2l X dX0_readNumbered_37 (by omega) ?_
    refine s_callIV X lk_X0_65 [1] [0, 2, 3] (wr := [oBi s b, oBy b a n rd e, aB G a 3000 B]) rfl rfl (by decide) (by decide) (by decide) (c_X3_asWhole (kl K) G k x i8 d8 pl ((pl + 1) + 1) wh len ror rl re kd (bA B n (pl + 1))) rfl rfl dX0_readNumbered_38 rfl rfl (Nat.le_of_ble_eq_true rfl) (by decide) (fun z4 w4 h4 => ?_)
    obtain ⟨hz4, rfl⟩ := h4
    subst z4
    show SW K G 4 0 0 41 [(3, .int (iI (pl + 1))), (0, .ref s), (1, .ref k), (2, .int (iI kd))] [.int (iI kd)] [oBi s b, oBy b a n rd e, aB G a 3000 B, oTk k pl ((pl + 1) + 1) (bA B n (pl + 1)) re x 0 i8 d8 ror rl]
    refine s_iret X Y dX0_readNumbered_41 (rfl) ?_
    refine ⟨((pl + 1) + 1), (bA B n (pl + 1)), 0, ?_, rfl, ?_, ?_, ?_⟩
    · (first | (exfalso; omega) | (exact nuA_y (by assumption)))
    · (first | (exfalso; omega) | (intro _; exact lk_y (by assumption)))
    · (first | (exfalso; omega) | (intro _; exact ⟨rfl, rfl⟩))
    · (first | (exfalso; omega) | (intro h; omega))
  · refine s_aload_n X dX0_readNumbered_18 rfl 1 rfl ?_
    refine s_get X dX0_readNumbered_19 fl_X0_9 1 rfl rfl ?_
    refine s_aload_n X dX0_readNumbered_22 rfl 2 rfl ?_
    refine s_callIV X lk_X0_58 [2, 3] [0, 1] (wr := [aB G a 3000 B, oBi s b]) rfl rfl (by decide) (by decide) (by decide) (c_X1_lacking (kl K) G b a n rd e k x i8 d8 pl ((pl + 1) + 1) wh len ror rl re (by omega)) rfl rfl dX0_readNumbered_23 rfl rfl (Nat.le_of_ble_eq_true rfl) (by decide) (fun z5 w5 h5 => ?_)
    obtain ⟨rfl, rfl⟩ := h5
    show SW K G 4 0 0 26 [(3, .int (iI (pl + 1))), (0, .ref s), (1, .ref k), (2, .int (iI kd))] [.int (iI (if e = 0 then 0 else -7))] [aB G a 3000 B, oBi s b, oBy b a n rd e, oTk k pl (if e = 0 then ((pl + 1) + 1) else n) wh re x len i8 d8 ror rl]
    refine s_perm (ws' := [oBi s b, oBy b a n rd e, aB G a 3000 B, oTk k pl (if e = 0 then ((pl + 1) + 1) else n) wh re x len i8 d8 ror rl]) [1, 2, 0, 3] (by decide) rfl rfl ?_
    refine s_iret X Y dX0_readNumbered_26 (rfl) ?_
    refine ⟨(if e = 0 then ((pl + 1) + 1) else n), wh, len, ?_, rfl, ?_, ?_, ?_⟩
    · (first | (exfalso; omega) | (exact nuA_n (by assumption)))
    · (first | (exfalso; omega) | (intro h; exact lk_n (by assumption) h))
    · (first | (exfalso; omega) | (intro h; omega))
    · (first | (exfalso; omega) | (intro _; exact ⟨rfl, rfl⟩))
set_option maxRecDepth 100000 in
set_option maxHeartbeats 4000000 in
theorem c_X0_readTruth (l : Launch) (G : GX) (s : Nat) (b : Nat) (a : Nat) (n : Int) (rd : Int) (e : Int) (B : Nat → Nat) (k : Nat) (x : Nat) (i8 : Nat) (d8 : Nat) (pl : Int) (af : Int) (wh : Int) (len : Int) (ror : Int) (rl : Int) (re : UInt64) (hn : 0 ≤ n ∧ n ≤ 3000) (hBb : ∀ j, B j < 256) (he : e = 0 ∨ e = 1) (hi : 0 ≤ pl ∧ pl < n) : CtI l G yX0_readTruth cX0_readTruth 4 (some .int) ({ frames := 3, cells := 0, slots := 0, locals := 65 } : Room) [.ref s, .ref k] [oBi s b, oBy b a n rd e, aB G a 3000 B, oTk k pl af wh re x len i8 d8 ror rl] (fun (z9 : Int) (w9 : va_W) => ∃ (pl2 : Int), ∃ (af2 : Int), ∃ (wh2 : Int), ∃ (len2 : Int), z9 = (if 1 < bA B n (pl + 1) then -5 else nuA n e (pl + 1 + 1) 13) ∧ w9 = [oBi s b, oBy b a n rd e, aB G a 3000 B, oTk k pl2 af2 wh2 re x len2 i8 d8 ror rl] ∧ (z9 ≠ 0 → af2 = lkF n (pl + 1 + 1) ∧ pl2 = (if 1 < bA B n (pl + 1) then pl + 1 else pl)) ∧ (0 < z9 → wh2 = bA B n (pl + 1) ∧ len2 = 0)) := by
  intro sz
  refine met_of (fun wc sz => va_Qi (qI _) (posW G wc sz) (va_A wc sz)) (by decide) [(0, .ref s), (1, .ref k)] rfl (Nat.le_of_ble_eq_true rfl) (fun K hK9 hnm X Y => ?_)
  subst hK9
  replace Y : RI K G (some .int) 0 0 _ := Y
  refine s_aload_n X dX0_readTruth_0 rfl 1 rfl ?_
  refine s_get X dX0_readTruth_1 fl_X0_51 3 rfl rfl ?_
  refine s_iconst X dX0_readTruth_4 ?_
  refine s_iadd X dX0_readTruth_5 ?_
  refine s_istore_n X dX0_readTruth_6 rfl [(2, .int (iI (pl + 1))), (0, .ref s), (1, .ref k)] (by decide) rfl ?_
  refine s_aload_n X dX0_readTruth_7 rfl 1 rfl ?_
  refine s_get X dX0_readTruth_8 fl_X0_9 0 rfl rfl ?_
  refine s_iload_n X dX0_readTruth_11 rfl 0 rfl ?_
  refine s_callIV X lk_X0_69 [1, 2] [0, 3] (wr := [oBi s b, oTk k pl af wh re x len i8 d8 ror rl]) rfl rfl (by decide) (by decide) (by decide) (c_X1_at (kl K) G b a n rd e B (pl + 1) (by assumption) (by assumption) (by omega)) rfl rfl dX0_readTruth_12 rfl rfl (Nat.le_of_ble_eq_true rfl) (by decide) (fun z1 w1 h1 => ?_)
  obtain ⟨rfl, rfl⟩ := h1
  show SW K G 4 0 0 15 [(2, .int (iI (pl + 1))), (0, .ref s), (1, .ref k)] [.int (iI (bA B n (pl + 1)))] [oBi s b, oTk k pl af wh re x len i8 d8 ror rl, oBy b a n rd e, aB G a 3000 B]
  have q2 := bA_C n (pl + 1) (by assumption : ∀ j, B j < 256)
  refine s_istore_n X dX0_readTruth_15 rfl [(3, .int (iI (bA B n (pl + 1)))), (2, .int (iI (pl + 1))), (0, .ref s), (1, .ref k)] (by decide) rfl ?_
  refine s_iload_n X dX0_readTruth_16 rfl 0 rfl ?_
  refine s_iconst X dX0_readTruth_17 ?_
  refine s_icmp_le X 29 dX0_readTruth_18 (by decide) (by omega) (fun c18 => ?_) (fun c18 => ?_)
  · refine s_aload_n X dX0_readTruth_29 rfl 2 rfl ?_
    refine s_aload_n X dX0_readTruth_30 rfl 3 rfl ?_
    refine s_bipush 13 X dX0_readTruth_31 (by decide) ?_
    refine s_callIV X lk_X0_33 [0, 2, 3, 1] [] (wr := []) rfl rfl (by decide) (by decide) (by decide) (c_X0_readNumbered (kl K) G s b a n rd e B k x i8 d8 pl af wh len ror rl re 13 (by assumption) (by assumption) (by omega) (by omega) (by omega)) rfl rfl dX0_readTruth_33 rfl rfl (Nat.le_of_ble_eq_true rfl) (by decide) (fun z3 w3 h3 => ?_)
    obtain ⟨af23, wh23, len23, rfl, rfl, f3_0, f3_1, f3_2⟩ := h3
    show SW K G 4 0 0 36 [(3, .int (iI (bA B n (pl + 1)))), (2, .int (iI (pl + 1))), (0, .ref s), (1, .ref k)] [.int (iI (nuA n e (pl + 1 + 1) 13))] [oBi s b, oBy b a n rd e, aB G a 3000 B, oTk k pl af23 wh23 re x len23 i8 d8 ror rl]
    have g0 := f3_0
    have g1 := f3_1
    have g2 := f3_2
    have hnb : ¬ 1 < bA B n (pl + 1) := by omega
    refine s_iret X Y dX0_readTruth_36 (rfl) ?_
    refine ⟨pl, af23, wh23, len23, ?_, rfl, ?_, ?_⟩
    · (first | (exfalso; omega) | (rw [if_neg hnb]))
    · (first | (exfalso; omega) | (intro h; rw [if_neg hnb]; exact ⟨g0 h, rfl⟩))
    · (first | (exfalso; omega) | (intro h; exact g1 (nuA_pos h)))
  · refine s_aload_n X dX0_readTruth_21 rfl 3 rfl ?_
    refine s_bipush (-5) X dX0_readTruth_22 (by decide) ?_
    refine s_iload_n X dX0_readTruth_24 rfl 1 rfl ?_
    refine s_callIV X lk_X0_73 [1] [0, 2, 3] (wr := [oBi s b, oBy b a n rd e, aB G a 3000 B]) rfl rfl (by decide) (by decide) (by decide) (c_X3_wrongByte (kl K) G k x i8 d8 pl af wh len ror rl re (-5) (pl + 1)) rfl rfl dX0_readTruth_25 rfl rfl (Nat.le_of_ble_eq_true rfl) (by decide) (fun z4 w4 h4 => ?_)
    obtain ⟨rfl, rfl⟩ := h4
    show SW K G 4 0 0 28 [(3, .int (iI (bA B n (pl + 1)))), (2, .int (iI (pl + 1))), (0, .ref s), (1, .ref k)] [.int (iI (-5))] [oBi s b, oBy b a n rd e, aB G a 3000 B, oTk k (pl + 1) ((pl + 1) + 1) wh re x len i8 d8 ror rl]
    refine s_iret X Y dX0_readTruth_28 (rfl) ?_
    refine ⟨(pl + 1), ((pl + 1) + 1), wh, len, ?_, rfl, ?_, ?_⟩
    · (first | (exfalso; omega) | (rw [if_pos (by omega)]))
    · (first | (exfalso; omega) | (intro _; rw [if_pos (by omega)]; exact ⟨lk_y (by omega), rfl⟩))
    · (first | (exfalso; omega) | (intro h; exact absurd h (by decide)))
set_option maxRecDepth 100000 in
set_option maxHeartbeats 4000000 in
theorem c_X0_readFloat (l : Launch) (G : GX) (s : Nat) (b : Nat) (a : Nat) (n : Int) (rd : Int) (e : Int) (B : Nat → Nat) (k : Nat) (x : Nat) (i8 : Nat) (d8 : Nat) (pl : Int) (af : Int) (wh : Int) (len : Int) (ror : Int) (rl : Int) (re : UInt64) (lf : Int) (hn : 0 ≤ n ∧ n ≤ 3000) (hBb : ∀ j, B j < 256) (he : e = 0 ∨ e = 1) (hi : 0 ≤ pl ∧ pl < n) (hlf : lf = 0 ∨ lf = 1) : CtI l G yX0_readFloat cX0_readFloat 5 (some .int) ({ frames := 3, cells := 0, slots := 0, locals := 67 } : Room) [.ref s, .ref k, .int (iI lf)] [oBi s b, oBy b a n rd e, aB G a 3000 B, oTk k pl af wh re x len i8 d8 ror rl] (fun (z9 : Int) (w9 : va_W) => ∃ (af2 : Int), ∃ (wh2 : Int), ∃ (len2 : Int), ∃ (re2 : UInt64), z9 = (nuA n e (pl + 1 + 4) (if eb (nmb B n (pl + 1) 4 lf) = 255 then -6 else 2)) ∧ w9 = [oBi s b, oBy b a n rd e, aB G a 3000 B, oTk k pl af2 wh2 re2 x len2 i8 d8 ror rl] ∧ (z9 ≠ 0 → af2 = lkF n (pl + 1 + 4)) ∧ (z9 = 2 → re2 = flV (nmb B n (pl + 1) 4 lf) ∧ wh2 = 0 ∧ len2 = 0)) := by
  intro sz
  refine met_of (fun wc sz => va_Qi (qI _) (posW G wc sz) (va_A wc sz)) (by decide) [(0, .ref s), (1, .ref k), (2, .int (iI lf))] rfl (Nat.le_of_ble_eq_true rfl) (fun K hK9 hnm X Y => ?_)
  subst hK9
  replace Y : RI K G (some .int) 0 0 _ := Y
  refine s_aload_n X dX0_readFloat_0 rfl 1 rfl ?_
  refine s_get X dX0_readFloat_1 fl_X0_51 3 rfl rfl ?_
  refine s_iconst X dX0_readFloat_4 ?_
  refine s_iadd X dX0_readFloat_5 ?_
  refine s_istore_n X dX0_readFloat_6 rfl [(3, .int (iI (pl + 1))), (0, .ref s), (1, .ref k), (2, .int (iI lf))] (by decide) rfl ?_
  refine s_aload_n X dX0_readFloat_7 rfl 1 rfl ?_
  refine s_aload_n X dX0_readFloat_8 rfl 2 rfl ?_
  refine s_iload_n X dX0_readFloat_9 rfl 0 rfl ?_
  refine s_iconst X dX0_readFloat_10 ?_
  refine s_iadd X dX0_readFloat_11 ?_
  refine s_callIV X lk_X0_54 [0, 1, 3] [2] (wr := [aB G a 3000 B]) rfl rfl (by decide) (by decide) (by decide) (c_X0_reaches (kl K) G s b a n rd e k x i8 d8 pl af wh len ror rl re ((pl + 1) + 4) (by assumption) (by omega)) rfl rfl dX0_readFloat_12 rfl rfl (Nat.le_of_ble_eq_true rfl) (by decide) (fun z1 w1 h1 => ?_)
  obtain ⟨rfl, rfl⟩ := h1
  show SW K G 5 0 0 15 [(3, .int (iI (pl + 1))), (0, .ref s), (1, .ref k), (2, .int (iI lf))] [.int (iI (tf (((pl + 1) + 4) ≤ n)))] [aB G a 3000 B, oBi s b, oBy b a n rd e, oTk k pl ((pl + 1) + 4) wh re x len i8 d8 ror rl]
  refine s_tf_ne X 27 dX0_readFloat_15 (by decide) (fun c15 => ?_) (fun c15 => ?_)
  · refine s_aload_n X dX0_readFloat_27 rfl 1 rfl ?_
    refine s_iload_n X dX0_readFloat_28 rfl 0 rfl ?_
    refine s_iconst X dX0_readFloat_29 ?_
    refine s_iload_n X dX0_readFloat_30 rfl 3 rfl ?_
    refine s_callIV X lk_X0_61 [1, 2, 0] [3] (wr := [oTk k pl ((pl + 1) + 4) wh re x len i8 d8 ror rl]) rfl rfl (by decide) (by decide) (by decide) (c_X0_signedAt (kl K) G s b a n rd e B (pl + 1) 4 lf (by assumption) (by assumption) (by omega) (by omega) (by omega)) rfl rfl dX0_readFloat_31 rfl rfl (Nat.le_of_ble_eq_true rfl) (by decide) (fun z2 w2 h2 => ?_)
    obtain ⟨rfl, rfl⟩ := h2
    show SW K G 5 0 0 34 [(3, .int (iI (pl + 1))), (0, .ref s), (1, .ref k), (2, .int (iI lf))] [.int (iI (nmb B n (pl + 1) 4 lf))] [oTk k pl ((pl + 1) + 4) wh re x len i8 d8 ror rl, oBi s b, oBy b a n rd e, aB G a 3000 B]
    have q3 := nmb_R (B := B) (n := n) (i := (pl + 1)) (w := 4) (lf := lf) (by assumption) (by omega) (by omega) (by omega)
    refine s_istore X dX0_readFloat_34 [(4, .int (iI (nmb B n (pl + 1) 4 lf))), (3, .int (iI (pl + 1))), (0, .ref s), (1, .ref k), (2, .int (iI lf))] (by decide) rfl ?_
    refine s_iload X dX0_readFloat_36 0 rfl ?_
    refine s_callIS X lk_X0_88 [] [0, 1, 2, 3] (wr := [oTk k pl ((pl + 1) + 4) wh re x len i8 d8 ror rl, oBi s b, oBy b a n rd e, aB G a 3000 B]) rfl rfl (by decide) (by decide) (by decide) (c_X0_isFinite (kl K) G (nmb B n (pl + 1) 4 lf) (by omega)) dX0_readFloat_38 rfl rfl (Nat.le_of_ble_eq_true rfl) (by decide) (fun z4 w4 h4 => ?_)
    obtain ⟨rfl, rfl⟩ := h4
    show SW K G 5 0 0 41 [(4, .int (iI (nmb B n (pl + 1) 4 lf))), (3, .int (iI (pl + 1))), (0, .ref s), (1, .ref k), (2, .int (iI lf))] [.int (iI (tf (¬ eb (nmb B n (pl + 1) 4 lf) = 255)))] [oTk k pl ((pl + 1) + 4) wh re x len i8 d8 ror rl, oBi s b, oBy b a n rd e, aB G a 3000 B]
    refine s_tf_eq X 56 dX0_readFloat_41 (by decide) (fun c41 => ?_) (fun c41 => ?_)
    · refine s_bipush (-6) X dX0_readFloat_56 (by decide) ?_
      refine s_perm (ws' := [oBi s b, oBy b a n rd e, aB G a 3000 B, oTk k pl ((pl + 1) + 4) wh re x len i8 d8 ror rl]) [1, 2, 3, 0] (by decide) rfl rfl ?_
      refine s_iret X Y dX0_readFloat_58 (rfl) ?_
      refine ⟨((pl + 1) + 4), wh, len, re, ?_, rfl, ?_, ?_⟩
      · (first | (exfalso; omega) | (rw [← nuA_y (by assumption)]; first | rw [if_pos (by omega)] | rw [if_neg (by omega)]))
      · (first | (exfalso; omega) | (intro _; exact lk_y (by assumption)))
      · (first | (exfalso; omega) | (intro h; exact absurd h (by decide)))
    · refine s_aload_n X dX0_readFloat_44 rfl 3 rfl ?_
      refine s_iload X dX0_readFloat_45 0 rfl ?_
      refine s_callDS X lk_X0_92 [] [0, 1, 2, 3] (wr := [oTk k pl ((pl + 1) + 4) wh re x len i8 d8 ror rl, oBi s b, oBy b a n rd e, aB G a 3000 B]) rfl rfl (by decide) (by decide) (by decide) (c_X0_floatValue (kl K) G (nmb B n (pl + 1) 4 lf) (by omega)) dX0_readFloat_47 rfl rfl (Nat.le_of_ble_eq_true rfl) (by decide) (fun z5 w5 h5 => ?_)
      obtain ⟨rfl, rfl⟩ := h5
      show SW K G 5 0 0 50 [(4, .int (iI (nmb B n (pl + 1) 4 lf))), (3, .int (iI (pl + 1))), (0, .ref s), (1, .ref k), (2, .int (iI lf))] [.double (flV (nmb B n (pl + 1) 4 lf)), .ref k] [oTk k pl ((pl + 1) + 4) wh re x len i8 d8 ror rl, oBi s b, oBy b a n rd e, aB G a 3000 B]
      refine s_callIV X lk_X0_84 [0] [1, 2, 3] (wr := [oBi s b, oBy b a n rd e, aB G a 3000 B]) rfl rfl (by decide) (by decide) (by decide) (c_X3_asReal (kl K) G k x i8 d8 pl ((pl + 1) + 4) wh len ror rl re (flV (nmb B n (pl + 1) 4 lf))) rfl rfl dX0_readFloat_50 rfl rfl (Nat.le_of_ble_eq_true rfl) (by decide) (fun z6 w6 h6 => ?_)
      obtain ⟨rfl, rfl⟩ := h6
      show SW K G 5 0 0 53 [(4, .int (iI (nmb B n (pl + 1) 4 lf))), (3, .int (iI (pl + 1))), (0, .ref s), (1, .ref k), (2, .int (iI lf))] [.int (iI 2)] [oBi s b, oBy b a n rd e, aB G a 3000 B, oTk k pl ((pl + 1) + 4) 0 (flV (nmb B n (pl + 1) 4 lf)) x 0 i8 d8 ror rl]
      refine s_goto X 58 dX0_readFloat_53 (by decide) ?_
      refine s_iret X Y dX0_readFloat_58 (rfl) ?_
      refine ⟨((pl + 1) + 4), 0, 0, (flV (nmb B n (pl + 1) 4 lf)), ?_, rfl, ?_, ?_⟩
      · (first | (exfalso; omega) | (rw [← nuA_y (by assumption)]; first | rw [if_pos (by omega)] | rw [if_neg (by omega)]))
      · (first | (exfalso; omega) | (intro _; exact lk_y (by assumption)))
      · (first | (exfalso; omega) | (intro _; exact ⟨rfl, rfl, rfl⟩))
  · refine s_aload_n X dX0_readFloat_18 rfl 1 rfl ?_
    refine s_get X dX0_readFloat_19 fl_X0_9 1 rfl rfl ?_
    refine s_aload_n X dX0_readFloat_22 rfl 2 rfl ?_
    refine s_callIV X lk_X0_58 [2, 3] [0, 1] (wr := [aB G a 3000 B, oBi s b]) rfl rfl (by decide) (by decide) (by decide) (c_X1_lacking (kl K) G b a n rd e k x i8 d8 pl ((pl + 1) + 4) wh len ror rl re (by omega)) rfl rfl dX0_readFloat_23 rfl rfl (Nat.le_of_ble_eq_true rfl) (by decide) (fun z7 w7 h7 => ?_)
    obtain ⟨rfl, rfl⟩ := h7
    show SW K G 5 0 0 26 [(3, .int (iI (pl + 1))), (0, .ref s), (1, .ref k), (2, .int (iI lf))] [.int (iI (if e = 0 then 0 else -7))] [aB G a 3000 B, oBi s b, oBy b a n rd e, oTk k pl (if e = 0 then ((pl + 1) + 4) else n) wh re x len i8 d8 ror rl]
    refine s_perm (ws' := [oBi s b, oBy b a n rd e, aB G a 3000 B, oTk k pl (if e = 0 then ((pl + 1) + 4) else n) wh re x len i8 d8 ror rl]) [1, 2, 0, 3] (by decide) rfl rfl ?_
    refine s_iret X Y dX0_readFloat_26 (rfl) ?_
    refine ⟨(if e = 0 then ((pl + 1) + 4) else n), wh, len, re, ?_, rfl, ?_, ?_⟩
    · (first | (exfalso; omega) | (exact nuA_n (by assumption)))
    · (first | (exfalso; omega) | (intro h; exact lk_n (by assumption) h))
    · (first | (exfalso; omega) | (intro h; exact absurd h (by split <;> decide)))
