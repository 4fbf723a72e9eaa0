set_option maxRecDepth 100000 in
set_option maxHeartbeats 4000000 in
theorem c_X0_readFixed (l : Launch) (G : GX) (s : Nat) (b : Nat) (a : Nat) (n : Int) (rd : Int) (e : Int) (B : Nat → Nat) (k : Nat) (x : Nat) (i8 : Nat) (d8 : Nat) (pl : Int) (af : Int) (wh : Int) (len : Int) (ror : Int) (rl : Int) (re : UInt64) (hn : 0 ≤ n ∧ n ≤ 3000) (hBb : ∀ j, B j < 256) (he : e = 0 ∨ e = 1) (hi : 0 ≤ pl ∧ pl < n) : CtI l G yX0_readFixed cX0_readFixed 5 (some .int) ({ frames := 3, cells := 0, slots := 0, locals := 67 } : Room) [.ref s, .ref k] [oBi s b, oBy b a n rd e, aB G a 3000 B, oTk k pl af wh re x len i8 d8 ror rl] (fun (z9 : Int) (w9 : va_W) => ∃ (pl2 : Int), ∃ (af2 : Int), ∃ (wh2 : Int), ∃ (len2 : Int), ∃ (re2 : UInt64), z9 = (fxA B n e pl) ∧ w9 = [oBi s b, oBy b a n rd e, aB G a 3000 B, oTk k pl2 af2 wh2 re2 x len2 i8 d8 ror rl] ∧ (z9 ≠ 0 → af2 = fxF B n pl ∧ pl2 = fxP B n pl) ∧ (z9 = 2 → re2 = fxR B n pl ∧ wh2 = 0 ∧ len2 = 0)) := by
  intro sz
  refine met_of (fun wc sz => va_Qi (qI _) (posW G wc sz) (va_A wc sz)) (by decide) [(0, .ref s), (1, .ref k)] rfl (Nat.le_of_ble_eq_true rfl) (fun K hK9 hnm X Y => ?_)
  subst hK9
  replace Y : RI K G (some .int) 0 0 _ := Y
  refine s_aload_n X dX0_readFixed_0 rfl 1 rfl ?_
  refine s_get X dX0_readFixed_1 fl_X0_51 3 rfl rfl ?_
  refine s_iconst X dX0_readFixed_4 ?_
  refine s_iadd X dX0_readFixed_5 ?_
  refine s_istore_n X dX0_readFixed_6 rfl [(2, .int (iI (pl + 2))), (0, .ref s), (1, .ref k)] (by decide) rfl ?_
  refine s_aload_n X dX0_readFixed_7 rfl 1 rfl ?_
  refine s_get X dX0_readFixed_8 fl_X0_9 0 rfl rfl ?_
  refine s_iload_n X dX0_readFixed_11 rfl 0 rfl ?_
  refine s_iconst X dX0_readFixed_12 ?_
  refine s_isub X dX0_readFixed_13 ?_
  refine s_cast (st' := [.int (iI (pl + 1)), .ref b]) (by rw [show pl + 2 - 1 = pl + 1 by omega]) rfl rfl ?_
  refine s_callIV X lk_X0_69 [1, 2] [0, 3] (wr := [oBi s b, oTk k pl af wh re x len i8 d8 ror rl]) rfl rfl (by decide) (by decide) (by decide) (c_X1_at (kl K) G b a n rd e B (pl + 1) (by assumption) (by assumption) (by omega)) rfl rfl dX0_readFixed_14 rfl rfl (Nat.le_of_ble_eq_true rfl) (by decide) (fun z1 w1 h1 => ?_)
  obtain ⟨rfl, rfl⟩ := h1
  show SW K G 5 0 0 17 [(2, .int (iI (pl + 2))), (0, .ref s), (1, .ref k)] [.int (iI (bA B n (pl + 1)))] [oBi s b, oTk k pl af wh re x len i8 d8 ror rl, oBy b a n rd e, aB G a 3000 B]
  have q2 := bA_C n (pl + 1) (by assumption : ∀ j, B j < 256)
  refine s_istore_n X dX0_readFixed_17 rfl [(3, .int (iI (bA B n (pl + 1)))), (2, .int (iI (pl + 2))), (0, .ref s), (1, .ref k)] (by decide) rfl ?_
  refine s_iload_n X dX0_readFixed_18 rfl 0 rfl ?_
  refine s_iconst X dX0_readFixed_19 ?_
  refine s_icmp_ne X 32 dX0_readFixed_20 (by decide) (by omega) (fun c20 => ?_) (fun c20 => ?_)
  · refine s_iload_n X dX0_readFixed_32 rfl 0 rfl ?_
    refine s_bipush 127 X dX0_readFixed_33 (by decide) ?_
    refine s_iand (z := (bA B n (pl + 1)) % 128) X dX0_readFixed_35 (by exact iand127 _) ?_
    refine s_bipush 48 X dX0_readFixed_36 (by decide) ?_
    refine s_icmp_lt X 51 dX0_readFixed_38 (by decide) (by omega) (fun c38 => ?_) (fun c38 => ?_)
    · refine s_iload_n X dX0_readFixed_51 rfl 0 rfl ?_
      refine s_callIS X lk_X0_77 [] [0, 1, 2, 3] (wr := [oBi s b, oTk k pl af wh re x len i8 d8 ror rl, oBy b a n rd e, aB G a 3000 B]) rfl rfl (by decide) (by decide) (by decide) (c_X0_widthOf (kl K) G (bA B n (pl + 1)) (by omega)) dX0_readFixed_52 rfl rfl (Nat.le_of_ble_eq_true rfl) (by decide) (fun z3 w3 h3 => ?_)
      obtain ⟨rfl, rfl⟩ := h3
      show SW K G 5 0 0 55 [(3, .int (iI (bA B n (pl + 1)))), (2, .int (iI (pl + 2))), (0, .ref s), (1, .ref k)] [.int (iI (wO (bA B n (pl + 1))))] [oBi s b, oTk k pl af wh re x len i8 d8 ror rl, oBy b a n rd e, aB G a 3000 B]
      have q4 := wO_c (bA B n (pl + 1))
      refine s_istore X dX0_readFixed_55 [(4, .int (iI (wO (bA B n (pl + 1))))), (3, .int (iI (bA B n (pl + 1)))), (2, .int (iI (pl + 2))), (0, .ref s), (1, .ref k)] (by decide) rfl ?_
      refine s_aload_n X dX0_readFixed_57 rfl 3 rfl ?_
      refine s_aload_n X dX0_readFixed_58 rfl 4 rfl ?_
      refine s_iload_n X dX0_readFixed_59 rfl 2 rfl ?_
      refine s_iload X dX0_readFixed_60 0 rfl ?_
      refine s_iadd X dX0_readFixed_62 ?_
      refine s_callIV X lk_X0_54 [0, 2, 1] [3] (wr := [aB G a 3000 B]) rfl rfl (by decide) (by decide) (by decide) (c_X0_reaches (kl K) G s b a n rd e k x i8 d8 pl af wh len ror rl re ((pl + 2) + (wO (bA B n (pl + 1)))) (by assumption) (by omega)) rfl rfl dX0_readFixed_63 rfl rfl (Nat.le_of_ble_eq_true rfl) (by decide) (fun z5 w5 h5 => ?_)
      obtain ⟨rfl, rfl⟩ := h5
      show SW K G 5 0 0 66 [(4, .int (iI (wO (bA B n (pl + 1))))), (3, .int (iI (bA B n (pl + 1)))), (2, .int (iI (pl + 2))), (0, .ref s), (1, .ref k)] [.int (iI (tf (((pl + 2) + (wO (bA B n (pl + 1)))) ≤ n)))] [aB G a 3000 B, oBi s b, oBy b a n rd e, oTk k pl ((pl + 2) + (wO (bA B n (pl + 1)))) wh re x len i8 d8 ror rl]
      refine s_tf_ne X 78 dX0_readFixed_66 (by decide) (fun c66 => ?_) (fun c66 => ?_)
      · refine s_aload_n X dX0_readFixed_78 rfl 4 rfl ?_
        refine s_aload_n X dX0_readFixed_79 rfl 3 rfl ?_
        refine s_iload_n X dX0_readFixed_80 rfl 2 rfl ?_
        refine s_iload X dX0_readFixed_81 0 rfl ?_
        refine s_iload_n X dX0_readFixed_83 rfl 1 rfl ?_
        refine s_sipush 128 X dX0_readFixed_84 (by decide) ?_
        refine s_icmp_lt X 94 dX0_readFixed_87 (by decide) (by omega) (fun c87 => ?_) (fun c87 => ?_)
        · refine s_iconst X dX0_readFixed_94 ?_
          have hlf9 := lfO_c (bA B n (pl + 1))
          refine s_cast (st' := [.int (iI (lfO (bA B n (pl + 1)))), .int (iI (wO (bA B n (pl + 1)))), .int (iI (pl + 2)), .ref s, .ref k]) (by rw [show lfO (bA B n (pl + 1)) = 0 from by (unfold lfO; first | rw [if_pos (by omega)] | rw [if_neg (by omega)])]) rfl rfl ?_
          refine s_callIV X lk_X0_61 [1, 2, 0] [3] (wr := [oTk k pl ((pl + 2) + (wO (bA B n (pl + 1)))) wh re x len i8 d8 ror rl]) rfl rfl (by decide) (by decide) (by decide) (c_X0_signedAt (kl K) G s b a n rd e B (pl + 2) (wO (bA B n (pl + 1))) (lfO (bA B n (pl + 1))) (by assumption) (by assumption) (by omega) (by omega) (by omega)) rfl rfl dX0_readFixed_95 rfl rfl (Nat.le_of_ble_eq_true rfl) (by decide) (fun z6 w6 h6 => ?_)
          obtain ⟨rfl, rfl⟩ := h6
          show SW K G 5 0 0 98 [(4, .int (iI (wO (bA B n (pl + 1))))), (3, .int (iI (bA B n (pl + 1)))), (2, .int (iI (pl + 2))), (0, .ref s), (1, .ref k)] [.int (iI (nmb B n (pl + 2) (wO (bA B n (pl + 1))) (lfO (bA B n (pl + 1))))), .ref k] [oTk k pl ((pl + 2) + (wO (bA B n (pl + 1)))) wh re x len i8 d8 ror rl, oBi s b, oBy b a n rd e, aB G a 3000 B]
          have q7 := nmb_R (B := B) (n := n) (i := (pl + 2)) (w := (wO (bA B n (pl + 1)))) (lf := (lfO (bA B n (pl + 1)))) (by assumption) (by omega) (by omega) (by omega)
          refine s_iload_n X dX0_readFixed_98 rfl 1 rfl ?_
          refine s_callDS X lk_X0_80 [] [0, 1, 2, 3] (wr := [oTk k pl ((pl + 2) + (wO (bA B n (pl + 1)))) wh re x len i8 d8 ror rl, oBi s b, oBy b a n rd e, aB G a 3000 B]) rfl rfl (by decide) (by decide) (by decide) (c_X0_fixedValue (kl K) G (nmb B n (pl + 2) (wO (bA B n (pl + 1))) (lfO (bA B n (pl + 1)))) (bA B n (pl + 1)) (by omega) (by omega)) dX0_readFixed_99 rfl rfl (Nat.le_of_ble_eq_true rfl) (by decide) (fun z8 w8 h8 => ?_)
          obtain ⟨rfl, rfl⟩ := h8
          show SW K G 5 0 0 102 [(4, .int (iI (wO (bA B n (pl + 1))))), (3, .int (iI (bA B n (pl + 1)))), (2, .int (iI (pl + 2))), (0, .ref s), (1, .ref k)] [.double (fxV (nmb B n (pl + 2) (wO (bA B n (pl + 1))) (lfO (bA B n (pl + 1)))) (bA B n (pl + 1))), .ref k] [oTk k pl ((pl + 2) + (wO (bA B n (pl + 1)))) wh re x len i8 d8 ror rl, oBi s b, oBy b a n rd e, aB G a 3000 B]
          refine s_callIV X lk_X0_84 [0] [1, 2, 3] (wr := [oBi s b, oBy b a n rd e, aB G a 3000 B]) rfl rfl (by decide) (by decide) (by decide) (c_X3_asReal (kl K) G k x i8 d8 pl ((pl + 2) + (wO (bA B n (pl + 1)))) wh len ror rl re (fxV (nmb B n (pl + 2) (wO (bA B n (pl + 1))) (lfO (bA B n (pl + 1)))) (bA B n (pl + 1)))) rfl rfl dX0_readFixed_102 rfl rfl (Nat.le_of_ble_eq_true rfl) (by decide) (fun z9 w9 h9 => ?_)
          obtain ⟨rfl, rfl⟩ := h9
          show SW K G 5 0 0 105 [(4, .int (iI (wO (bA B n (pl + 1))))), (3, .int (iI (bA B n (pl + 1)))), (2, .int (iI (pl + 2))), (0, .ref s), (1, .ref k)] [.int (iI 2)] [oBi s b, oBy b a n rd e, aB G a 3000 B, oTk k pl ((pl + 2) + (wO (bA B n (pl + 1)))) 0 (fxV (nmb B n (pl + 2) (wO (bA B n (pl + 1))) (lfO (bA B n (pl + 1)))) (bA B n (pl + 1))) x 0 i8 d8 ror rl]
          refine s_iret X Y dX0_readFixed_105 (rfl) ?_
          refine ⟨pl, ((pl + 2) + (wO (bA B n (pl + 1)))), 0, 0, (fxV (nmb B n (pl + 2) (wO (bA B n (pl + 1))) (lfO (bA B n (pl + 1)))) (bA B n (pl + 1))), ?_, rfl, ?_, ?_⟩
          · (first | (exfalso; omega) | (rw [fxA, if_neg (show ¬ n ≤ pl + 1 by omega), if_neg (show ¬ 48 ≤ (bA B n (pl + 1)) % 128 by omega)]; exact nuA_y (by assumption)))
          · (first | (exfalso; omega) | (intro h; rw [fxF, fxP, if_neg (show ¬ n ≤ pl + 1 by omega), if_neg (show ¬ 48 ≤ (bA B n (pl + 1)) % 128 by omega), if_neg (show ¬ (pl + 1 < n ∧ 48 ≤ (bA B n (pl + 1)) % 128) by omega)]; exact ⟨lk_y (by assumption), rfl⟩))
          · (first | (exfalso; omega) | (intro _; exact ⟨rfl, rfl, rfl⟩))
        · refine s_iconst X dX0_readFixed_90 ?_
          refine s_goto X 95 dX0_readFixed_91 (by decide) ?_
          have hlf9 := lfO_c (bA B n (pl + 1))
          refine s_cast (st' := [.int (iI (lfO (bA B n (pl + 1)))), .int (iI (wO (bA B n (pl + 1)))), .int (iI (pl + 2)), .ref s, .ref k]) (by rw [show lfO (bA B n (pl + 1)) = 1 from by (unfold lfO; first | rw [if_pos (by omega)] | rw [if_neg (by omega)])]) rfl rfl ?_
          refine s_callIV X lk_X0_61 [1, 2, 0] [3] (wr := [oTk k pl ((pl + 2) + (wO (bA B n (pl + 1)))) wh re x len i8 d8 ror rl]) rfl rfl (by decide) (by decide) (by decide) (c_X0_signedAt (kl K) G s b a n rd e B (pl + 2) (wO (bA B n (pl + 1))) (lfO (bA B n (pl + 1))) (by assumption) (by assumption) (by omega) (by omega) (by omega)) rfl rfl dX0_readFixed_95 rfl rfl (Nat.le_of_ble_eq_true rfl) (by decide) (fun z10 w10 h10 => ?_)
          obtain ⟨rfl, rfl⟩ := h10
          show SW K G 5 0 0 98 [(4, .int (iI (wO (bA B n (pl + 1))))), (3, .int (iI (bA B n (pl + 1)))), (2, .int (iI (pl + 2))), (0, .ref s), (1, .ref k)] [.int (iI (nmb B n (pl + 2) (wO (bA B n (pl + 1))) (lfO (bA B n (pl + 1))))), .ref k] [oTk k pl ((pl + 2) + (wO (bA B n (pl + 1)))) wh re x len i8 d8 ror rl, oBi s b, oBy b a n rd e, aB G a 3000 B]
          have q11 := nmb_R (B := B) (n := n) (i := (pl + 2)) (w := (wO (bA B n (pl + 1)))) (lf := (lfO (bA B n (pl + 1)))) (by assumption) (by omega) (by omega) (by omega)
          refine s_iload_n X dX0_readFixed_98 rfl 1 rfl ?_
          refine s_callDS X lk_X0_80 [] [0, 1, 2, 3] (wr := [oTk k pl ((pl + 2) + (wO (bA B n (pl + 1)))) wh re x len i8 d8 ror rl, oBi s b, oBy b a n rd e, aB G a 3000 B]) rfl rfl (by decide) (by decide) (by decide) (c_X0_fixedValue (kl K) G (nmb B n (pl + 2) (wO (bA B n (pl + 1))) (lfO (bA B n (pl + 1)))) (bA B n (pl + 1)) (by omega) (by omega)) dX0_readFixed_99 rfl rfl (Nat.le_of_ble_eq_true rfl) (by decide) (fun z12 w12 h12 => ?_)
          obtain ⟨rfl, rfl⟩ := h12
          show SW K G 5 0 0 102 [(4, .int (iI (wO (bA B n (pl + 1))))), (3, .int (iI (bA B n (pl + 1)))), (2, .int (iI (pl + 2))), (0, .ref s), (1, .ref k)] [.double (fxV (nmb B n (pl + 2) (wO (bA B n (pl + 1))) (lfO (bA B n (pl + 1)))) (bA B n (pl + 1))), .ref k] [oTk k pl ((pl + 2) + (wO (bA B n (pl + 1)))) wh re x len i8 d8 ror rl, oBi s b, oBy b a n rd e, aB G a 3000 B]
          refine s_callIV X lk_X0_84 [0] [1, 2, 3] (wr := [oBi s b, oBy b a n rd e, aB G a 3000 B]) rfl rfl (by decide) (by decide) (by decide) (c_X3_asReal (kl K) G k x i8 d8 pl ((pl + 2) + (wO (bA B n (pl + 1)))) wh len ror rl re (fxV (nmb B n (pl + 2) (wO (bA B n (pl + 1))) (lfO (bA B n (pl + 1)))) (bA B n (pl + 1)))) rfl rfl dX0_readFixed_102 rfl rfl (Nat.le_of_ble_eq_true rfl) (by decide) (fun z13 w13 h13 => ?_)
          obtain ⟨rfl, rfl⟩ := h13
          show SW K G 5 0 0 105 [(4, .int (iI (wO (bA B n (pl + 1))))), (3, .int (iI (bA B n (pl + 1)))), (2, .int (iI (pl + 2))), (0, .ref s), (1, .ref k)] [.int (iI 2)] [oBi s b, oBy b a n rd e, aB G a 3000 B, oTk k pl ((pl + 2) + (wO (bA B n (pl + 1)))) 0 (fxV (nmb B n (pl + 2) (wO (bA B n (pl + 1))) (lfO (bA B n (pl + 1)))) (bA B n (pl + 1))) x 0 i8 d8 ror rl]
          refine s_iret X Y dX0_readFixed_105 (rfl) ?_
          refine ⟨pl, ((pl + 2) + (wO (bA B n (pl + 1)))), 0, 0, (fxV (nmb B n (pl + 2) (wO (bA B n (pl + 1))) (lfO (bA B n (pl + 1)))) (bA B n (pl + 1))), ?_, rfl, ?_, ?_⟩
          · (first | (exfalso; omega) | (rw [fxA, if_neg (show ¬ n ≤ pl + 1 by omega), if_neg (show ¬ 48 ≤ (bA B n (pl + 1)) % 128 by omega)]; exact nuA_y (by assumption)))
          · (first | (exfalso; omega) | (intro h; rw [fxF, fxP, if_neg (show ¬ n ≤ pl + 1 by omega), if_neg (show ¬ 48 ≤ (bA B n (pl + 1)) % 128 by omega), if_neg (show ¬ (pl + 1 < n ∧ 48 ≤ (bA B n (pl + 1)) % 128) by omega)]; exact ⟨lk_y (by assumption), rfl⟩))
          · (first | (exfalso; omega) | (intro _; exact ⟨rfl, rfl, rfl⟩))
      · refine s_aload_n X dX0_readFixed_69 rfl 3 rfl ?_
        refine s_get X dX0_readFixed_70 fl_X0_9 1 rfl rfl ?_
        refine s_aload_n X dX0_readFixed_73 rfl 4 rfl ?_
        refine s_callIV X lk_X0_58 [2, 3] [0, 1] (wr := [aB G a 3000 B, oBi s b]) rfl rfl (by decide) (by decide) (by decide) (c_X1_lacking (kl K) G b a n rd e k x i8 d8 pl ((pl + 2) + (wO (bA B n (pl + 1)))) wh len ror rl re (by omega)) rfl rfl dX0_readFixed_74 rfl rfl (Nat.le_of_ble_eq_true rfl) (by decide) (fun z14 w14 h14 => ?_)
        obtain ⟨rfl, rfl⟩ := h14
        show SW K G 5 0 0 77 [(4, .int (iI (wO (bA B n (pl + 1))))), (3, .int (iI (bA B n (pl + 1)))), (2, .int (iI (pl + 2))), (0, .ref s), (1, .ref k)] [.int (iI (if e = 0 then 0 else -7))] [aB G a 3000 B, oBi s b, oBy b a n rd e, oTk k pl (if e = 0 then ((pl + 2) + (wO (bA B n (pl + 1)))) else n) wh re x len i8 d8 ror rl]
        refine s_perm (ws' := [oBi s b, oBy b a n rd e, aB G a 3000 B, oTk k pl (if e = 0 then ((pl + 2) + (wO (bA B n (pl + 1)))) else n) wh re x len i8 d8 ror rl]) [1, 2, 0, 3] (by decide) rfl rfl ?_
        refine s_iret X Y dX0_readFixed_77 (rfl) ?_
        refine ⟨pl, (if e = 0 then ((pl + 2) + (wO (bA B n (pl + 1)))) else n), wh, len, re, ?_, rfl, ?_, ?_⟩
        · (first | (exfalso; omega) | (rw [fxA, if_neg (show ¬ n ≤ pl + 1 by omega), if_neg (show ¬ 48 ≤ (bA B n (pl + 1)) % 128 by omega)]; exact nuA_n (by assumption)))
        · (first | (exfalso; omega) | (intro h; rw [fxF, fxP, if_neg (show ¬ n ≤ pl + 1 by omega), if_neg (show ¬ 48 ≤ (bA B n (pl + 1)) % 128 by omega), if_neg (show ¬ (pl + 1 < n ∧ 48 ≤ (bA B n (pl + 1)) % 128) by omega)]; exact ⟨lk_n (by assumption) h, rfl⟩))
        · (first | (exfalso; omega) | (intro h; exact absurd h (by split <;> decide)))
    · refine s_aload_n X dX0_readFixed_41 rfl 3 rfl ?_
      refine s_bipush (-5) X dX0_readFixed_42 (by decide) ?_
      refine s_iload_n X dX0_readFixed_44 rfl 1 rfl ?_
      refine s_iconst X dX0_readFixed_45 ?_
      refine s_isub X dX0_readFixed_46 ?_
      refine s_cast (st' := [.int (iI (pl + 1)), .int (iI (-5)), .ref k]) (by rw [show pl + 2 - 1 = pl + 1 by omega]) rfl rfl ?_
      refine s_callIV X lk_X0_73 [1] [0, 2, 3] (wr := [oBi s b, oBy b a n rd e, aB G a 3000 B]) rfl rfl (by decide) (by decide) (by decide) (c_X3_wrongByte (kl K) G k x i8 d8 pl af wh len ror rl re (-5) (pl + 1)) rfl rfl dX0_readFixed_47 rfl rfl (Nat.le_of_ble_eq_true rfl) (by decide) (fun z15 w15 h15 => ?_)
      obtain ⟨rfl, rfl⟩ := h15
      show SW K G 5 0 0 50 [(3, .int (iI (bA B n (pl + 1)))), (2, .int (iI (pl + 2))), (0, .ref s), (1, .ref k)] [.int (iI (-5))] [oBi s b, oBy b a n rd e, aB G a 3000 B, oTk k (pl + 1) ((pl + 1) + 1) wh re x len i8 d8 ror rl]
      refine s_iret X Y dX0_readFixed_50 (rfl) ?_
      refine ⟨(pl + 1), ((pl + 1) + 1), wh, len, re, ?_, rfl, ?_, ?_⟩
      · (first | (exfalso; omega) | (rw [fxA, if_neg (by omega), if_pos (by assumption)]))
      · (first | (exfalso; omega) | (intro _; rw [fxF, fxP, if_neg (by omega), if_pos (by assumption), if_pos (by omega)]; exact ⟨by omega, rfl⟩))
      · (first | (exfalso; omega) | (intro h; exact absurd h (by decide)))
  · refine s_aload_n X dX0_readFixed_23 rfl 2 rfl ?_
    refine s_get X dX0_readFixed_24 fl_X0_9 0 rfl rfl ?_
    refine s_aload_n X dX0_readFixed_27 rfl 3 rfl ?_
    refine s_callIV X lk_X0_58 [2, 1] [0, 3] (wr := [oBi s b, aB G a 3000 B]) rfl rfl (by decide) (by decide) (by decide) (c_X1_lacking (kl K) G b a n rd e k x i8 d8 pl af wh len ror rl re (by omega)) rfl rfl dX0_readFixed_28 rfl rfl (Nat.le_of_ble_eq_true rfl) (by decide) (fun z16 w16 h16 => ?_)
    obtain ⟨rfl, rfl⟩ := h16
    show SW K G 5 0 0 31 [(3, .int (iI (bA B n (pl + 1)))), (2, .int (iI (pl + 2))), (0, .ref s), (1, .ref k)] [.int (iI (if e = 0 then 0 else -7))] [oBi s b, aB G a 3000 B, oBy b a n rd e, oTk k pl (if e = 0 then af else n) wh re x len i8 d8 ror rl]
    refine s_perm (ws' := [oBi s b, oBy b a n rd e, aB G a 3000 B, oTk k pl (if e = 0 then af else n) wh re x len i8 d8 ror rl]) [0, 2, 1, 3] (by decide) rfl rfl ?_
    refine s_iret X Y dX0_readFixed_31 (rfl) ?_
    refine ⟨pl, (if e = 0 then af else n), wh, len, re, ?_, rfl, ?_, ?_⟩
    · (first | (exfalso; omega) | (rw [fxA, if_pos (show n ≤ pl + 1 by omega)]))
    · (first | (exfalso; omega) | (intro h; rw [fxF, fxP, if_pos (show n ≤ pl + 1 by omega), if_neg (show ¬ (pl + 1 < n ∧ 48 ≤ (bA B n (pl + 1)) % 128) by omega)]; exact ⟨lk_0 h, rfl⟩))
    · (first | (exfalso; omega) | (intro h; exact absurd h (by split <;> decide)))
set_option maxRecDepth 100000 in
set_option maxHeartbeats 4000000 in
theorem c_X0_readString (l : Launch) (G : GX) (s : Nat) (b : Nat) (a : Nat) (n : Int) (rd : Int) (e : Int) (B : Nat → Nat) (k : Nat) (x : Nat) (i8 : Nat) (d8 : Nat) (pl : Int) (af : Int) (wh : Int) (len : Int) (ror : Int) (rl : Int) (re : UInt64) (t : Nat → Nat) (w : Int) (lf : Int) (hn : 0 ≤ n ∧ n ≤ 3000) (hBb : ∀ j, B j < 256) (he : e = 0 ∨ e = 1) (hi : 0 ≤ pl ∧ pl < n) (htb : ∀ j, t j < 256) (h0 : len = 0) (hw : w = 1 ∨ w = 2) (hlf : lf = 0 ∨ lf = 1) : CtI l G yX0_readString cX0_readString 7 (some .int) ({ frames := 4, cells := 0, slots := 0, locals := 90 } : Room) [.ref s, .ref k, .int (iI w), .int (iI lf)] [oBi s b, oBy b a n rd e, aB G a 3000 B, oTk k pl af wh re x len i8 d8 ror rl, aB G x 401 t] (fun (z9 : Int) (w9 : va_W) => ∃ (af2 : Int), ∃ (wh2 : Int), ∃ (len2 : Int), ∃ (t2 : Nat → Nat), z9 = (sbA B n e pl w lf) ∧ w9 = [oBi s b, oBy b a n rd e, aB G a 3000 B, oTk k pl af2 wh2 re x len2 i8 d8 ror rl, aB G x 401 t2] ∧ (z9 ≠ 0 → af2 = sbF B n pl w lf) ∧ (z9 = 6 → wh2 = sbM B n pl w lf ∧ TX t2 len2 (wL B (pl + 1 + w) (sbM B n pl w lf).toNat)) ∧ (0 ≤ len2 ∧ len2 ≤ 401) ∧ (∀ j, t2 j < 256)) := by
  intro sz
  refine met_of (fun wc sz => va_Qi (qI _) (posW G wc sz) (va_A wc sz)) (by decide) [(0, .ref s), (1, .ref k), (2, .int (iI w)), (3, .int (iI lf))] rfl (Nat.le_of_ble_eq_true rfl) (fun K hK9 hnm X Y => ?_)
  subst hK9
  replace Y : RI K G (some .int) 0 0 _ := Y
  refine s_aload_n X dX0_readString_0 rfl 1 rfl ?_
  refine s_get X dX0_readString_1 fl_X0_51 3 rfl rfl ?_
  refine s_iconst X dX0_readString_4 ?_
  refine s_iadd X dX0_readString_5 ?_
  refine s_iload_n X dX0_readString_6 rfl 2 rfl ?_
  refine s_iadd X dX0_readString_7 ?_
  refine s_istore X dX0_readString_8 [(4, .int (iI ((pl + 1) + w))), (0, .ref s), (1, .ref k), (2, .int (iI w)), (3, .int (iI lf))] (by decide) rfl ?_
  refine s_aload_n X dX0_readString_10 rfl 1 rfl ?_
  refine s_aload_n X dX0_readString_11 rfl 2 rfl ?_
  refine s_iload X dX0_readString_12 0 rfl ?_
  refine s_callIV X lk_X0_54 [0, 1, 3] [2, 4] (wr := [aB G a 3000 B, aB G x 401 t]) rfl rfl (by decide) (by decide) (by decide) (c_X0_reaches (kl K) G s b a n rd e k x i8 d8 pl af wh len ror rl re ((pl + 1) + w) (by assumption) (by omega)) rfl rfl dX0_readString_14 rfl rfl (Nat.le_of_ble_eq_true rfl) (by decide) (fun z1 w1 h1 => ?_)
  obtain ⟨rfl, rfl⟩ := h1
  show SW K G 7 0 0 17 [(4, .int (iI ((pl + 1) + w))), (0, .ref s), (1, .ref k), (2, .int (iI w)), (3, .int (iI lf))] [.int (iI (tf (((pl + 1) + w) ≤ n)))] [aB G a 3000 B, aB G x 401 t, oBi s b, oBy b a n rd e, oTk k pl ((pl + 1) + w) wh re x len i8 d8 ror rl]
  refine s_tf_ne X 29 dX0_readString_17 (by decide) (fun c17 => ?_) (fun c17 => ?_)
  · refine s_iload X dX0_readString_29 0 rfl ?_
    refine s_aload_n X dX0_readString_31 rfl 1 rfl ?_
    refine s_iload X dX0_readString_32 0 rfl ?_
    refine s_iload_n X dX0_readString_34 rfl 3 rfl ?_
    refine s_isub X dX0_readString_35 ?_
    refine s_cast (st' := [.int (iI (pl + 1)), .ref s, .int (iI ((pl + 1) + w))]) (by rw [show pl + 1 + w - w = pl + 1 by omega]) rfl rfl ?_
    refine s_iload_n X dX0_readString_36 rfl 3 rfl ?_
    refine s_iload_n X dX0_readString_37 rfl 4 rfl ?_
    refine s_callIV X lk_X0_96 [2, 3, 0] [1, 4] (wr := [aB G x 401 t, oTk k pl ((pl + 1) + w) wh re x len i8 d8 ror rl]) rfl rfl (by decide) (by decide) (by decide) (c_X0_countAt (kl K) G s b a n rd e B (pl + 1) w lf (by assumption) (by assumption) (by omega) (by omega) (by omega)) rfl rfl dX0_readString_38 rfl rfl (Nat.le_of_ble_eq_true rfl) (by decide) (fun z2 w2 h2 => ?_)
    obtain ⟨rfl, rfl⟩ := h2
    show SW K G 7 0 0 41 [(4, .int (iI ((pl + 1) + w))), (0, .ref s), (1, .ref k), (2, .int (iI w)), (3, .int (iI lf))] [.int (iI (uu B n (pl + 1) w lf w.toNat)), .int (iI ((pl + 1) + w))] [aB G x 401 t, oTk k pl ((pl + 1) + w) wh re x len i8 d8 ror rl, oBi s b, oBy b a n rd e, aB G a 3000 B]
    have q3 := uu_R (B := B) (n := n) (i := (pl + 1)) (w := w) (lf := lf) (by assumption) (by omega) (by omega) (by omega)
    have hM : uu B n (pl + 1) w lf w.toNat = sbM B n pl w lf := rfl
    refine s_iadd X dX0_readString_41 ?_
    refine s_istore X dX0_readString_42 [(5, .int (iI (((pl + 1) + w) + (uu B n (pl + 1) w lf w.toNat)))), (4, .int (iI ((pl + 1) + w))), (0, .ref s), (1, .ref k), (2, .int (iI w)), (3, .int (iI lf))] (by decide) rfl ?_
    refine s_aload_n X dX0_readString_44 rfl 2 rfl ?_
    refine s_aload_n X dX0_readString_45 rfl 3 rfl ?_
    refine s_iload X dX0_readString_46 0 rfl ?_
    refine s_callIV X lk_X0_54 [2, 3, 1] [0, 4] (wr := [aB G x 401 t, aB G a 3000 B]) rfl rfl (by decide) (by decide) (by decide) (c_X0_reaches (kl K) G s b a n rd e k x i8 d8 pl ((pl + 1) + w) wh len ror rl re (((pl + 1) + w) + (uu B n (pl + 1) w lf w.toNat)) (by assumption) (by omega)) rfl rfl dX0_readString_48 rfl rfl (Nat.le_of_ble_eq_true rfl) (by decide) (fun z4 w4 h4 => ?_)
    obtain ⟨rfl, rfl⟩ := h4
    show SW K G 7 0 0 51 [(5, .int (iI (((pl + 1) + w) + (uu B n (pl + 1) w lf w.toNat)))), (4, .int (iI ((pl + 1) + w))), (0, .ref s), (1, .ref k), (2, .int (iI w)), (3, .int (iI lf))] [.int (iI (tf ((((pl + 1) + w) + (uu B n (pl + 1) w lf w.toNat)) ≤ n)))] [aB G x 401 t, aB G a 3000 B, oBi s b, oBy b a n rd e, oTk k pl (((pl + 1) + w) + (uu B n (pl + 1) w lf w.toNat)) wh re x len i8 d8 ror rl]
    refine s_tf_ne X 63 dX0_readString_51 (by decide) (fun c51 => ?_) (fun c51 => ?_)
    · refine s_iload X dX0_readString_63 1 rfl ?_
      refine s_istore X dX0_readString_65 [(6, .int (iI ((pl + 1) + w))), (5, .int (iI (((pl + 1) + w) + (uu B n (pl + 1) w lf w.toNat)))), (4, .int (iI ((pl + 1) + w))), (0, .ref s), (1, .ref k), (2, .int (iI w)), (3, .int (iI lf))] (by decide) rfl ?_
      have lp : ∀ (m9 : Nat) (i : Int) (ln : Int) (tt : Nat → Nat) (h1 : (pl + 1 + w) ≤ i ∧ i ≤ (pl + 1 + w + sbM B n pl w lf)) (h3 : TX tt ln (wL B (pl + 1 + w) (i - (pl + 1 + w)).toNat)), ((pl + 1 + w + sbM B n pl w lf) - i).toNat < m9 → SW K G 7 0 0 67 [(6, .int (iI i)), (5, .int (iI (((pl + 1) + w) + (uu B n (pl + 1) w lf w.toNat)))), (4, .int (iI ((pl + 1) + w))), (0, .ref s), (1, .ref k), (2, .int (iI w)), (3, .int (iI lf))] [] [aB G x 401 tt, aB G a 3000 B, oBi s b, oBy b a n rd e, oTk k pl (((pl + 1) + w) + (uu B n (pl + 1) w lf w.toNat)) wh re x ln i8 d8 ror rl] := by
        intro m9
        induction m9 with
        | zero => intro i ln tt h1 h3 hm9; exact absurd hm9 (Nat.not_lt_zero _)
        | succ m9 ih9 =>
          intro i ln tt h1 h3 hm9
          have hlen := TX_R h3
          refine s_iload X dX0_readString_67 0 rfl ?_
          refine s_iload X dX0_readString_69 1 rfl ?_
          refine s_icmp_ge X 93 dX0_readString_71 (by decide) (by omega) (fun c71 => ?_) (fun c71 => ?_)
          · refine s_aload_n X dX0_readString_93 rfl 4 rfl ?_
            refine s_bipush 6 X dX0_readString_94 (by decide) ?_
            refine s_sipush 400 X dX0_readString_96 (by decide) ?_
            refine s_callIV X lk_X0_103 [4] [0, 1, 2, 3] (wr := [aB G x 401 tt, aB G a 3000 B, oBi s b, oBy b a n rd e]) rfl rfl (by decide) (by decide) (by decide) (c_X3_asText (kl K) G k x i8 d8 pl (((pl + 1) + w) + (uu B n (pl + 1) w lf w.toNat)) wh ln ror rl re 6 400 (by omega) (by omega)) rfl rfl dX0_readString_99 rfl rfl (Nat.le_of_ble_eq_true rfl) (by decide) (fun z5 w5 h5 => ?_)
            obtain ⟨rfl, rfl⟩ := h5
            show SW K G 7 0 0 102 [(6, .int (iI i)), (5, .int (iI (((pl + 1) + w) + (uu B n (pl + 1) w lf w.toNat)))), (4, .int (iI ((pl + 1) + w))), (0, .ref s), (1, .ref k), (2, .int (iI w)), (3, .int (iI lf))] [.int (iI (if 400 < ln then -2 else 6))] [aB G x 401 tt, aB G a 3000 B, oBi s b, oBy b a n rd e, oTk k pl (((pl + 1) + w) + (uu B n (pl + 1) w lf w.toNat)) (if 400 < ln then wh else ln) re x ln i8 d8 ror rl]
            refine s_perm (ws' := [oBi s b, oBy b a n rd e, aB G a 3000 B, oTk k pl (((pl + 1) + w) + (uu B n (pl + 1) w lf w.toNat)) (if 400 < ln then wh else ln) re x ln i8 d8 ror rl, aB G x 401 tt]) [2, 3, 1, 4, 0] (by decide) rfl rfl ?_
            refine s_iret X Y dX0_readString_102 (rfl) ?_
            refine ⟨(((pl + 1) + w) + (uu B n (pl + 1) w lf w.toNat)), (if 400 < ln then wh else ln), ln, tt, ?_, rfl, ?_, ?_, ?_, ?_⟩
            · (first | (exfalso; omega) | (rw [sbA, ← nuA_y (show pl + 1 + w ≤ n by assumption), ← nuA_y (show (pl + 1 + w + sbM B n pl w lf) ≤ n by assumption)]; exact sb_400 h3 (by rw [wL_len]; omega)))
            · (first | (exfalso; omega) | (intro h; rw [sbF, if_pos (show pl + 1 + w ≤ n by assumption)]; exact lk_y (by assumption)))
            · (first | (exfalso; omega) | (intro h; rw [show i = (pl + 1 + w + sbM B n pl w lf) by omega] at h3; rw [show (pl + 1 + w + sbM B n pl w lf) - (pl + 1 + w) = sbM B n pl w lf by omega] at h3; exact sb_6 h3 (by rw [wL_len]; omega) h))
            · (first | (exfalso; omega) | (omega))
            · (first | (exfalso; omega) | (exact h3.2.2))
          · refine s_aload_n X dX0_readString_74 rfl 4 rfl ?_
            refine s_aload_n X dX0_readString_75 rfl 3 rfl ?_
            refine s_get X dX0_readString_76 fl_X0_9 2 rfl rfl ?_
            refine s_iload X dX0_readString_79 0 rfl ?_
            refine s_callIV X lk_X0_69 [3, 1] [0, 2, 4] (wr := [aB G x 401 tt, oBi s b, oTk k pl (((pl + 1) + w) + (uu B n (pl + 1) w lf w.toNat)) wh re x ln i8 d8 ror rl]) rfl rfl (by decide) (by decide) (by decide) (c_X1_at (kl K) G b a n rd e B i (by assumption) (by assumption) (by omega)) rfl rfl dX0_readString_81 rfl rfl (Nat.le_of_ble_eq_true rfl) (by decide) (fun z6 w6 h6 => ?_)
            obtain ⟨rfl, rfl⟩ := h6
            show SW K G 7 0 0 84 [(6, .int (iI i)), (5, .int (iI (((pl + 1) + w) + (uu B n (pl + 1) w lf w.toNat)))), (4, .int (iI ((pl + 1) + w))), (0, .ref s), (1, .ref k), (2, .int (iI w)), (3, .int (iI lf))] [.int (iI (bA B n i)), .ref k] [aB G x 401 tt, oBi s b, oTk k pl (((pl + 1) + w) + (uu B n (pl + 1) w lf w.toNat)) wh re x ln i8 d8 ror rl, oBy b a n rd e, aB G a 3000 B]
            have q7 := bA_C n i (by assumption : ∀ j, B j < 256)
            refine s_callVV X lk_X0_99 [2, 0] [1, 3, 4] (wr := [oBi s b, oBy b a n rd e, aB G a 3000 B]) rfl rfl (by decide) (by decide) (by decide) (c_X3_put (kl K) G k x i8 d8 pl (((pl + 1) + w) + (uu B n (pl + 1) w lf w.toNat)) wh ln ror rl re tt (bA B n i) (by omega)) rfl rfl dX0_readString_84 rfl rfl (Nat.le_of_ble_eq_true rfl) (by decide) (fun w8 h8 => ?_)
            obtain rfl := h8
            show SW K G 7 0 0 87 [(6, .int (iI i)), (5, .int (iI (((pl + 1) + w) + (uu B n (pl + 1) w lf w.toNat)))), (4, .int (iI ((pl + 1) + w))), (0, .ref s), (1, .ref k), (2, .int (iI w)), (3, .int (iI lf))] [] [oBi s b, oBy b a n rd e, aB G a 3000 B, oTk k pl (((pl + 1) + w) + (uu B n (pl + 1) w lf w.toNat)) wh re x (putL ln) i8 d8 ror rl, aB G x 401 (putT tt ln (bA B n i))]
            have q9 := putL_R (len := ln) (by omega)
            refine s_iinc (z := i + 1) X dX0_readString_87 0 rfl (by first | rfl | omega) [(6, .int (iI (i + 1))), (5, .int (iI (((pl + 1) + w) + (uu B n (pl + 1) w lf w.toNat)))), (4, .int (iI ((pl + 1) + w))), (0, .ref s), (1, .ref k), (2, .int (iI w)), (3, .int (iI lf))] (by decide) rfl ?_
            refine s_goto X 67 dX0_readString_90 (by decide) ?_
            refine s_perm (ws' := [aB G x 401 (putT tt ln (bA B n i)), aB G a 3000 B, oBi s b, oBy b a n rd e, oTk k pl (((pl + 1) + w) + (uu B n (pl + 1) w lf w.toNat)) wh re x (putL ln) i8 d8 ror rl]) [4, 2, 0, 1, 3] (by decide) rfl rfl ?_
            exact ih9 (i + 1) (putL ln) (putT tt ln (bA B n i)) (by omega) (by rw [wL_s h1.1, ← by8_B (k := i.toNat) hBb, ← bA_in (n := n) ⟨by omega, by omega⟩]; exact TX_put h3) (by omega)
      exact lp _ ((pl + 1) + w) len t (by omega) (by rw [show ((pl + 1 + w) - (pl + 1 + w)).toNat = 0 by omega]; subst h0; exact TX_0 htb) (Nat.lt_succ_self _)
    · refine s_aload_n X dX0_readString_54 rfl 2 rfl ?_
      refine s_get X dX0_readString_55 fl_X0_9 2 rfl rfl ?_
      refine s_aload_n X dX0_readString_58 rfl 3 rfl ?_
      refine s_callIV X lk_X0_58 [3, 4] [0, 1, 2] (wr := [aB G x 401 t, aB G a 3000 B, oBi s b]) rfl rfl (by decide) (by decide) (by decide) (c_X1_lacking (kl K) G b a n rd e k x i8 d8 pl (((pl + 1) + w) + (uu B n (pl + 1) w lf w.toNat)) wh len ror rl re (by omega)) rfl rfl dX0_readString_59 rfl rfl (Nat.le_of_ble_eq_true rfl) (by decide) (fun z10 w10 h10 => ?_)
      obtain ⟨rfl, rfl⟩ := h10
      show SW K G 7 0 0 62 [(5, .int (iI (((pl + 1) + w) + (uu B n (pl + 1) w lf w.toNat)))), (4, .int (iI ((pl + 1) + w))), (0, .ref s), (1, .ref k), (2, .int (iI w)), (3, .int (iI lf))] [.int (iI (if e = 0 then 0 else -7))] [aB G x 401 t, aB G a 3000 B, oBi s b, oBy b a n rd e, oTk k pl (if e = 0 then (((pl + 1) + w) + (uu B n (pl + 1) w lf w.toNat)) else n) wh re x len i8 d8 ror rl]
      refine s_perm (ws' := [oBi s b, oBy b a n rd e, aB G a 3000 B, oTk k pl (if e = 0 then (((pl + 1) + w) + (uu B n (pl + 1) w lf w.toNat)) else n) wh re x len i8 d8 ror rl, aB G x 401 t]) [2, 3, 1, 4, 0] (by decide) rfl rfl ?_
      refine s_iret X Y dX0_readString_62 (rfl) ?_
      refine ⟨(if e = 0 then (((pl + 1) + w) + (uu B n (pl + 1) w lf w.toNat)) else n), wh, len, t, ?_, rfl, ?_, ?_, ?_, ?_⟩
      · (first | (exfalso; omega) | (rw [sbA, ← nuA_y (show pl + 1 + w ≤ n by assumption)]; exact nuA_n (by assumption)))
      · (first | (exfalso; omega) | (intro h; rw [sbF, if_pos (show pl + 1 + w ≤ n by assumption)]; exact lk_n (by assumption) h))
      · (first | (exfalso; omega) | (intro h; exact absurd h (by split <;> decide)))
      · (first | (exfalso; omega) | (omega))
      · (first | (exfalso; omega) | (assumption))
  · refine s_aload_n X dX0_readString_20 rfl 1 rfl ?_
    refine s_get X dX0_readString_21 fl_X0_9 2 rfl rfl ?_
    refine s_aload_n X dX0_readString_24 rfl 2 rfl ?_
    refine s_callIV X lk_X0_58 [3, 4] [0, 1, 2] (wr := [aB G a 3000 B, aB G x 401 t, oBi s b]) rfl rfl (by decide) (by decide) (by decide) (c_X1_lacking (kl K) G b a n rd e k x i8 d8 pl ((pl + 1) + w) wh len ror rl re (by omega)) rfl rfl dX0_readString_25 rfl rfl (Nat.le_of_ble_eq_true rfl) (by decide) (fun z11 w11 h11 => ?_)
    obtain ⟨rfl, rfl⟩ := h11
    show SW K G 7 0 0 28 [(4, .int (iI ((pl + 1) + w))), (0, .ref s), (1, .ref k), (2, .int (iI w)), (3, .int (iI lf))] [.int (iI (if e = 0 then 0 else -7))] [aB G a 3000 B, aB G x 401 t, oBi s b, oBy b a n rd e, oTk k pl (if e = 0 then ((pl + 1) + w) else n) wh re x len i8 d8 ror rl]
    refine s_perm (ws' := [oBi s b, oBy b a n rd e, aB G a 3000 B, oTk k pl (if e = 0 then ((pl + 1) + w) else n) wh re x len i8 d8 ror rl, aB G x 401 t]) [2, 3, 0, 4, 1] (by decide) rfl rfl ?_
    refine s_iret X Y dX0_readString_28 (rfl) ?_
    refine ⟨(if e = 0 then ((pl + 1) + w) else n), wh, len, t, ?_, rfl, ?_, ?_, ?_, ?_⟩
    · (first | (exfalso; omega) | (exact nuA_n (by assumption)))
    · (first | (exfalso; omega) | (intro h; rw [sbF, if_neg (show ¬ pl + 1 + w ≤ n by assumption)]; exact lk_0 h))
    · (first | (exfalso; omega) | (intro h; exact absurd h (by split <;> decide)))
    · (first | (exfalso; omega) | (omega))
    · (first | (exfalso; omega) | (assumption))
