set_option maxRecDepth 100000 in
set_option maxHeartbeats 4000000 in
theorem c_X0_readRow (l : Launch) (G : GX) (s : Nat) (b : Nat) (a : Nat) (n : Int) (rd : Int) (e : Int) (B : Nat → Nat) (k : Nat) (x : Nat) (i8 : Nat) (d8 : Nat) (pl : Int) (af : Int) (wh : Int) (len : Int) (ror : Int) (rl : Int) (re : UInt64) (rn : Nat → Int) (rr : Nat → UInt64) (hn : 0 ≤ n ∧ n ≤ 3000) (hBb : ∀ j, B j < 256) (he : e = 0 ∨ e = 1) (hi : 0 ≤ pl ∧ pl < n) (h0 : rl = 0) (hr0 : ror = 0 ∨ ror = 1) : CtI l G yX0_readRow cX0_readRow 5 (some .int) ({ frames := 4, cells := 0, slots := 0, locals := 96 } : Room) [.ref s, .ref k] [oBi s b, oBy b a n rd e, aB G a 3000 B, oTk k pl af wh re x len i8 d8 ror rl, aI G i8 60 rn, aF G d8 60 rr] (fun (z9 : Int) (w9 : va_W) => ∃ (pl2 : Int), ∃ (af2 : Int), ∃ (wh2 : Int), ∃ (len2 : Int), ∃ (ror2 : Int), ∃ (rl2 : Int), ∃ (rn2 : Nat → Int), ∃ (rr2 : Nat → UInt64), z9 = (rwA B n e pl) ∧ w9 = [oBi s b, oBy b a n rd e, aB G a 3000 B, oTk k pl2 af2 wh2 re x len2 i8 d8 ror2 rl2, aI G i8 60 rn2, aF G d8 60 rr2] ∧ (z9 ≠ 0 → af2 = rwF B n pl ∧ pl2 = rwP B n pl) ∧ (z9 = 16 → wh2 = rwM B n pl ∧ len2 = 0 ∧ rl2 = rwM B n pl ∧ ror2 = tf (rwR (bA B n (pl + 1))) ∧ (0 ≤ rl2 ∧ rl2 ≤ 60) ∧ ∀ j : Int, 0 ≤ j → j < rl2 → rn2 j.toNat = rowN B n (pl + 4) (bA B n (pl + 1)) j ∧ rr2 j.toNat = rowD B n (pl + 4) (bA B n (pl + 1)) j) ∧ (ror2 = 0 ∨ ror2 = 1)) := by
  intro sz
  refine met_of (fun wc sz => va_Qi (qI _) (posW G wc sz) (va_A wc sz)) (by decide) [(0, .ref s), (1, .ref k)] rfl (Nat.le_of_ble_eq_true rfl) (fun K hK9 hnm X Y => ?_)
  subst hK9
  replace Y : RI K G (some .int) 0 0 _ := Y
  refine s_aload_n X dX0_readRow_0 rfl 1 rfl ?_
  refine s_get X dX0_readRow_1 fl_X0_51 3 rfl rfl ?_
  refine s_iconst X dX0_readRow_4 ?_
  refine s_iadd X dX0_readRow_5 ?_
  refine s_istore_n X dX0_readRow_6 rfl [(2, .int (iI (pl + 4))), (0, .ref s), (1, .ref k)] (by decide) rfl ?_
  refine s_aload_n X dX0_readRow_7 rfl 1 rfl ?_
  refine s_get X dX0_readRow_8 fl_X0_9 0 rfl rfl ?_
  refine s_aload_n X dX0_readRow_11 rfl 2 rfl ?_
  refine s_get X dX0_readRow_12 fl_X0_51 3 rfl rfl ?_
  refine s_iconst X dX0_readRow_15 ?_
  refine s_iadd X dX0_readRow_16 ?_
  refine s_callIV X lk_X0_69 [1, 2] [0, 3, 4, 5] (wr := [oBi s b, oTk k pl af wh re x len i8 d8 ror rl, aI G i8 60 rn, aF G d8 60 rr]) rfl rfl (by decide) (by decide) (by decide) (c_X1_at (kl K) G b a n rd e B (pl + 1) (by assumption) (by assumption) (by omega)) rfl rfl dX0_readRow_17 rfl rfl (Nat.le_of_ble_eq_true rfl) (by decide) (fun z1 w1 h1 => ?_)
  obtain ⟨rfl, rfl⟩ := h1
  show SW K G 5 0 0 20 [(2, .int (iI (pl + 4))), (0, .ref s), (1, .ref k)] [.int (iI (bA B n (pl + 1)))] [oBi s b, oTk k pl af wh re x len i8 d8 ror rl, aI G i8 60 rn, aF G d8 60 rr, oBy b a n rd e, aB G a 3000 B]
  have q2 := bA_C n (pl + 1) (by assumption : ∀ j, B j < 256)
  refine s_istore_n X dX0_readRow_20 rfl [(3, .int (iI (bA B n (pl + 1)))), (2, .int (iI (pl + 4))), (0, .ref s), (1, .ref k)] (by decide) rfl ?_
  refine s_iload_n X dX0_readRow_21 rfl 0 rfl ?_
  refine s_iconst X dX0_readRow_22 ?_
  refine s_icmp_eq X 48 dX0_readRow_23 (by decide) (by omega) (fun c23 => ?_) (fun c23 => ?_)
  · refine s_aload_n X dX0_readRow_48 rfl 2 rfl ?_
    refine s_aload_n X dX0_readRow_49 rfl 3 rfl ?_
    refine s_iload_n X dX0_readRow_50 rfl 1 rfl ?_
    refine s_callIV X lk_X0_54 [0, 4, 1] [2, 3, 5] (wr := [aI G i8 60 rn, aF G d8 60 rr, aB G a 3000 B]) rfl rfl (by decide) (by decide) (by decide) (c_X0_reaches (kl K) G s b a n rd e k x i8 d8 pl af wh len ror rl re (pl + 4) (by assumption) (by omega)) rfl rfl dX0_readRow_51 rfl rfl (Nat.le_of_ble_eq_true rfl) (by decide) (fun z3 w3 h3 => ?_)
    obtain ⟨rfl, rfl⟩ := h3
    show SW K G 5 0 0 54 [(3, .int (iI (bA B n (pl + 1)))), (2, .int (iI (pl + 4))), (0, .ref s), (1, .ref k)] [.int (iI (tf ((pl + 4) ≤ n)))] [aI G i8 60 rn, aF G d8 60 rr, aB G a 3000 B, oBi s b, oBy b a n rd e, oTk k pl (pl + 4) wh re x len i8 d8 ror rl]
    refine s_tf_ne X 66 dX0_readRow_54 (by decide) (fun c54 => ?_) (fun c54 => ?_)
    · exfalso; omega
    · refine s_aload_n X dX0_readRow_57 rfl 2 rfl ?_
      refine s_get X dX0_readRow_58 fl_X0_9 3 rfl rfl ?_
      refine s_aload_n X dX0_readRow_61 rfl 3 rfl ?_
      refine s_callIV X lk_X0_58 [4, 5] [0, 1, 2, 3] (wr := [aI G i8 60 rn, aF G d8 60 rr, aB G a 3000 B, oBi s b]) rfl rfl (by decide) (by decide) (by decide) (c_X1_lacking (kl K) G b a n rd e k x i8 d8 pl (pl + 4) wh len ror rl re (by omega)) rfl rfl dX0_readRow_62 rfl rfl (Nat.le_of_ble_eq_true rfl) (by decide) (fun z4 w4 h4 => ?_)
      obtain ⟨rfl, rfl⟩ := h4
      show SW K G 5 0 0 65 [(3, .int (iI (bA B n (pl + 1)))), (2, .int (iI (pl + 4))), (0, .ref s), (1, .ref k)] [.int (iI (if e = 0 then 0 else -7))] [aI G i8 60 rn, aF G d8 60 rr, aB G a 3000 B, oBi s b, oBy b a n rd e, oTk k pl (if e = 0 then (pl + 4) else n) wh re x len i8 d8 ror rl]
      refine s_perm (ws' := [oBi s b, oBy b a n rd e, aB G a 3000 B, oTk k pl (if e = 0 then (pl + 4) else n) wh re x len i8 d8 ror rl, aI G i8 60 rn, aF G d8 60 rr]) [3, 4, 2, 5, 0, 1] (by decide) rfl rfl ?_
      refine s_iret X Y dX0_readRow_65 (rfl) ?_
      refine ⟨pl, (if e = 0 then (pl + 4) else n), wh, len, ror, rl, rn, rr, ?_, rfl, ?_, ?_, ?_⟩
      · (first | (exfalso; omega) | (rw [rwA, if_neg (show ¬ (pl + 1 < n ∧ 48 < (bA B n (pl + 1)) % 128) by omega)]; exact nuA_n (by assumption)))
      · (first | (exfalso; omega) | (intro h; rw [rwF, rwP, if_neg (show ¬ (pl + 1 < n ∧ 48 < (bA B n (pl + 1)) % 128) by omega), if_neg (show ¬ (pl + 1 < n ∧ 48 < (bA B n (pl + 1)) % 128) by omega), if_neg (show ¬ pl + 4 ≤ n by assumption)]; exact ⟨lk_0 h, rfl⟩))
      · (first | (exfalso; omega) | (intro h; exact absurd h (by split <;> decide)))
      · (first | (exfalso; omega) | (exact hr0))
  · refine s_iload_n X dX0_readRow_26 rfl 0 rfl ?_
    refine s_bipush 127 X dX0_readRow_27 (by decide) ?_
    refine s_iand (z := (bA B n (pl + 1)) % 128) X dX0_readRow_29 (by exact iand127 _) ?_
    refine s_bipush 48 X dX0_readRow_30 (by decide) ?_
    refine s_icmp_le X 48 dX0_readRow_32 (by decide) (by omega) (fun c32 => ?_) (fun c32 => ?_)
    · refine s_aload_n X dX0_readRow_48 rfl 2 rfl ?_
      refine s_aload_n X dX0_readRow_49 rfl 3 rfl ?_
      refine s_iload_n X dX0_readRow_50 rfl 1 rfl ?_
      refine s_callIV X lk_X0_54 [0, 4, 1] [2, 3, 5] (wr := [aI G i8 60 rn, aF G d8 60 rr, aB G a 3000 B]) rfl rfl (by decide) (by decide) (by decide) (c_X0_reaches (kl K) G s b a n rd e k x i8 d8 pl af wh len ror rl re (pl + 4) (by assumption) (by omega)) rfl rfl dX0_readRow_51 rfl rfl (Nat.le_of_ble_eq_true rfl) (by decide) (fun z5 w5 h5 => ?_)
      obtain ⟨rfl, rfl⟩ := h5
      show SW K G 5 0 0 54 [(3, .int (iI (bA B n (pl + 1)))), (2, .int (iI (pl + 4))), (0, .ref s), (1, .ref k)] [.int (iI (tf ((pl + 4) ≤ n)))] [aI G i8 60 rn, aF G d8 60 rr, aB G a 3000 B, oBi s b, oBy b a n rd e, oTk k pl (pl + 4) wh re x len i8 d8 ror rl]
      refine s_tf_ne X 66 dX0_readRow_54 (by decide) (fun c54 => ?_) (fun c54 => ?_)
      · refine s_aload_n X dX0_readRow_66 rfl 2 rfl ?_
        refine s_iload_n X dX0_readRow_67 rfl 1 rfl ?_
        refine s_iconst X dX0_readRow_68 ?_
        refine s_isub X dX0_readRow_69 ?_
        refine s_cast (st' := [.int (iI (pl + 2)), .ref s]) (by rw [show pl + 4 - 2 = pl + 2 by omega]) rfl rfl ?_
        refine s_iconst X dX0_readRow_70 ?_
        refine s_iload_n X dX0_readRow_71 rfl 0 rfl ?_
        refine s_sipush 128 X dX0_readRow_72 (by decide) ?_
        refine s_icmp_lt X 82 dX0_readRow_75 (by decide) (by omega) (fun c75 => ?_) (fun c75 => ?_)
        · refine s_iconst X dX0_readRow_82 ?_
          have hlf9 := lfO_c (bA B n (pl + 1))
          have hw9 := wO_c (bA B n (pl + 1))
          refine s_cast (st' := [.int (iI (lfO (bA B n (pl + 1)))), .int (iI 2), .int (iI (pl + 2)), .ref s]) (by rw [show lfO (bA B n (pl + 1)) = 0 from by (unfold lfO; first | rw [if_pos (by omega)] | rw [if_neg (by omega)])]) rfl rfl ?_
          refine s_callIV X lk_X0_96 [3, 4, 2] [0, 1, 5] (wr := [aI G i8 60 rn, aF G d8 60 rr, oTk k pl (pl + 4) wh re x len i8 d8 ror rl]) rfl rfl (by decide) (by decide) (by decide) (c_X0_countAt (kl K) G s b a n rd e B (pl + 2) 2 (lfO (bA B n (pl + 1))) (by assumption) (by assumption) (by omega) (by omega) (by omega)) rfl rfl dX0_readRow_83 rfl rfl (Nat.le_of_ble_eq_true rfl) (by decide) (fun z6 w6 h6 => ?_)
          obtain ⟨rfl, rfl⟩ := h6
          show SW K G 5 0 0 86 [(3, .int (iI (bA B n (pl + 1)))), (2, .int (iI (pl + 4))), (0, .ref s), (1, .ref k)] [.int (iI (uu B n (pl + 2) 2 (lfO (bA B n (pl + 1))) (2 : Int).toNat))] [aI G i8 60 rn, aF G d8 60 rr, oTk k pl (pl + 4) wh re x len i8 d8 ror rl, oBi s b, oBy b a n rd e, aB G a 3000 B]
          have q7 := uu_R (B := B) (n := n) (i := (pl + 2)) (w := 2) (lf := (lfO (bA B n (pl + 1)))) (by assumption) (by omega) (by omega) (by omega)
          have hM : uu B n (pl + 2) 2 (lfO (bA B n (pl + 1))) (2 : Int).toNat = rwM B n pl := rfl
          have hmw := m_w hw9 (m := rwM B n pl) (by omega)
          have hQ : rwQ B n pl = pl + 4 + rwM B n pl * wO (bA B n (pl + 1)) := rfl
          refine s_cast (st' := [.int (iI (rwM B n pl))]) (by rfl) rfl rfl ?_
          refine s_istore X dX0_readRow_86 [(4, .int (iI (rwM B n pl))), (3, .int (iI (bA B n (pl + 1)))), (2, .int (iI (pl + 4))), (0, .ref s), (1, .ref k)] (by decide) rfl ?_
          refine s_aload_n X dX0_readRow_88 rfl 3 rfl ?_
          refine s_aload_n X dX0_readRow_89 rfl 4 rfl ?_
          refine s_iload_n X dX0_readRow_90 rfl 2 rfl ?_
          refine s_iload X dX0_readRow_91 0 rfl ?_
          refine s_iload_n X dX0_readRow_93 rfl 1 rfl ?_
          refine s_callIS X lk_X0_77 [] [0, 1, 2, 3, 4, 5] (wr := [aI G i8 60 rn, aF G d8 60 rr, oTk k pl (pl + 4) wh re x len i8 d8 ror rl, oBi s b, oBy b a n rd e, aB G a 3000 B]) rfl rfl (by decide) (by decide) (by decide) (c_X0_widthOf (kl K) G (bA B n (pl + 1)) (by omega)) dX0_readRow_94 rfl rfl (Nat.le_of_ble_eq_true rfl) (by decide) (fun z8 w8 h8 => ?_)
          obtain ⟨rfl, rfl⟩ := h8
          show SW K G 5 0 0 97 [(4, .int (iI (rwM B n pl))), (3, .int (iI (bA B n (pl + 1)))), (2, .int (iI (pl + 4))), (0, .ref s), (1, .ref k)] [.int (iI (wO (bA B n (pl + 1)))), .int (iI (rwM B n pl)), .int (iI (pl + 4)), .ref k, .ref s] [aI G i8 60 rn, aF G d8 60 rr, oTk k pl (pl + 4) wh re x len i8 d8 ror rl, oBi s b, oBy b a n rd e, aB G a 3000 B]
          have q9 := wO_c (bA B n (pl + 1))
          refine s_imul X dX0_readRow_97 ?_
          refine s_iadd X dX0_readRow_98 ?_
          refine s_callIV X lk_X0_54 [3, 4, 2] [0, 1, 5] (wr := [aI G i8 60 rn, aF G d8 60 rr, aB G a 3000 B]) rfl rfl (by decide) (by decide) (by decide) (c_X0_reaches (kl K) G s b a n rd e k x i8 d8 pl (pl + 4) wh len ror rl re ((pl + 4) + ((rwM B n pl) * (wO (bA B n (pl + 1))))) (by assumption) (by omega)) rfl rfl dX0_readRow_99 rfl rfl (Nat.le_of_ble_eq_true rfl) (by decide) (fun z10 w10 h10 => ?_)
          obtain ⟨rfl, rfl⟩ := h10
          show SW K G 5 0 0 102 [(4, .int (iI (rwM B n pl))), (3, .int (iI (bA B n (pl + 1)))), (2, .int (iI (pl + 4))), (0, .ref s), (1, .ref k)] [.int (iI (tf (((pl + 4) + ((rwM B n pl) * (wO (bA B n (pl + 1))))) ≤ n)))] [aI G i8 60 rn, aF G d8 60 rr, aB G a 3000 B, oBi s b, oBy b a n rd e, oTk k pl ((pl + 4) + ((rwM B n pl) * (wO (bA B n (pl + 1))))) wh re x len i8 d8 ror rl]
          refine s_tf_ne X 114 dX0_readRow_102 (by decide) (fun c102 => ?_) (fun c102 => ?_)
          · refine s_iload X dX0_readRow_114 0 rfl ?_
            refine s_bipush 60 X dX0_readRow_116 (by decide) ?_
            refine s_icmp_le X 126 dX0_readRow_118 (by decide) (by omega) (fun c118 => ?_) (fun c118 => ?_)
            · refine s_aload_n X dX0_readRow_126 rfl 3 rfl ?_
              refine s_aload_n X dX0_readRow_127 rfl 4 rfl ?_
              refine s_iload_n X dX0_readRow_128 rfl 2 rfl ?_
              refine s_iload X dX0_readRow_129 0 rfl ?_
              refine s_iload_n X dX0_readRow_131 rfl 1 rfl ?_
              refine s_callIV X lk_X0_106 [3, 4, 2, 5, 0, 1] [] (wr := []) rfl rfl (by decide) (by decide) (by decide) (c_X0_fillRow (kl K) G s b a n rd e B k x i8 d8 pl ((pl + 4) + ((rwM B n pl) * (wO (bA B n (pl + 1))))) wh len ror rl re rn rr (pl + 4) (rwM B n pl) (bA B n (pl + 1)) (by assumption) (by assumption) (by omega) (by omega) (by omega) (by assumption) (by omega)) rfl rfl dX0_readRow_132 rfl rfl (Nat.le_of_ble_eq_true rfl) (by decide) (fun z11 w11 h11 => ?_)
              obtain ⟨wh211, len211, ror211, rl211, rn211, rr211, rfl, rfl, f11_0, f11_1⟩ := h11
              show SW K G 5 0 0 135 [(4, .int (iI (rwM B n pl))), (3, .int (iI (bA B n (pl + 1)))), (2, .int (iI (pl + 4))), (0, .ref s), (1, .ref k)] [.int (iI (frA B n (pl + 4) (bA B n (pl + 1)) (rwM B n pl)))] [oBi s b, oBy b a n rd e, aB G a 3000 B, oTk k pl ((pl + 4) + ((rwM B n pl) * (wO (bA B n (pl + 1))))) wh211 re x len211 i8 d8 ror211 rl211, aI G i8 60 rn211, aF G d8 60 rr211]
              have g0 := f11_0
              have g1 := f11_1
              refine s_iret X Y dX0_readRow_135 (rfl) ?_
              refine ⟨pl, ((pl + 4) + ((rwM B n pl) * (wO (bA B n (pl + 1))))), wh211, len211, ror211, rl211, rn211, rr211, ?_, rfl, ?_, ?_, ?_⟩
              · (first | (exfalso; omega) | (rw [rwA, if_neg (show ¬ (pl + 1 < n ∧ 48 < (bA B n (pl + 1)) % 128) by omega), ← nuA_y (show pl + 4 ≤ n by assumption), ← nuA_y (show rwQ B n pl ≤ n by assumption)]; rw [if_neg (by omega)]))
              · (first | (exfalso; omega) | (intro _; rw [rwF, rwP, if_neg (show ¬ (pl + 1 < n ∧ 48 < (bA B n (pl + 1)) % 128) by omega), if_neg (show ¬ (pl + 1 < n ∧ 48 < (bA B n (pl + 1)) % 128) by omega), if_pos (show pl + 4 ≤ n by assumption)]; exact ⟨lk_y (by assumption), rfl⟩))
              · (first | (exfalso; omega) | (intro h; obtain ⟨a1, a2, a3, a4, a5⟩ := g0 h; exact ⟨a1, a2, a3, a4, by omega, fun j b1 b2 => a5 j b1 (by omega)⟩))
              · (first | (exfalso; omega) | (exact g1))
            · refine s_bipush (-2) X dX0_readRow_121 (by decide) ?_
              refine s_goto X 135 dX0_readRow_123 (by decide) ?_
              refine s_perm (ws' := [oBi s b, oBy b a n rd e, aB G a 3000 B, oTk k pl ((pl + 4) + ((rwM B n pl) * (wO (bA B n (pl + 1))))) wh re x len i8 d8 ror rl, aI G i8 60 rn, aF G d8 60 rr]) [3, 4, 2, 5, 0, 1] (by decide) rfl rfl ?_
              refine s_iret X Y dX0_readRow_135 (rfl) ?_
              refine ⟨pl, ((pl + 4) + ((rwM B n pl) * (wO (bA B n (pl + 1))))), wh, len, ror, rl, rn, rr, ?_, rfl, ?_, ?_, ?_⟩
              · (first | (exfalso; omega) | (rw [rwA, if_neg (show ¬ (pl + 1 < n ∧ 48 < (bA B n (pl + 1)) % 128) by omega), ← nuA_y (show pl + 4 ≤ n by assumption), ← nuA_y (show rwQ B n pl ≤ n by assumption)]; rw [if_pos (by assumption)]))
              · (first | (exfalso; omega) | (intro _; rw [rwF, rwP, if_neg (show ¬ (pl + 1 < n ∧ 48 < (bA B n (pl + 1)) % 128) by omega), if_neg (show ¬ (pl + 1 < n ∧ 48 < (bA B n (pl + 1)) % 128) by omega), if_pos (show pl + 4 ≤ n by assumption)]; exact ⟨lk_y (by assumption), rfl⟩))
              · (first | (exfalso; omega) | (intro h; exact absurd h (by decide)))
              · (first | (exfalso; omega) | (exact hr0))
          · refine s_aload_n X dX0_readRow_105 rfl 3 rfl ?_
            refine s_get X dX0_readRow_106 fl_X0_9 3 rfl rfl ?_
            refine s_aload_n X dX0_readRow_109 rfl 4 rfl ?_
            refine s_callIV X lk_X0_58 [4, 5] [0, 1, 2, 3] (wr := [aI G i8 60 rn, aF G d8 60 rr, aB G a 3000 B, oBi s b]) rfl rfl (by decide) (by decide) (by decide) (c_X1_lacking (kl K) G b a n rd e k x i8 d8 pl ((pl + 4) + ((rwM B n pl) * (wO (bA B n (pl + 1))))) wh len ror rl re (by omega)) rfl rfl dX0_readRow_110 rfl rfl (Nat.le_of_ble_eq_true rfl) (by decide) (fun z12 w12 h12 => ?_)
            obtain ⟨rfl, rfl⟩ := h12
            show SW K G 5 0 0 113 [(4, .int (iI (rwM B n pl))), (3, .int (iI (bA B n (pl + 1)))), (2, .int (iI (pl + 4))), (0, .ref s), (1, .ref k)] [.int (iI (if e = 0 then 0 else -7))] [aI G i8 60 rn, aF G d8 60 rr, aB G a 3000 B, oBi s b, oBy b a n rd e, oTk k pl (if e = 0 then ((pl + 4) + ((rwM B n pl) * (wO (bA B n (pl + 1))))) else n) wh re x len i8 d8 ror rl]
            refine s_perm (ws' := [oBi s b, oBy b a n rd e, aB G a 3000 B, oTk k pl (if e = 0 then ((pl + 4) + ((rwM B n pl) * (wO (bA B n (pl + 1))))) else n) wh re x len i8 d8 ror rl, aI G i8 60 rn, aF G d8 60 rr]) [3, 4, 2, 5, 0, 1] (by decide) rfl rfl ?_
            refine s_iret X Y dX0_readRow_113 (rfl) ?_
            refine ⟨pl, (if e = 0 then ((pl + 4) + ((rwM B n pl) * (wO (bA B n (pl + 1))))) else n), wh, len, ror, rl, rn, rr, ?_, rfl, ?_, ?_, ?_⟩
            · (first | (exfalso; omega) | (rw [rwA, if_neg (show ¬ (pl + 1 < n ∧ 48 < (bA B n (pl + 1)) % 128) by omega), ← nuA_y (show pl + 4 ≤ n by assumption)]; exact nuA_n (by assumption)))
            · (first | (exfalso; omega) | (intro h; rw [rwF, rwP, if_neg (show ¬ (pl + 1 < n ∧ 48 < (bA B n (pl + 1)) % 128) by omega), if_neg (show ¬ (pl + 1 < n ∧ 48 < (bA B n (pl + 1)) % 128) by omega), if_pos (show pl + 4 ≤ n by assumption)]; exact ⟨lk_n (by assumption) h, rfl⟩))
            · (first | (exfalso; omega) | (intro h; exact absurd h (by split <;> decide)))
            · (first | (exfalso; omega) | (exact hr0))
        · refine s_iconst X dX0_readRow_78 ?_
          refine s_goto X 83 dX0_readRow_79 (by decide) ?_
          have hlf9 := lfO_c (bA B n (pl + 1))
          have hw9 := wO_c (bA B n (pl + 1))
          refine s_cast (st' := [.int (iI (lfO (bA B n (pl + 1)))), .int (iI 2), .int (iI (pl + 2)), .ref s]) (by rw [show lfO (bA B n (pl + 1)) = 1 from by (unfold lfO; first | rw [if_pos (by omega)] | rw [if_neg (by omega)])]) rfl rfl ?_
          refine s_callIV X lk_X0_96 [3, 4, 2] [0, 1, 5] (wr := [aI G i8 60 rn, aF G d8 60 rr, oTk k pl (pl + 4) wh re x len i8 d8 ror rl]) rfl rfl (by decide) (by decide) (by decide) (c_X0_countAt (kl K) G s b a n rd e B (pl + 2) 2 (lfO (bA B n (pl + 1))) (by assumption) (by assumption) (by omega) (by omega) (by omega)) rfl rfl dX0_readRow_83 rfl rfl (Nat.le_of_ble_eq_true rfl) (by decide) (fun z13 w13 h13 => ?_)
          obtain ⟨rfl, rfl⟩ := h13
          show SW K G 5 0 0 86 [(3, .int (iI (bA B n (pl + 1)))), (2, .int (iI (pl + 4))), (0, .ref s), (1, .ref k)] [.int (iI (uu B n (pl + 2) 2 (lfO (bA B n (pl + 1))) (2 : Int).toNat))] [aI G i8 60 rn, aF G d8 60 rr, oTk k pl (pl + 4) wh re x len i8 d8 ror rl, oBi s b, oBy b a n rd e, aB G a 3000 B]
          have q14 := uu_R (B := B) (n := n) (i := (pl + 2)) (w := 2) (lf := (lfO (bA B n (pl + 1)))) (by assumption) (by omega) (by omega) (by omega)
          have hM : uu B n (pl + 2) 2 (lfO (bA B n (pl + 1))) (2 : Int).toNat = rwM B n pl := rfl
          have hmw := m_w hw9 (m := rwM B n pl) (by omega)
          have hQ : rwQ B n pl = pl + 4 + rwM B n pl * wO (bA B n (pl + 1)) := rfl
          refine s_cast (st' := [.int (iI (rwM B n pl))]) (by rfl) rfl rfl ?_
          refine s_istore X dX0_readRow_86 [(4, .int (iI (rwM B n pl))), (3, .int (iI (bA B n (pl + 1)))), (2, .int (iI (pl + 4))), (0, .ref s), (1, .ref k)] (by decide) rfl ?_
          refine s_aload_n X dX0_readRow_88 rfl 3 rfl ?_
          refine s_aload_n X dX0_readRow_89 rfl 4 rfl ?_
          refine s_iload_n X dX0_readRow_90 rfl 2 rfl ?_
          refine s_iload X dX0_readRow_91 0 rfl ?_
          refine s_iload_n X dX0_readRow_93 rfl 1 rfl ?_
          refine s_callIS X lk_X0_77 [] [0, 1, 2, 3, 4, 5] (wr := [aI G i8 60 rn, aF G d8 60 rr, oTk k pl (pl + 4) wh re x len i8 d8 ror rl, oBi s b, oBy b a n rd e, aB G a 3000 B]) rfl rfl (by decide) (by decide) (by decide) (c_X0_widthOf (kl K) G (bA B n (pl + 1)) (by omega)) dX0_readRow_94 rfl rfl (Nat.le_of_ble_eq_true rfl) (by decide) (fun z15 w15 h15 => ?_)
          obtain ⟨rfl, rfl⟩ := h15
          show SW K G 5 0 0 97 [(4, .int (iI (rwM B n pl))), (3, .int (iI (bA B n (pl + 1)))), (2, .int (iI (pl + 4))), (0, .ref s), (1, .ref k)] [.int (iI (wO (bA B n (pl + 1)))), .int (iI (rwM B n pl)), .int (iI (pl + 4)), .ref k, .ref s] [aI G i8 60 rn, aF G d8 60 rr, oTk k pl (pl + 4) wh re x len i8 d8 ror rl, oBi s b, oBy b a n rd e, aB G a 3000 B]
          have q16 := wO_c (bA B n (pl + 1))
          refine s_imul X dX0_readRow_97 ?_
          refine s_iadd X dX0_readRow_98 ?_
          refine s_callIV X lk_X0_54 [3, 4, 2] [0, 1, 5] (wr := [aI G i8 60 rn, aF G d8 60 rr, aB G a 3000 B]) rfl rfl (by decide) (by decide) (by decide) (c_X0_reaches (kl K) G s b a n rd e k x i8 d8 pl (pl + 4) wh len ror rl re ((pl + 4) + ((rwM B n pl) * (wO (bA B n (pl + 1))))) (by assumption) (by omega)) rfl rfl dX0_readRow_99 rfl rfl (Nat.le_of_ble_eq_true rfl) (by decide) (fun z17 w17 h17 => ?_)
          obtain ⟨rfl, rfl⟩ := h17
          show SW K G 5 0 0 102 [(4, .int (iI (rwM B n pl))), (3, .int (iI (bA B n (pl + 1)))), (2, .int (iI (pl + 4))), (0, .ref s), (1, .ref k)] [.int (iI (tf (((pl + 4) + ((rwM B n pl) * (wO (bA B n (pl + 1))))) ≤ n)))] [aI G i8 60 rn, aF G d8 60 rr, aB G a 3000 B, oBi s b, oBy b a n rd e, oTk k pl ((pl + 4) + ((rwM B n pl) * (wO (bA B n (pl + 1))))) wh re x len i8 d8 ror rl]
          refine s_tf_ne X 114 dX0_readRow_102 (by decide) (fun c102 => ?_) (fun c102 => ?_)
          · refine s_iload X dX0_readRow_114 0 rfl ?_
            refine s_bipush 60 X dX0_readRow_116 (by decide) ?_
            refine s_icmp_le X 126 dX0_readRow_118 (by decide) (by omega) (fun c118 => ?_) (fun c118 => ?_)
            · refine s_aload_n X dX0_readRow_126 rfl 3 rfl ?_
              refine s_aload_n X dX0_readRow_127 rfl 4 rfl ?_
              refine s_iload_n X dX0_readRow_128 rfl 2 rfl ?_
              refine s_iload X dX0_readRow_129 0 rfl ?_
              refine s_iload_n X dX0_readRow_131 rfl 1 rfl ?_
              refine s_callIV X lk_X0_106 [3, 4, 2, 5, 0, 1] [] (wr := []) rfl rfl (by decide) (by decide) (by decide) (c_X0_fillRow (kl K) G s b a n rd e B k x i8 d8 pl ((pl + 4) + ((rwM B n pl) * (wO (bA B n (pl + 1))))) wh len ror rl re rn rr (pl + 4) (rwM B n pl) (bA B n (pl + 1)) (by assumption) (by assumption) (by omega) (by omega) (by omega) (by assumption) (by omega)) rfl rfl dX0_readRow_132 rfl rfl (Nat.le_of_ble_eq_true rfl) (by decide) (fun z18 w18 h18 => ?_)
              obtain ⟨wh218, len218, ror218, rl218, rn218, rr218, rfl, rfl, f18_0, f18_1⟩ := h18
              show SW K G 5 0 0 135 [(4, .int (iI (rwM B n pl))), (3, .int (iI (bA B n (pl + 1)))), (2, .int (iI (pl + 4))), (0, .ref s), (1, .ref k)] [.int (iI (frA B n (pl + 4) (bA B n (pl + 1)) (rwM B n pl)))] [oBi s b, oBy b a n rd e, aB G a 3000 B, oTk k pl ((pl + 4) + ((rwM B n pl) * (wO (bA B n (pl + 1))))) wh218 re x len218 i8 d8 ror218 rl218, aI G i8 60 rn218, aF G d8 60 rr218]
              have g0 := f18_0
              have g1 := f18_1
              refine s_iret X Y dX0_readRow_135 (rfl) ?_
              refine ⟨pl, ((pl + 4) + ((rwM B n pl) * (wO (bA B n (pl + 1))))), wh218, len218, ror218, rl218, rn218, rr218, ?_, rfl, ?_, ?_, ?_⟩
              · (first | (exfalso; omega) | (rw [rwA, if_neg (show ¬ (pl + 1 < n ∧ 48 < (bA B n (pl + 1)) % 128) by omega), ← nuA_y (show pl + 4 ≤ n by assumption), ← nuA_y (show rwQ B n pl ≤ n by assumption)]; rw [if_neg (by omega)]))
              · (first | (exfalso; omega) | (intro _; rw [rwF, rwP, if_neg (show ¬ (pl + 1 < n ∧ 48 < (bA B n (pl + 1)) % 128) by omega), if_neg (show ¬ (pl + 1 < n ∧ 48 < (bA B n (pl + 1)) % 128) by omega), if_pos (show pl + 4 ≤ n by assumption)]; exact ⟨lk_y (by assumption), rfl⟩))
              · (first | (exfalso; omega) | (intro h; obtain ⟨a1, a2, a3, a4, a5⟩ := g0 h; exact ⟨a1, a2, a3, a4, by omega, fun j b1 b2 => a5 j b1 (by omega)⟩))
              · (first | (exfalso; omega) | (exact g1))
            · refine s_bipush (-2) X dX0_readRow_121 (by decide) ?_
              refine s_goto X 135 dX0_readRow_123 (by decide) ?_
              refine s_perm (ws' := [oBi s b, oBy b a n rd e, aB G a 3000 B, oTk k pl ((pl + 4) + ((rwM B n pl) * (wO (bA B n (pl + 1))))) wh re x len i8 d8 ror rl, aI G i8 60 rn, aF G d8 60 rr]) [3, 4, 2, 5, 0, 1] (by decide) rfl rfl ?_
              refine s_iret X Y dX0_readRow_135 (rfl) ?_
              refine ⟨pl, ((pl + 4) + ((rwM B n pl) * (wO (bA B n (pl + 1))))), wh, len, ror, rl, rn, rr, ?_, rfl, ?_, ?_, ?_⟩
              · (first | (exfalso; omega) | (rw [rwA, if_neg (show ¬ (pl + 1 < n ∧ 48 < (bA B n (pl + 1)) % 128) by omega), ← nuA_y (show pl + 4 ≤ n by assumption), ← nuA_y (show rwQ B n pl ≤ n by assumption)]; rw [if_pos (by assumption)]))
              · (first | (exfalso; omega) | (intro _; rw [rwF, rwP, if_neg (show ¬ (pl + 1 < n ∧ 48 < (bA B n (pl + 1)) % 128) by omega), if_neg (show ¬ (pl + 1 < n ∧ 48 < (bA B n (pl + 1)) % 128) by omega), if_pos (show pl + 4 ≤ n by assumption)]; exact ⟨lk_y (by assumption), rfl⟩))
              · (first | (exfalso; omega) | (intro h; exact absurd h (by decide)))
              · (first | (exfalso; omega) | (exact hr0))
          · refine s_aload_n X dX0_readRow_105 rfl 3 rfl ?_
            refine s_get X dX0_readRow_106 fl_X0_9 3 rfl rfl ?_
            refine s_aload_n X dX0_readRow_109 rfl 4 rfl ?_
            refine s_callIV X lk_X0_58 [4, 5] [0, 1, 2, 3] (wr := [aI G i8 60 rn, aF G d8 60 rr, aB G a 3000 B, oBi s b]) rfl rfl (by decide) (by decide) (by decide) (c_X1_lacking (kl K) G b a n rd e k x i8 d8 pl ((pl + 4) + ((rwM B n pl) * (wO (bA B n (pl + 1))))) wh len ror rl re (by omega)) rfl rfl dX0_readRow_110 rfl rfl (Nat.le_of_ble_eq_true rfl) (by decide) (fun z19 w19 h19 => ?_)
            obtain ⟨rfl, rfl⟩ := h19
            show SW K G 5 0 0 113 [(4, .int (iI (rwM B n pl))), (3, .int (iI (bA B n (pl + 1)))), (2, .int (iI (pl + 4))), (0, .ref s), (1, .ref k)] [.int (iI (if e = 0 then 0 else -7))] [aI G i8 60 rn, aF G d8 60 rr, aB G a 3000 B, oBi s b, oBy b a n rd e, oTk k pl (if e = 0 then ((pl + 4) + ((rwM B n pl) * (wO (bA B n (pl + 1))))) else n) wh re x len i8 d8 ror rl]
            refine s_perm (ws' := [oBi s b, oBy b a n rd e, aB G a 3000 B, oTk k pl (if e = 0 then ((pl + 4) + ((rwM B n pl) * (wO (bA B n (pl + 1))))) else n) wh re x len i8 d8 ror rl, aI G i8 60 rn, aF G d8 60 rr]) [3, 4, 2, 5, 0, 1] (by decide) rfl rfl ?_
            refine s_iret X Y dX0_readRow_113 (rfl) ?_
            refine ⟨pl, (if e = 0 then ((pl + 4) + ((rwM B n pl) * (wO (bA B n (pl + 1))))) else n), wh, len, ror, rl, rn, rr, ?_, rfl, ?_, ?_, ?_⟩
            · (first | (exfalso; omega) | (rw [rwA, if_neg (show ¬ (pl + 1 < n ∧ 48 < (bA B n (pl + 1)) % 128) by omega), ← nuA_y (show pl + 4 ≤ n by assumption)]; exact nuA_n (by assumption)))
            · (first | (exfalso; omega) | (intro h; rw [rwF, rwP, if_neg (show ¬ (pl + 1 < n ∧ 48 < (bA B n (pl + 1)) % 128) by omega), if_neg (show ¬ (pl + 1 < n ∧ 48 < (bA B n (pl + 1)) % 128) by omega), if_pos (show pl + 4 ≤ n by assumption)]; exact ⟨lk_n (by assumption) h, rfl⟩))
            · (first | (exfalso; omega) | (intro h; exact absurd h (by split <;> decide)))
            · (first | (exfalso; omega) | (exact hr0))
      · refine s_aload_n X dX0_readRow_57 rfl 2 rfl ?_
        refine s_get X dX0_readRow_58 fl_X0_9 3 rfl rfl ?_
        refine s_aload_n X dX0_readRow_61 rfl 3 rfl ?_
        refine s_callIV X lk_X0_58 [4, 5] [0, 1, 2, 3] (wr := [aI G i8 60 rn, aF G d8 60 rr, aB G a 3000 B, oBi s b]) rfl rfl (by decide) (by decide) (by decide) (c_X1_lacking (kl K) G b a n rd e k x i8 d8 pl (pl + 4) wh len ror rl re (by omega)) rfl rfl dX0_readRow_62 rfl rfl (Nat.le_of_ble_eq_true rfl) (by decide) (fun z20 w20 h20 => ?_)
        obtain ⟨rfl, rfl⟩ := h20
        show SW K G 5 0 0 65 [(3, .int (iI (bA B n (pl + 1)))), (2, .int (iI (pl + 4))), (0, .ref s), (1, .ref k)] [.int (iI (if e = 0 then 0 else -7))] [aI G i8 60 rn, aF G d8 60 rr, aB G a 3000 B, oBi s b, oBy b a n rd e, oTk k pl (if e = 0 then (pl + 4) else n) wh re x len i8 d8 ror rl]
        refine s_perm (ws' := [oBi s b, oBy b a n rd e, aB G a 3000 B, oTk k pl (if e = 0 then (pl + 4) else n) wh re x len i8 d8 ror rl, aI G i8 60 rn, aF G d8 60 rr]) [3, 4, 2, 5, 0, 1] (by decide) rfl rfl ?_
        refine s_iret X Y dX0_readRow_65 (rfl) ?_
        refine ⟨pl, (if e = 0 then (pl + 4) else n), wh, len, ror, rl, rn, rr, ?_, rfl, ?_, ?_, ?_⟩
        · (first | (exfalso; omega) | (rw [rwA, if_neg (show ¬ (pl + 1 < n ∧ 48 < (bA B n (pl + 1)) % 128) by omega)]; exact nuA_n (by assumption)))
        · (first | (exfalso; omega) | (intro h; rw [rwF, rwP, if_neg (show ¬ (pl + 1 < n ∧ 48 < (bA B n (pl + 1)) % 128) by omega), if_neg (show ¬ (pl + 1 < n ∧ 48 < (bA B n (pl + 1)) % 128) by omega), if_neg (show ¬ pl + 4 ≤ n by assumption)]; exact ⟨lk_0 h, rfl⟩))
        · (first | (exfalso; omega) | (intro h; exact absurd h (by split <;> decide)))
        · (first | (exfalso; omega) | (exact hr0))
    · refine s_aload_n X dX0_readRow_35 rfl 3 rfl ?_
      refine s_bipush (-5) X dX0_readRow_36 (by decide) ?_
      refine s_aload_n X dX0_readRow_38 rfl 3 rfl ?_
      refine s_get X dX0_readRow_39 fl_X0_51 1 rfl rfl ?_
      refine s_iconst X dX0_readRow_42 ?_
      refine s_iadd X dX0_readRow_43 ?_
      refine s_callIV X lk_X0_73 [1] [0, 2, 3, 4, 5] (wr := [oBi s b, aI G i8 60 rn, aF G d8 60 rr, oBy b a n rd e, aB G a 3000 B]) rfl rfl (by decide) (by decide) (by decide) (c_X3_wrongByte (kl K) G k x i8 d8 pl af wh len ror rl re (-5) (pl + 1)) rfl rfl dX0_readRow_44 rfl rfl (Nat.le_of_ble_eq_true rfl) (by decide) (fun z21 w21 h21 => ?_)
      obtain ⟨rfl, rfl⟩ := h21
      show SW K G 5 0 0 47 [(3, .int (iI (bA B n (pl + 1)))), (2, .int (iI (pl + 4))), (0, .ref s), (1, .ref k)] [.int (iI (-5))] [oBi s b, aI G i8 60 rn, aF G d8 60 rr, oBy b a n rd e, aB G a 3000 B, oTk k (pl + 1) ((pl + 1) + 1) wh re x len i8 d8 ror rl]
      refine s_perm (ws' := [oBi s b, oBy b a n rd e, aB G a 3000 B, oTk k (pl + 1) ((pl + 1) + 1) wh re x len i8 d8 ror rl, aI G i8 60 rn, aF G d8 60 rr]) [0, 3, 4, 5, 1, 2] (by decide) rfl rfl ?_
      refine s_iret X Y dX0_readRow_47 (rfl) ?_
      refine ⟨(pl + 1), ((pl + 1) + 1), wh, len, ror, rl, rn, rr, ?_, rfl, ?_, ?_, ?_⟩
      · (first | (exfalso; omega) | (rw [rwA, if_pos (by omega)]))
      · (first | (exfalso; omega) | (intro _; rw [rwF, rwP, if_pos (by omega), if_pos (by omega)]; exact ⟨by omega, rfl⟩))
      · (first | (exfalso; omega) | (intro h; exact absurd h (by decide)))
      · (first | (exfalso; omega) | (exact hr0))
