set_option maxRecDepth 100000 in
set_option maxHeartbeats 4000000 in
theorem c_X2_putHighest (l : Launch) (G : GX) (k : Nat) (x : Nat) (i8 : Nat) (d8 : Nat) (pl : Int) (af : Int) (wh : Int) (len : Int) (ror : Int) (rl : Int) (re : UInt64) (t : Nat → Nat) (o : List Nat) (g : Int) (c : Int) (hx : TX t len o) (hg : 0 ≤ g ∧ g < 9223372036854775808) (hc : c ≤ 4 ∧ -1 ≤ c) : CtV l G yX2_putHighest cX2_putHighest 5 none ({ frames := 1, cells := 0, slots := 0, locals := 21 } : Room) [.ref k, .long (lI g), .int (iI c)] [oTk k pl af wh re x len i8 d8 ror rl, aB G x 401 t] (fun (w9 : va_W) => ∃ (len2 : Int), ∃ (t2 : Nat → Nat), w9 = [oTk k pl af wh re x len2 i8 d8 ror rl, aB G x 401 t2] ∧ (TX t2 len2 (o ++ hiL g c.toNat))) := by
  intro sz
  refine met_of (fun wc sz => va_Qv _ (posW G wc sz) (va_A wc sz)) (by decide) [(0, .ref k), (1, .long (lI g)), (3, .int (iI c))] rfl (Nat.le_of_ble_eq_true rfl) (fun K hK9 hnm X Y => ?_)
  subst hK9
  replace Y : RV K G none 0 0 _ := Y
  refine s_iconst X dX2_putHighest_0 ?_
  refine s_istore X dX2_putHighest_1 [(4, .int (iI 0)), (0, .ref k), (1, .long (lI g)), (3, .int (iI c))] (by decide) rfl ?_
  have lp : ∀ (m9 : Nat) (q : Int) (ln : Int) (tt : Nat → Nat) (h1 : 0 ≤ q ∧ (q ≤ c ∨ q = 0)) (h3 : TX tt ln (o ++ hiL g q.toNat)), (c - q).toNat < m9 → SW K G 5 0 0 3 [(4, .int (iI q)), (0, .ref k), (1, .long (lI g)), (3, .int (iI c))] [] [oTk k pl af wh re x ln i8 d8 ror rl, aB G x 401 tt] := by
    intro m9
    induction m9 with
    | zero => intro q ln tt h1 h3 hm9; exact absurd hm9 (Nat.not_lt_zero _)
    | succ m9 ih9 =>
      intro q ln tt h1 h3 hm9
      have hlen := TX_R h3
      refine s_iload X dX2_putHighest_3 0 rfl ?_
      refine s_iload_n X dX2_putHighest_5 rfl 3 rfl ?_
      refine s_icmp_ge X 34 dX2_putHighest_6 (by decide) (by omega) (fun c6 => ?_) (fun c6 => ?_)
      · refine s_vret X Y dX2_putHighest_34 ?_
        refine ⟨ln, tt, rfl, ?_⟩
        · (first | (exfalso; omega) | (exact ph_end h1 (by omega) h3))
      · refine s_aload_n X dX2_putHighest_9 rfl 1 rfl ?_
        refine s_lload_n X dX2_putHighest_10 rfl 2 rfl ?_
        refine s_bipush 24 X dX2_putHighest_11 (by decide) ?_
        refine s_bipush 8 X dX2_putHighest_13 (by decide) ?_
        refine s_iload X dX2_putHighest_15 0 rfl ?_
        refine s_imul X dX2_putHighest_17 ?_
        refine s_isub X dX2_putHighest_18 ?_
        refine s_lshr (z := g / 2 ^ (24 - 8 * q.toNat)) X dX2_putHighest_19 (by exact ph_shr hg ⟨h1.1, by omega⟩) ?_
        refine s_l2i X dX2_putHighest_20 ?_
        refine s_sipush 255 X dX2_putHighest_21 (by decide) ?_
        refine s_iand (z := g / 2 ^ (24 - 8 * q.toNat) % 256) X dX2_putHighest_24 (by exact iand255 _) ?_
        refine s_callVV X lk_X2_54 [0, 1] [] (wr := []) rfl rfl (by decide) (by decide) (by decide) (c_X3_put (kl K) G k x i8 d8 pl af wh ln ror rl re tt (g / 2 ^ (24 - 8 * q.toNat) % 256) (by omega)) rfl rfl dX2_putHighest_25 rfl rfl (Nat.le_of_ble_eq_true rfl) (by decide) (fun w1 h1 => ?_)
        obtain rfl := h1
        show SW K G 5 0 0 28 [(4, .int (iI q)), (0, .ref k), (1, .long (lI g)), (3, .int (iI c))] [] [oTk k pl af wh re x (putL ln) i8 d8 ror rl, aB G x 401 (putT tt ln (g / 2 ^ (24 - 8 * q.toNat) % 256))]
        have q2 := putL_R (len := ln) (by omega)
        refine s_iinc (z := q + 1) X dX2_putHighest_28 0 rfl (by first | rfl | omega) [(4, .int (iI (q + 1))), (0, .ref k), (1, .long (lI g)), (3, .int (iI c))] (by decide) rfl ?_
        refine s_goto X 3 dX2_putHighest_31 (by decide) ?_
        exact ih9 (q + 1) (putL ln) (putT tt ln (g / 2 ^ (24 - 8 * q.toNat) % 256)) (by omega) (ph_step h1.1 (TX_put h3)) (by omega)
  exact lp _ 0 len t (by omega) (by simpa [hiL] using hx) (Nat.lt_succ_self _)
set_option maxRecDepth 100000 in
set_option maxHeartbeats 4000000 in
theorem c_X2_putLastAlone (l : Launch) (G : GX) (k : Nat) (x : Nat) (i8 : Nat) (d8 : Nat) (pl : Int) (af : Int) (wh : Int) (len : Int) (ror : Int) (rl : Int) (re : UInt64) (t : Nat → Nat) (o : List Nat) (hi : Int) (hx : TX t len o) (hh : R32 hi) : CtV l G yX2_putLastAlone cX2_putLastAlone 2 none ({ frames := 1, cells := 0, slots := 0, locals := 21 } : Room) [.ref k, .int (iI hi)] [oTk k pl af wh re x len i8 d8 ror rl, aB G x 401 t] (fun (w9 : va_W) => ∃ (len2 : Int), ∃ (t2 : Nat → Nat), w9 = [oTk k pl af wh re x len2 i8 d8 ror rl, aB G x 401 t2] ∧ (TX t2 len2 (if hi = -1 then o else o ++ [by8 (hi * 16)]))) := by
  intro sz
  refine met_of (fun wc sz => va_Qv _ (posW G wc sz) (va_A wc sz)) (by decide) [(0, .ref k), (1, .int (iI hi))] rfl (Nat.le_of_ble_eq_true rfl) (fun K hK9 hnm X Y => ?_)
  subst hK9
  replace Y : RV K G none 0 0 _ := Y
  have hlen := TX_R hx
  refine s_iload_n X dX2_putLastAlone_0 rfl 1 rfl ?_
  refine s_iconst X dX2_putLastAlone_1 ?_
  refine s_icmp_eq X 13 dX2_putLastAlone_2 (by decide) (by omega) (fun c2 => ?_) (fun c2 => ?_)
  · refine s_vret X Y dX2_putLastAlone_13 ?_
    refine ⟨len, t, rfl, ?_⟩
    · (first | (exfalso; omega) | (first | (rw [if_pos (by assumption)]; exact hx) | (rw [if_neg (by assumption)]; exact TX_put hx)))
  · refine s_aload_n X dX2_putLastAlone_5 rfl 0 rfl ?_
    refine s_iload_n X dX2_putLastAlone_6 rfl 1 rfl ?_
    refine s_bipush 16 X dX2_putLastAlone_7 (by decide) ?_
    refine s_imul X dX2_putLastAlone_9 ?_
    refine s_callVV X lk_X2_54 [0, 1] [] (wr := []) rfl rfl (by decide) (by decide) (by decide) (c_X3_put (kl K) G k x i8 d8 pl af wh len ror rl re t (hi * 16) (by omega)) rfl rfl dX2_putLastAlone_10 rfl rfl (Nat.le_of_ble_eq_true rfl) (by decide) (fun w1 h1 => ?_)
    obtain rfl := h1
    show SW K G 2 0 0 13 [(0, .ref k), (1, .int (iI hi))] [] [oTk k pl af wh re x (putL len) i8 d8 ror rl, aB G x 401 (putT t len (hi * 16))]
    have q2 := putL_R (len := len) (by omega)
    refine s_vret X Y dX2_putLastAlone_13 ?_
    refine ⟨(putL len), (putT t len (hi * 16)), rfl, ?_⟩
    · (first | (exfalso; omega) | (first | (rw [if_pos (by assumption)]; exact hx) | (rw [if_neg (by assumption)]; exact TX_put hx)))
set_option maxRecDepth 100000 in
set_option maxHeartbeats 4000000 in
theorem c_X2_readBase16 (l : Launch) (G : GX) (s : Nat) (b : Nat) (a : Nat) (n : Int) (rd : Int) (e : Int) (B : Nat → Nat) (k : Nat) (x : Nat) (i8 : Nat) (d8 : Nat) (pl : Int) (af : Int) (wh : Int) (len : Int) (ror : Int) (rl : Int) (re : UInt64) (t : Nat → Nat) (hn : 0 ≤ n ∧ n ≤ 3000) (hBb : ∀ j, B j < 256) (he : e = 0 ∨ e = 1) (htb : ∀ j, t j < 256) (h0 : len = 0) (hi : 0 ≤ pl ∧ pl < n) : CtI l G yX2_readBase16 cX2_readBase16 6 (some .int) ({ frames := 2, cells := 0, slots := 0, locals := 43 } : Room) [.ref s, .ref k] [oSt s b, oBy b a n rd e, aB G a 3000 B, oTk k pl af wh re x len i8 d8 ror rl, aB G x 401 t] (fun (z9 : Int) (w9 : va_W) => ∃ (pl2 : Int), ∃ (af2 : Int), ∃ (wh2 : Int), ∃ (len2 : Int), ∃ (t2 : Nat → Nat), w9 = [oSt s b, oBy b a n rd e, aB G a 3000 B, oTk k pl2 af2 wh2 re x len2 i8 d8 ror rl, aB G x 401 t2] ∧ (z9 = stA e (hxS B n (pl + 1) (-1) [])) ∧ (z9 ≠ 0 → af2 = stF n (hxS B n (pl + 1) (-1) []) ∧ pl2 = stP pl (hxS B n (pl + 1) (-1) [])) ∧ (z9 = 6 → wh2 = ((hxS B n (pl + 1) (-1) []).2.2.length : Int) ∧ TX t2 len2 (hxS B n (pl + 1) (-1) []).2.2) ∧ (0 ≤ len2 ∧ len2 ≤ 401) ∧ (∀ j, t2 j < 256)) := by
  intro sz
  refine met_of (fun wc sz => va_Qi (qI _) (posW G wc sz) (va_A wc sz)) (by decide) [(0, .ref s), (1, .ref k)] rfl (Nat.le_of_ble_eq_true rfl) (fun K hK9 hnm X Y => ?_)
  subst hK9
  replace Y : RI K G (some .int) 0 0 _ := Y
  refine s_iconst X dX2_readBase16_0 ?_
  refine s_istore_n X dX2_readBase16_1 rfl [(2, .int (iI (-1))), (0, .ref s), (1, .ref k)] (by decide) rfl ?_
  refine s_aload_n X dX2_readBase16_2 rfl 2 rfl ?_
  refine s_get X dX2_readBase16_3 fl_X2_15 3 rfl rfl ?_
  refine s_iconst X dX2_readBase16_6 ?_
  refine s_iadd X dX2_readBase16_7 ?_
  refine s_istore_n X dX2_readBase16_8 rfl [(3, .int (iI (pl + 1))), (2, .int (iI (-1))), (0, .ref s), (1, .ref k)] (by decide) rfl ?_
  have lp : ∀ (m9 : Nat) (i : Int) (hi : Int) (ln : Int) (tt : Nat → Nat) (o : List Nat) (h1 : pl + 1 ≤ i ∧ i ≤ n ∧ -1 ≤ hi ∧ hi ≤ 15) (h3 : TX tt ln o) (h2 : hxS B n i hi o = hxS B n (pl + 1) (-1) []), (n - i).toNat < m9 → SW K G 6 0 0 9 [(2, .int (iI hi)), (3, .int (iI i)), (0, .ref s), (1, .ref k)] [] [oSt s b, oBy b a n rd e, aB G a 3000 B, oTk k pl af wh re x ln i8 d8 ror rl, aB G x 401 tt] := by
    intro m9
    induction m9 with
    | zero => intro i hi ln tt o h1 h3 h2 hm9; exact absurd hm9 (Nat.not_lt_zero _)
    | succ m9 ih9 =>
      intro i hi ln tt o h1 h3 h2 hm9
      have hlen := TX_R h3
      refine s_iload_n X dX2_readBase16_9 rfl 1 rfl ?_
      refine s_aload_n X dX2_readBase16_10 rfl 2 rfl ?_
      refine s_get X dX2_readBase16_11 fl_X2_9 0 rfl rfl ?_
      refine s_get X dX2_readBase16_14 fl_X2_21 1 rfl rfl ?_
      refine s_icmp_ge X 113 dX2_readBase16_17 (by decide) (by omega) (fun c17 => ?_) (fun c17 => ?_)
      · refine s_aload_n X dX2_readBase16_113 rfl 2 rfl ?_
        refine s_get X dX2_readBase16_114 fl_X2_9 0 rfl rfl ?_
        refine s_aload_n X dX2_readBase16_117 rfl 3 rfl ?_
        have hr : hxS B n (pl + 1) (-1) [] = (0, 0, []) := by rw [← h2, hxS_out (by omega)]
        refine s_callIV X lk_X2_44 [1, 3] [0, 2, 4] (wr := [oSt s b, aB G a 3000 B, aB G x 401 tt]) rfl rfl (by decide) (by decide) (by decide) (c_X1_lacking (kl K) G b a n rd e k x i8 d8 pl af wh ln ror rl re (by omega)) rfl rfl dX2_readBase16_118 rfl rfl (Nat.le_of_ble_eq_true rfl) (by decide) (fun z1 w1 h1 => ?_)
        obtain ⟨rfl, rfl⟩ := h1
        show SW K G 6 0 0 121 [(2, .int (iI hi)), (3, .int (iI i)), (0, .ref s), (1, .ref k)] [.int (iI (if e = 0 then 0 else -7))] [oSt s b, aB G a 3000 B, aB G x 401 tt, oBy b a n rd e, oTk k pl (if e = 0 then af else n) wh re x ln i8 d8 ror rl]
        refine s_perm (ws' := [oSt s b, oBy b a n rd e, aB G a 3000 B, oTk k pl (if e = 0 then af else n) wh re x ln i8 d8 ror rl, aB G x 401 tt]) [0, 3, 1, 4, 2] (by decide) rfl rfl ?_
        refine s_iret X Y dX2_readBase16_121 (rfl) ?_
        refine ⟨pl, (if e = 0 then af else n), wh, ln, tt, rfl, ?_, ?_, ?_, ?_, ?_⟩
        · (first | (exfalso; omega) | (exact stA_0 hr))
        · (first | (exfalso; omega) | (intro h; rw [hr]; have h9 : ¬ e = 0 := (fun q => h (by rw [if_pos q])); exact ⟨by rw [if_neg h9]; rfl, rfl⟩))
        · (first | (exfalso; omega) | (intro h; exact absurd h (by split <;> decide)))
        · (first | (exfalso; omega) | (exact TX_R h3))
        · (first | (exfalso; omega) | (exact (h3).2.2))
      · refine s_aload_n X dX2_readBase16_20 rfl 2 rfl ?_
        refine s_get X dX2_readBase16_21 fl_X2_9 0 rfl rfl ?_
        refine s_iload_n X dX2_readBase16_24 rfl 1 rfl ?_
        refine s_callIV X lk_X2_26 [1, 2] [0, 3, 4] (wr := [oSt s b, oTk k pl af wh re x ln i8 d8 ror rl, aB G x 401 tt]) rfl rfl (by decide) (by decide) (by decide) (c_X1_at (kl K) G b a n rd e B i (by assumption) (by assumption) (by omega)) rfl rfl dX2_readBase16_25 rfl rfl (Nat.le_of_ble_eq_true rfl) (by decide) (fun z2 w2 h2 => ?_)
        obtain ⟨rfl, rfl⟩ := h2
        show SW K G 6 0 0 28 [(2, .int (iI hi)), (3, .int (iI i)), (0, .ref s), (1, .ref k)] [.int (iI (bA B n i))] [oSt s b, oTk k pl af wh re x ln i8 d8 ror rl, aB G x 401 tt, oBy b a n rd e, aB G a 3000 B]
        have q3 := bA_C n i (by assumption : ∀ j, B j < 256)
        refine s_istore X dX2_readBase16_28 [(4, .int (iI (bA B n i))), (2, .int (iI hi)), (3, .int (iI i)), (0, .ref s), (1, .ref k)] (by decide) rfl ?_
        refine s_iload X dX2_readBase16_30 0 rfl ?_
        refine s_callIS X lk_X2_70 [] [0, 1, 2, 3, 4] (wr := [oSt s b, oTk k pl af wh re x ln i8 d8 ror rl, aB G x 401 tt, oBy b a n rd e, aB G a 3000 B]) rfl rfl (by decide) (by decide) (by decide) (c_X1_isWhite (kl K) G (bA B n i) (by omega)) dX2_readBase16_32 rfl rfl (Nat.le_of_ble_eq_true rfl) (by decide) (fun z4 w4 h4 => ?_)
        obtain ⟨rfl, rfl⟩ := h4
        show SW K G 6 0 0 35 [(4, .int (iI (bA B n i))), (2, .int (iI hi)), (3, .int (iI i)), (0, .ref s), (1, .ref k)] [.int (iI (tf (isW (bA B n i))))] [oSt s b, oTk k pl af wh re x ln i8 d8 ror rl, aB G x 401 tt, oBy b a n rd e, aB G a 3000 B]
        refine s_tf_eq X 41 dX2_readBase16_35 (by decide) (fun c35 => ?_) (fun c35 => ?_)
        · refine s_iload X dX2_readBase16_41 0 rfl ?_
          refine s_bipush 62 X dX2_readBase16_43 (by decide) ?_
          refine s_icmp_ne X 61 dX2_readBase16_45 (by decide) (by omega) (fun c45 => ?_) (fun c45 => ?_)
          · refine s_iload X dX2_readBase16_61 0 rfl ?_
            refine s_callISN X lk_X2_67 [] [0, 1, 2, 3, 4] (wr := [oSt s b, oTk k pl af wh re x ln i8 d8 ror rl, aB G x 401 tt, oBy b a n rd e, aB G a 3000 B]) rfl rfl (by decide) (by decide) (by decide) (c_X5_digitOf (kl K) G (bA B n i) (by omega)) dX2_readBase16_63 rfl rfl (Nat.le_of_ble_eq_true rfl) (by decide) (fun z5 w5 h5 => ?_)
            obtain ⟨rfl, rfl⟩ := h5
            show SW K G 6 0 0 66 [(4, .int (iI (bA B n i))), (2, .int (iI hi)), (3, .int (iI i)), (0, .ref s), (1, .ref k)] [.int (iI (dg (bA B n i)))] [oSt s b, oTk k pl af wh re x ln i8 d8 ror rl, aB G x 401 tt, oBy b a n rd e, aB G a 3000 B]
            have q6 := dg_R (bA B n i)
            refine s_istore X dX2_readBase16_66 [(5, .int (iI (dg (bA B n i)))), (4, .int (iI (bA B n i))), (2, .int (iI hi)), (3, .int (iI i)), (0, .ref s), (1, .ref k)] (by decide) rfl ?_
            refine s_iload X dX2_readBase16_68 0 rfl ?_
            refine s_bipush 16 X dX2_readBase16_70 (by decide) ?_
            refine s_icmp_lt X 83 dX2_readBase16_72 (by decide) (by omega) (fun c72 => ?_) (fun c72 => ?_)
            · refine s_iload_n X dX2_readBase16_83 rfl 2 rfl ?_
              refine s_iconst X dX2_readBase16_84 ?_
              refine s_icmp_ne X 94 dX2_readBase16_85 (by decide) (by omega) (fun c85 => ?_) (fun c85 => ?_)
              · refine s_aload_n X dX2_readBase16_94 rfl 5 rfl ?_
                refine s_iload_n X dX2_readBase16_95 rfl 2 rfl ?_
                refine s_bipush 16 X dX2_readBase16_96 (by decide) ?_
                refine s_imul X dX2_readBase16_98 ?_
                refine s_iload X dX2_readBase16_99 0 rfl ?_
                refine s_iadd X dX2_readBase16_101 ?_
                refine s_callVV X lk_X2_54 [1, 2] [0, 3, 4] (wr := [oSt s b, oBy b a n rd e, aB G a 3000 B]) rfl rfl (by decide) (by decide) (by decide) (c_X3_put (kl K) G k x i8 d8 pl af wh ln ror rl re tt ((hi * 16) + (dg (bA B n i))) (by omega)) rfl rfl dX2_readBase16_102 rfl rfl (Nat.le_of_ble_eq_true rfl) (by decide) (fun w7 h7 => ?_)
                obtain rfl := h7
                show SW K G 6 0 0 105 [(5, .int (iI (dg (bA B n i)))), (4, .int (iI (bA B n i))), (2, .int (iI hi)), (3, .int (iI i)), (0, .ref s), (1, .ref k)] [] [oSt s b, oBy b a n rd e, aB G a 3000 B, oTk k pl af wh re x (putL ln) i8 d8 ror rl, aB G x 401 (putT tt ln ((hi * 16) + (dg (bA B n i))))]
                have q8 := putL_R (len := ln) (by omega)
                refine s_iconst X dX2_readBase16_105 ?_
                refine s_istore_n X dX2_readBase16_106 rfl [(2, .int (iI (-1))), (5, .int (iI (dg (bA B n i)))), (4, .int (iI (bA B n i))), (3, .int (iI i)), (0, .ref s), (1, .ref k)] (by decide) rfl ?_
                refine s_iinc (z := i + 1) X dX2_readBase16_107 3 rfl (by first | rfl | omega) [(3, .int (iI (i + 1))), (2, .int (iI (-1))), (5, .int (iI (dg (bA B n i)))), (4, .int (iI (bA B n i))), (0, .ref s), (1, .ref k)] (by decide) rfl ?_
                refine s_goto X 9 dX2_readBase16_110 (by decide) ?_
                refine s_locs (lv' := [(2, .int (iI (-1))), (3, .int (iI (i + 1))), (0, .ref s), (1, .ref k)]) [1, 0, 4, 5] rfl ?_
                exact ih9 (i + 1) (-1) (putL ln) (putT tt ln ((hi * 16) + (dg (bA B n i)))) (o ++ [by8 (hi * 16 + dg (bA B n i))]) (by omega) (TX_put h3) (by rw [← h2, hxS_s (i := i) (by omega), if_neg (by assumption), if_neg (by assumption), if_neg (by omega), if_neg (by assumption)]) (by omega)
              · refine s_iload X dX2_readBase16_88 0 rfl ?_
                refine s_istore_n X dX2_readBase16_90 rfl [(2, .int (iI (dg (bA B n i)))), (5, .int (iI (dg (bA B n i)))), (4, .int (iI (bA B n i))), (3, .int (iI i)), (0, .ref s), (1, .ref k)] (by decide) rfl ?_
                refine s_goto X 107 dX2_readBase16_91 (by decide) ?_
                refine s_iinc (z := i + 1) X dX2_readBase16_107 3 rfl (by first | rfl | omega) [(3, .int (iI (i + 1))), (2, .int (iI (dg (bA B n i)))), (5, .int (iI (dg (bA B n i)))), (4, .int (iI (bA B n i))), (0, .ref s), (1, .ref k)] (by decide) rfl ?_
                refine s_goto X 9 dX2_readBase16_110 (by decide) ?_
                refine s_locs (lv' := [(2, .int (iI (dg (bA B n i)))), (3, .int (iI (i + 1))), (0, .ref s), (1, .ref k)]) [1, 0, 4, 5] rfl ?_
                refine s_perm (ws' := [oSt s b, oBy b a n rd e, aB G a 3000 B, oTk k pl af wh re x ln i8 d8 ror rl, aB G x 401 tt]) [0, 3, 4, 1, 2] (by decide) rfl rfl ?_
                exact ih9 (i + 1) (dg (bA B n i)) ln tt o (by omega) (h3) (by rw [← h2, hxS_s (i := i) (by omega), if_neg (by assumption), if_neg (by assumption), if_neg (by omega), if_pos (by assumption)]) (by omega)
            · refine s_aload_n X dX2_readBase16_75 rfl 5 rfl ?_
              refine s_bipush (-3) X dX2_readBase16_76 (by decide) ?_
              refine s_iload_n X dX2_readBase16_78 rfl 3 rfl ?_
              have hr : hxS B n (pl + 1) (-1) [] = (2, i, []) := by rw [← h2, hxS_s (i := i) (by omega), if_neg (by assumption), if_neg (by assumption), if_pos (by omega)]
              refine s_callIV X lk_X2_78 [1] [0, 2, 3, 4] (wr := [oSt s b, aB G x 401 tt, oBy b a n rd e, aB G a 3000 B]) rfl rfl (by decide) (by decide) (by decide) (c_X3_wrongByte (kl K) G k x i8 d8 pl af wh ln ror rl re (-3) i) rfl rfl dX2_readBase16_79 rfl rfl (Nat.le_of_ble_eq_true rfl) (by decide) (fun z9 w9 h9 => ?_)
              obtain ⟨rfl, rfl⟩ := h9
              show SW K G 6 0 0 82 [(5, .int (iI (dg (bA B n i)))), (4, .int (iI (bA B n i))), (2, .int (iI hi)), (3, .int (iI i)), (0, .ref s), (1, .ref k)] [.int (iI (-3))] [oSt s b, aB G x 401 tt, oBy b a n rd e, aB G a 3000 B, oTk k i (i + 1) wh re x ln i8 d8 ror rl]
              refine s_perm (ws' := [oSt s b, oBy b a n rd e, aB G a 3000 B, oTk k i (i + 1) wh re x ln i8 d8 ror rl, aB G x 401 tt]) [0, 2, 3, 4, 1] (by decide) rfl rfl ?_
              refine s_iret X Y dX2_readBase16_82 (rfl) ?_
              refine ⟨i, (i + 1), wh, ln, tt, rfl, ?_, ?_, ?_, ?_, ?_⟩
              · (first | (exfalso; omega) | (exact stA_2 hr))
              · (first | (exfalso; omega) | (intro _; rw [hr]; exact ⟨rfl, rfl⟩))
              · (first | (exfalso; omega) | (intro h; exact absurd h (by decide)))
              · (first | (exfalso; omega) | (exact TX_R h3))
              · (first | (exfalso; omega) | (exact (h3).2.2))
          · refine s_aload_n X dX2_readBase16_48 rfl 4 rfl ?_
            refine s_iload_n X dX2_readBase16_49 rfl 1 rfl ?_
            refine s_callVS X lk_X2_74 [1, 2] [0, 3, 4] (wr := [oSt s b, oBy b a n rd e, aB G a 3000 B]) rfl rfl (by decide) (by decide) (by decide) (c_X2_putLastAlone (kl K) G k x i8 d8 pl af wh ln ror rl re tt o hi (by assumption) (by omega)) dX2_readBase16_50 rfl rfl (Nat.le_of_ble_eq_true rfl) (by decide) (fun w10 h10 => ?_)
            obtain ⟨len210, t210, rfl, f10_0⟩ := h10
            show SW K G 6 0 0 53 [(4, .int (iI (bA B n i))), (2, .int (iI hi)), (3, .int (iI i)), (0, .ref s), (1, .ref k)] [] [oSt s b, oBy b a n rd e, aB G a 3000 B, oTk k pl af wh re x len210 i8 d8 ror rl, aB G x 401 t210]
            have hT := f10_0
            have hlen2 := TX_R hT
            have hr : hxS B n (pl + 1) (-1) [] = (1, i + 1, if hi = -1 then o else o ++ [by8 (hi * 16)]) := by rw [← h2, hxS_s (i := i) (by omega), if_neg (by assumption), if_pos (by assumption)]
            refine s_aload_n X dX2_readBase16_53 rfl 4 rfl ?_
            refine s_iload_n X dX2_readBase16_54 rfl 2 rfl ?_
            refine s_iconst X dX2_readBase16_55 ?_
            refine s_iadd X dX2_readBase16_56 ?_
            refine s_callIS X lk_X2_30 [3] [0, 1, 2, 4] (wr := [oSt s b, oBy b a n rd e, aB G a 3000 B, aB G x 401 t210]) rfl rfl (by decide) (by decide) (by decide) (c_X2_wholeString (kl K) G k x i8 d8 pl af wh len210 ror rl re (i + 1) (by omega)) dX2_readBase16_57 rfl rfl (Nat.le_of_ble_eq_true rfl) (by decide) (fun z11 w11 h11 => ?_)
            obtain ⟨rfl, rfl⟩ := h11
            show SW K G 6 0 0 60 [(4, .int (iI (bA B n i))), (2, .int (iI hi)), (3, .int (iI i)), (0, .ref s), (1, .ref k)] [.int (iI (if 400 < len210 then -2 else 6))] [oSt s b, oBy b a n rd e, aB G a 3000 B, aB G x 401 t210, oTk k pl (i + 1) (if 400 < len210 then wh else len210) re x len210 i8 d8 ror rl]
            refine s_perm (ws' := [oSt s b, oBy b a n rd e, aB G a 3000 B, oTk k pl (i + 1) (if 400 < len210 then wh else len210) re x len210 i8 d8 ror rl, aB G x 401 t210]) [0, 1, 2, 4, 3] (by decide) rfl rfl ?_
            refine s_iret X Y dX2_readBase16_60 (rfl) ?_
            refine ⟨pl, (i + 1), (if 400 < len210 then wh else len210), len210, t210, rfl, ?_, ?_, ?_, ?_, ?_⟩
            · (first | (exfalso; omega) | (exact stA_1 hr hT))
            · (first | (exfalso; omega) | (intro _; rw [hr]; exact ⟨rfl, rfl⟩))
            · (first | (exfalso; omega) | (intro h; exact st6 hr hT h))
            · (first | (exfalso; omega) | (exact TX_R hT))
            · (first | (exfalso; omega) | (exact (hT).2.2))
        · refine s_goto X 107 dX2_readBase16_38 (by decide) ?_
          refine s_iinc (z := i + 1) X dX2_readBase16_107 2 rfl (by first | rfl | omega) [(3, .int (iI (i + 1))), (4, .int (iI (bA B n i))), (2, .int (iI hi)), (0, .ref s), (1, .ref k)] (by decide) rfl ?_
          refine s_goto X 9 dX2_readBase16_110 (by decide) ?_
          refine s_locs (lv' := [(2, .int (iI hi)), (3, .int (iI (i + 1))), (0, .ref s), (1, .ref k)]) [2, 0, 3, 4] rfl ?_
          refine s_perm (ws' := [oSt s b, oBy b a n rd e, aB G a 3000 B, oTk k pl af wh re x ln i8 d8 ror rl, aB G x 401 tt]) [0, 3, 4, 1, 2] (by decide) rfl rfl ?_
          exact ih9 (i + 1) hi ln tt o (by omega) (h3) (by rw [← h2, hxS_s (i := i) (by omega), if_pos (by assumption)]) (by omega)
  refine s_locs (lv' := [(2, .int (iI (-1))), (3, .int (iI (pl + 1))), (0, .ref s), (1, .ref k)]) [1, 0, 2, 3] rfl ?_
  exact lp _ (pl + 1) (-1) len t ([]) (by omega) (by subst h0; exact TX_0 htb) (rfl) (Nat.lt_succ_self _)
set_option maxRecDepth 100000 in
set_option maxHeartbeats 4000000 in
theorem c_X2_endBase85 (l : Launch) (G : GX) (s : Nat) (b : Nat) (a : Nat) (n : Int) (rd : Int) (e : Int) (B : Nat → Nat) (k : Nat) (x : Nat) (i8 : Nat) (d8 : Nat) (pl : Int) (af : Int) (wh : Int) (len : Int) (ror : Int) (rl : Int) (re : UInt64) (t : Nat → Nat) (o : List Nat) (i : Int) (g : Int) (q : Int) (hn : 0 ≤ n ∧ n ≤ 3000) (hBb : ∀ j, B j < 256) (he : e = 0 ∨ e = 1) (hx : TX t len o) (hi : 0 ≤ i ∧ i < n) (hg : (q = 0 ∧ g = 0) ∨ (q = 1 ∧ 0 ≤ g ∧ g < 85) ∨ (q = 2 ∧ 0 ≤ g ∧ g < 7225) ∨ (q = 3 ∧ 0 ≤ g ∧ g < 614125) ∨ (q = 4 ∧ 0 ≤ g ∧ g < 52200625)) : CtI l G yX2_endBase85 cX2_endBase85 9 (some .int) ({ frames := 2, cells := 0, slots := 0, locals := 45 } : Room) [.ref s, .ref k, .int (iI i), .long (lI g), .int (iI q)] [oSt s b, oBy b a n rd e, aB G a 3000 B, oTk k pl af wh re x len i8 d8 ror rl, aB G x 401 t] (fun (z9 : Int) (w9 : va_W) => ∃ (pl2 : Int), ∃ (af2 : Int), ∃ (wh2 : Int), ∃ (len2 : Int), ∃ (t2 : Nat → Nat), w9 = [oSt s b, oBy b a n rd e, aB G a 3000 B, oTk k pl2 af2 wh2 re x len2 i8 d8 ror rl, aB G x 401 t2] ∧ (z9 = stA e (e5E B n i g q o)) ∧ (z9 ≠ 0 → af2 = stF n (e5E B n i g q o) ∧ pl2 = stP pl (e5E B n i g q o)) ∧ (z9 = 6 → wh2 = ((e5E B n i g q o).2.2.length : Int) ∧ TX t2 len2 (e5E B n i g q o).2.2) ∧ (0 ≤ len2 ∧ len2 ≤ 401) ∧ (∀ j, t2 j < 256)) := by
  intro sz
  refine met_of (fun wc sz => va_Qi (qI _) (posW G wc sz) (va_A wc sz)) (by decide) [(0, .ref s), (1, .ref k), (2, .int (iI i)), (3, .long (lI g)), (5, .int (iI q))] rfl (Nat.le_of_ble_eq_true rfl) (fun K hK9 hnm X Y => ?_)
  subst hK9
  replace Y : RI K G (some .int) 0 0 _ := Y
  have hlen := TX_R hx
  have htb := hx.2.2
  refine s_lload_n X dX2_endBase85_0 rfl 3 rfl ?_
  refine s_lstore X dX2_endBase85_1 [(6, .long (lI g)), (0, .ref s), (1, .ref k), (2, .int (iI i)), (3, .long (lI g)), (5, .int (iI q))] (by decide) rfl ?_
  refine s_iload X dX2_endBase85_3 5 rfl ?_
  refine s_istore X dX2_endBase85_5 [(8, .int (iI q)), (6, .long (lI g)), (0, .ref s), (1, .ref k), (2, .int (iI i)), (3, .long (lI g)), (5, .int (iI q))] (by decide) rfl ?_
  have lp : ∀ (m9 : Nat) (f : Int) (u : Int) (h1 : q ≤ u ∧ u ≤ 5) (hf : (u = 0 ∧ f = 0) ∨ (u = 1 ∧ 0 ≤ f ∧ f < 85) ∨ (u = 2 ∧ 0 ≤ f ∧ f < 7225) ∨ (u = 3 ∧ 0 ≤ f ∧ f < 614125) ∨ (u = 4 ∧ 0 ≤ f ∧ f < 52200625) ∨ (u = 5 ∧ 0 ≤ f ∧ f < 4437053125)) (h2 : flF (5 - u).toNat f = fl5 g q), (5 - u).toNat < m9 → SW K G 9 0 0 7 [(6, .long (lI f)), (8, .int (iI u)), (0, .ref s), (1, .ref k), (2, .int (iI i)), (3, .long (lI g)), (5, .int (iI q))] [] [oSt s b, oBy b a n rd e, aB G a 3000 B, oTk k pl af wh re x len i8 d8 ror rl, aB G x 401 t] := by
    intro m9
    induction m9 with
    | zero => intro f u h1 hf h2 hm9; exact absurd hm9 (Nat.not_lt_zero _)
    | succ m9 ih9 =>
      intro f u h1 hf h2 hm9
      refine s_iload X dX2_endBase85_7 1 rfl ?_
      refine s_iconst X dX2_endBase85_9 ?_
      refine s_icmp_ge X 31 dX2_endBase85_10 (by decide) (by omega) (fun c10 => ?_) (fun c10 => ?_)
      · have hff : f = fl5 g q := by rw [← h2, show (5 - u).toNat = 0 by omega]; rfl
        refine s_iload X dX2_endBase85_31 6 rfl ?_
        refine s_iconst X dX2_endBase85_33 ?_
        refine s_icmp_eq X 52 dX2_endBase85_34 (by decide) (by omega) (fun c34 => ?_) (fun c34 => ?_)
        · refine s_aload_n X dX2_endBase85_52 rfl 3 rfl ?_
          refine s_bipush (-3) X dX2_endBase85_53 (by decide) ?_
          refine s_iload_n X dX2_endBase85_55 rfl 4 rfl ?_
          have hr : e5E B n i g q o = (2, i, []) := by rw [e5E, if_pos (by omega)]
          refine s_callIV X lk_X2_78 [3] [0, 1, 2, 4] (wr := [oSt s b, oBy b a n rd e, aB G a 3000 B, aB G x 401 t]) rfl rfl (by decide) (by decide) (by decide) (c_X3_wrongByte (kl K) G k x i8 d8 pl af wh len ror rl re (-3) i) rfl rfl dX2_endBase85_56 rfl rfl (Nat.le_of_ble_eq_true rfl) (by decide) (fun z1 w1 h1 => ?_)
          obtain ⟨rfl, rfl⟩ := h1
          show SW K G 9 0 0 59 [(6, .long (lI f)), (8, .int (iI u)), (0, .ref s), (1, .ref k), (2, .int (iI i)), (3, .long (lI g)), (5, .int (iI q))] [.int (iI (-3))] [oSt s b, oBy b a n rd e, aB G a 3000 B, aB G x 401 t, oTk k i (i + 1) wh re x len i8 d8 ror rl]
          refine s_perm (ws' := [oSt s b, oBy b a n rd e, aB G a 3000 B, oTk k i (i + 1) wh re x len i8 d8 ror rl, aB G x 401 t]) [0, 1, 2, 4, 3] (by decide) rfl rfl ?_
          refine s_iret X Y dX2_endBase85_59 (rfl) ?_
          refine ⟨i, (i + 1), wh, len, t, rfl, ?_, ?_, ?_, ?_, ?_⟩
          · (first | (exfalso; omega) | (exact stA_2 hr))
          · (first | (exfalso; omega) | (intro _; rw [hr]; exact ⟨rfl, rfl⟩))
          · (first | (exfalso; omega) | (intro h; exact absurd h (by decide)))
          · (first | (exfalso; omega) | (exact TX_R hx))
          · (first | (exfalso; omega) | (exact (hx).2.2))
        · refine s_iload X dX2_endBase85_37 6 rfl ?_
          refine s_iconst X dX2_endBase85_39 ?_
          refine s_icmp_le X 60 dX2_endBase85_40 (by decide) (by omega) (fun c40 => ?_) (fun c40 => ?_)
          · refine s_aload_n X dX2_endBase85_60 rfl 2 rfl ?_
            refine s_get X dX2_endBase85_61 fl_X2_9 0 rfl rfl ?_
            refine s_iload_n X dX2_endBase85_64 rfl 4 rfl ?_
            refine s_iconst X dX2_endBase85_65 ?_
            refine s_iadd X dX2_endBase85_66 ?_
            refine s_callIV X lk_X2_26 [1, 2] [0, 3, 4] (wr := [oSt s b, oTk k pl af wh re x len i8 d8 ror rl, aB G x 401 t]) rfl rfl (by decide) (by decide) (by decide) (c_X1_at (kl K) G b a n rd e B (i + 1) (by assumption) (by assumption) (by omega)) rfl rfl dX2_endBase85_67 rfl rfl (Nat.le_of_ble_eq_true rfl) (by decide) (fun z2 w2 h2 => ?_)
            obtain ⟨rfl, rfl⟩ := h2
            show SW K G 9 0 0 70 [(6, .long (lI f)), (8, .int (iI u)), (0, .ref s), (1, .ref k), (2, .int (iI i)), (3, .long (lI g)), (5, .int (iI q))] [.int (iI (bA B n (i + 1)))] [oSt s b, oTk k pl af wh re x len i8 d8 ror rl, aB G x 401 t, oBy b a n rd e, aB G a 3000 B]
            have q3 := bA_C n (i + 1) (by assumption : ∀ j, B j < 256)
            refine s_istore X dX2_endBase85_70 [(8, .int (iI (bA B n (i + 1)))), (6, .long (lI f)), (0, .ref s), (1, .ref k), (2, .int (iI i)), (3, .long (lI g)), (5, .int (iI q))] (by decide) rfl ?_
            refine s_iload X dX2_endBase85_72 0 rfl ?_
            refine s_iconst X dX2_endBase85_74 ?_
            refine s_icmp_ne X 87 dX2_endBase85_75 (by decide) (by omega) (fun c75 => ?_) (fun c75 => ?_)
            · refine s_iload X dX2_endBase85_87 0 rfl ?_
              refine s_bipush 62 X dX2_endBase85_89 (by decide) ?_
              refine s_icmp_eq X 104 dX2_endBase85_91 (by decide) (by omega) (fun c91 => ?_) (fun c91 => ?_)
              · refine s_aload_n X dX2_endBase85_104 rfl 3 rfl ?_
                refine s_lload X dX2_endBase85_105 1 rfl ?_
                refine s_iload X dX2_endBase85_107 6 rfl ?_
                refine s_iconst X dX2_endBase85_109 ?_
                refine s_isub X dX2_endBase85_110 ?_
                refine s_callVS X lk_X2_85 [1, 2] [0, 3, 4] (wr := [oSt s b, oBy b a n rd e, aB G a 3000 B]) rfl rfl (by decide) (by decide) (by decide) (c_X2_putHighest (kl K) G k x i8 d8 pl af wh len ror rl re t o f (q - 1) (by assumption) (by omega) (by omega)) dX2_endBase85_111 rfl rfl (Nat.le_of_ble_eq_true rfl) (by decide) (fun w4 h4 => ?_)
                obtain ⟨len24, t24, rfl, f4_0⟩ := h4
                show SW K G 9 0 0 114 [(8, .int (iI (bA B n (i + 1)))), (6, .long (lI f)), (0, .ref s), (1, .ref k), (2, .int (iI i)), (3, .long (lI g)), (5, .int (iI q))] [] [oSt s b, oBy b a n rd e, aB G a 3000 B, oTk k pl af wh re x len24 i8 d8 ror rl, aB G x 401 t24]
                have hT := f4_0
                rw [hff] at hT
                have hlen2 := TX_R hT
                have hr : e5E B n i g q o = (1, i + 2, o ++ hiL (fl5 g q) (q - 1).toNat) := by rw [e5E, if_neg (by omega), if_neg (by assumption), if_pos (by assumption)]
                refine s_aload_n X dX2_endBase85_114 rfl 3 rfl ?_
                refine s_iload_n X dX2_endBase85_115 rfl 4 rfl ?_
                refine s_iconst X dX2_endBase85_116 ?_
                refine s_iadd X dX2_endBase85_117 ?_
                refine s_callIS X lk_X2_30 [3] [0, 1, 2, 4] (wr := [oSt s b, oBy b a n rd e, aB G a 3000 B, aB G x 401 t24]) rfl rfl (by decide) (by decide) (by decide) (c_X2_wholeString (kl K) G k x i8 d8 pl af wh len24 ror rl re (i + 2) (by omega)) dX2_endBase85_118 rfl rfl (Nat.le_of_ble_eq_true rfl) (by decide) (fun z5 w5 h5 => ?_)
                obtain ⟨rfl, rfl⟩ := h5
                show SW K G 9 0 0 121 [(8, .int (iI (bA B n (i + 1)))), (6, .long (lI f)), (0, .ref s), (1, .ref k), (2, .int (iI i)), (3, .long (lI g)), (5, .int (iI q))] [.int (iI (if 400 < len24 then -2 else 6))] [oSt s b, oBy b a n rd e, aB G a 3000 B, aB G x 401 t24, oTk k pl (i + 2) (if 400 < len24 then wh else len24) re x len24 i8 d8 ror rl]
                refine s_perm (ws' := [oSt s b, oBy b a n rd e, aB G a 3000 B, oTk k pl (i + 2) (if 400 < len24 then wh else len24) re x len24 i8 d8 ror rl, aB G x 401 t24]) [0, 1, 2, 4, 3] (by decide) rfl rfl ?_
                refine s_iret X Y dX2_endBase85_121 (rfl) ?_
                refine ⟨pl, (i + 2), (if 400 < len24 then wh else len24), len24, t24, rfl, ?_, ?_, ?_, ?_, ?_⟩
                · (first | (exfalso; omega) | (exact stA_1 hr hT))
                · (first | (exfalso; omega) | (intro _; rw [hr]; exact ⟨rfl, rfl⟩))
                · (first | (exfalso; omega) | (intro h; exact st6 hr hT h))
                · (first | (exfalso; omega) | (exact TX_R hT))
                · (first | (exfalso; omega) | (exact (hT).2.2))
              · refine s_aload_n X dX2_endBase85_94 rfl 3 rfl ?_
                refine s_bipush (-3) X dX2_endBase85_95 (by decide) ?_
                refine s_iload_n X dX2_endBase85_97 rfl 4 rfl ?_
                refine s_iconst X dX2_endBase85_98 ?_
                refine s_iadd X dX2_endBase85_99 ?_
                have hr : e5E B n i g q o = (2, i + 1, []) := by rw [e5E, if_neg (by omega), if_neg (by assumption), if_neg (by assumption)]
                refine s_callIV X lk_X2_78 [1] [0, 2, 3, 4] (wr := [oSt s b, aB G x 401 t, oBy b a n rd e, aB G a 3000 B]) rfl rfl (by decide) (by decide) (by decide) (c_X3_wrongByte (kl K) G k x i8 d8 pl af wh len ror rl re (-3) (i + 1)) rfl rfl dX2_endBase85_100 rfl rfl (Nat.le_of_ble_eq_true rfl) (by decide) (fun z6 w6 h6 => ?_)
                obtain ⟨rfl, rfl⟩ := h6
                show SW K G 9 0 0 103 [(8, .int (iI (bA B n (i + 1)))), (6, .long (lI f)), (0, .ref s), (1, .ref k), (2, .int (iI i)), (3, .long (lI g)), (5, .int (iI q))] [.int (iI (-3))] [oSt s b, aB G x 401 t, oBy b a n rd e, aB G a 3000 B, oTk k (i + 1) ((i + 1) + 1) wh re x len i8 d8 ror rl]
                refine s_perm (ws' := [oSt s b, oBy b a n rd e, aB G a 3000 B, oTk k (i + 1) ((i + 1) + 1) wh re x len i8 d8 ror rl, aB G x 401 t]) [0, 2, 3, 4, 1] (by decide) rfl rfl ?_
                refine s_iret X Y dX2_endBase85_103 (rfl) ?_
                refine ⟨(i + 1), ((i + 1) + 1), wh, len, t, rfl, ?_, ?_, ?_, ?_, ?_⟩
                · (first | (exfalso; omega) | (exact stA_2 hr))
                · (first | (exfalso; omega) | (intro _; rw [hr]; exact ⟨rfl, rfl⟩))
                · (first | (exfalso; omega) | (intro h; exact absurd h (by decide)))
                · (first | (exfalso; omega) | (exact TX_R hx))
                · (first | (exfalso; omega) | (exact (hx).2.2))
            · refine s_aload_n X dX2_endBase85_78 rfl 2 rfl ?_
              refine s_get X dX2_endBase85_79 fl_X2_9 0 rfl rfl ?_
              refine s_aload_n X dX2_endBase85_82 rfl 3 rfl ?_
              have hr : e5E B n i g q o = (0, 0, []) := by rw [e5E, if_neg (by omega), if_pos (by assumption)]
              refine s_callIV X lk_X2_44 [3, 1] [0, 2, 4] (wr := [oSt s b, aB G x 401 t, aB G a 3000 B]) rfl rfl (by decide) (by decide) (by decide) (c_X1_lacking (kl K) G b a n rd e k x i8 d8 pl af wh len ror rl re (by omega)) rfl rfl dX2_endBase85_83 rfl rfl (Nat.le_of_ble_eq_true rfl) (by decide) (fun z7 w7 h7 => ?_)
              obtain ⟨rfl, rfl⟩ := h7
              show SW K G 9 0 0 86 [(8, .int (iI (bA B n (i + 1)))), (6, .long (lI f)), (0, .ref s), (1, .ref k), (2, .int (iI i)), (3, .long (lI g)), (5, .int (iI q))] [.int (iI (if e = 0 then 0 else -7))] [oSt s b, aB G x 401 t, aB G a 3000 B, oBy b a n rd e, oTk k pl (if e = 0 then af else n) wh re x len i8 d8 ror rl]
              refine s_perm (ws' := [oSt s b, oBy b a n rd e, aB G a 3000 B, oTk k pl (if e = 0 then af else n) wh re x len i8 d8 ror rl, aB G x 401 t]) [0, 3, 2, 4, 1] (by decide) rfl rfl ?_
              refine s_iret X Y dX2_endBase85_86 (rfl) ?_
              refine ⟨pl, (if e = 0 then af else n), wh, len, t, rfl, ?_, ?_, ?_, ?_, ?_⟩
              · (first | (exfalso; omega) | (exact stA_0 hr))
              · (first | (exfalso; omega) | (intro h; rw [hr]; have h9 : ¬ e = 0 := (fun q => h (by rw [if_pos q])); exact ⟨by rw [if_neg h9]; rfl, rfl⟩))
              · (first | (exfalso; omega) | (intro h; exact absurd h (by split <;> decide)))
              · (first | (exfalso; omega) | (exact TX_R hx))
              · (first | (exfalso; omega) | (exact (hx).2.2))
          · refine s_lload X dX2_endBase85_43 0 rfl ?_
            refine s_ldc2 4294967296 X dX2_endBase85_45 tg441 (by decide) ?_
            refine s_lif_lt X 60 dX2_endBase85_48 dX2_endBase85_49 (by decide) (by omega) (fun c48 => ?_) (fun c48 => ?_)
            · refine s_aload_n X dX2_endBase85_60 rfl 2 rfl ?_
              refine s_get X dX2_endBase85_61 fl_X2_9 0 rfl rfl ?_
              refine s_iload_n X dX2_endBase85_64 rfl 4 rfl ?_
              refine s_iconst X dX2_endBase85_65 ?_
              refine s_iadd X dX2_endBase85_66 ?_
              refine s_callIV X lk_X2_26 [1, 2] [0, 3, 4] (wr := [oSt s b, oTk k pl af wh re x len i8 d8 ror rl, aB G x 401 t]) rfl rfl (by decide) (by decide) (by decide) (c_X1_at (kl K) G b a n rd e B (i + 1) (by assumption) (by assumption) (by omega)) rfl rfl dX2_endBase85_67 rfl rfl (Nat.le_of_ble_eq_true rfl) (by decide) (fun z8 w8 h8 => ?_)
              obtain ⟨rfl, rfl⟩ := h8
              show SW K G 9 0 0 70 [(6, .long (lI f)), (8, .int (iI u)), (0, .ref s), (1, .ref k), (2, .int (iI i)), (3, .long (lI g)), (5, .int (iI q))] [.int (iI (bA B n (i + 1)))] [oSt s b, oTk k pl af wh re x len i8 d8 ror rl, aB G x 401 t, oBy b a n rd e, aB G a 3000 B]
              have q9 := bA_C n (i + 1) (by assumption : ∀ j, B j < 256)
              refine s_istore X dX2_endBase85_70 [(8, .int (iI (bA B n (i + 1)))), (6, .long (lI f)), (0, .ref s), (1, .ref k), (2, .int (iI i)), (3, .long (lI g)), (5, .int (iI q))] (by decide) rfl ?_
              refine s_iload X dX2_endBase85_72 0 rfl ?_
              refine s_iconst X dX2_endBase85_74 ?_
              refine s_icmp_ne X 87 dX2_endBase85_75 (by decide) (by omega) (fun c75 => ?_) (fun c75 => ?_)
              · refine s_iload X dX2_endBase85_87 0 rfl ?_
                refine s_bipush 62 X dX2_endBase85_89 (by decide) ?_
                refine s_icmp_eq X 104 dX2_endBase85_91 (by decide) (by omega) (fun c91 => ?_) (fun c91 => ?_)
                · refine s_aload_n X dX2_endBase85_104 rfl 3 rfl ?_
                  refine s_lload X dX2_endBase85_105 1 rfl ?_
                  refine s_iload X dX2_endBase85_107 6 rfl ?_
                  refine s_iconst X dX2_endBase85_109 ?_
                  refine s_isub X dX2_endBase85_110 ?_
                  refine s_callVS X lk_X2_85 [1, 2] [0, 3, 4] (wr := [oSt s b, oBy b a n rd e, aB G a 3000 B]) rfl rfl (by decide) (by decide) (by decide) (c_X2_putHighest (kl K) G k x i8 d8 pl af wh len ror rl re t o f (q - 1) (by assumption) (by omega) (by omega)) dX2_endBase85_111 rfl rfl (Nat.le_of_ble_eq_true rfl) (by decide) (fun w10 h10 => ?_)
                  obtain ⟨len210, t210, rfl, f10_0⟩ := h10
                  show SW K G 9 0 0 114 [(8, .int (iI (bA B n (i + 1)))), (6, .long (lI f)), (0, .ref s), (1, .ref k), (2, .int (iI i)), (3, .long (lI g)), (5, .int (iI q))] [] [oSt s b, oBy b a n rd e, aB G a 3000 B, oTk k pl af wh re x len210 i8 d8 ror rl, aB G x 401 t210]
                  have hT := f10_0
                  rw [hff] at hT
                  have hlen2 := TX_R hT
                  have hr : e5E B n i g q o = (1, i + 2, o ++ hiL (fl5 g q) (q - 1).toNat) := by rw [e5E, if_neg (by omega), if_neg (by assumption), if_pos (by assumption)]
                  refine s_aload_n X dX2_endBase85_114 rfl 3 rfl ?_
                  refine s_iload_n X dX2_endBase85_115 rfl 4 rfl ?_
                  refine s_iconst X dX2_endBase85_116 ?_
                  refine s_iadd X dX2_endBase85_117 ?_
                  refine s_callIS X lk_X2_30 [3] [0, 1, 2, 4] (wr := [oSt s b, oBy b a n rd e, aB G a 3000 B, aB G x 401 t210]) rfl rfl (by decide) (by decide) (by decide) (c_X2_wholeString (kl K) G k x i8 d8 pl af wh len210 ror rl re (i + 2) (by omega)) dX2_endBase85_118 rfl rfl (Nat.le_of_ble_eq_true rfl) (by decide) (fun z11 w11 h11 => ?_)
                  obtain ⟨rfl, rfl⟩ := h11
                  show SW K G 9 0 0 121 [(8, .int (iI (bA B n (i + 1)))), (6, .long (lI f)), (0, .ref s), (1, .ref k), (2, .int (iI i)), (3, .long (lI g)), (5, .int (iI q))] [.int (iI (if 400 < len210 then -2 else 6))] [oSt s b, oBy b a n rd e, aB G a 3000 B, aB G x 401 t210, oTk k pl (i + 2) (if 400 < len210 then wh else len210) re x len210 i8 d8 ror rl]
                  refine s_perm (ws' := [oSt s b, oBy b a n rd e, aB G a 3000 B, oTk k pl (i + 2) (if 400 < len210 then wh else len210) re x len210 i8 d8 ror rl, aB G x 401 t210]) [0, 1, 2, 4, 3] (by decide) rfl rfl ?_
                  refine s_iret X Y dX2_endBase85_121 (rfl) ?_
                  refine ⟨pl, (i + 2), (if 400 < len210 then wh else len210), len210, t210, rfl, ?_, ?_, ?_, ?_, ?_⟩
                  · (first | (exfalso; omega) | (exact stA_1 hr hT))
                  · (first | (exfalso; omega) | (intro _; rw [hr]; exact ⟨rfl, rfl⟩))
                  · (first | (exfalso; omega) | (intro h; exact st6 hr hT h))
                  · (first | (exfalso; omega) | (exact TX_R hT))
                  · (first | (exfalso; omega) | (exact (hT).2.2))
                · refine s_aload_n X dX2_endBase85_94 rfl 3 rfl ?_
                  refine s_bipush (-3) X dX2_endBase85_95 (by decide) ?_
                  refine s_iload_n X dX2_endBase85_97 rfl 4 rfl ?_
                  refine s_iconst X dX2_endBase85_98 ?_
                  refine s_iadd X dX2_endBase85_99 ?_
                  have hr : e5E B n i g q o = (2, i + 1, []) := by rw [e5E, if_neg (by omega), if_neg (by assumption), if_neg (by assumption)]
                  refine s_callIV X lk_X2_78 [1] [0, 2, 3, 4] (wr := [oSt s b, aB G x 401 t, oBy b a n rd e, aB G a 3000 B]) rfl rfl (by decide) (by decide) (by decide) (c_X3_wrongByte (kl K) G k x i8 d8 pl af wh len ror rl re (-3) (i + 1)) rfl rfl dX2_endBase85_100 rfl rfl (Nat.le_of_ble_eq_true rfl) (by decide) (fun z12 w12 h12 => ?_)
                  obtain ⟨rfl, rfl⟩ := h12
                  show SW K G 9 0 0 103 [(8, .int (iI (bA B n (i + 1)))), (6, .long (lI f)), (0, .ref s), (1, .ref k), (2, .int (iI i)), (3, .long (lI g)), (5, .int (iI q))] [.int (iI (-3))] [oSt s b, aB G x 401 t, oBy b a n rd e, aB G a 3000 B, oTk k (i + 1) ((i + 1) + 1) wh re x len i8 d8 ror rl]
                  refine s_perm (ws' := [oSt s b, oBy b a n rd e, aB G a 3000 B, oTk k (i + 1) ((i + 1) + 1) wh re x len i8 d8 ror rl, aB G x 401 t]) [0, 2, 3, 4, 1] (by decide) rfl rfl ?_
                  refine s_iret X Y dX2_endBase85_103 (rfl) ?_
                  refine ⟨(i + 1), ((i + 1) + 1), wh, len, t, rfl, ?_, ?_, ?_, ?_, ?_⟩
                  · (first | (exfalso; omega) | (exact stA_2 hr))
                  · (first | (exfalso; omega) | (intro _; rw [hr]; exact ⟨rfl, rfl⟩))
                  · (first | (exfalso; omega) | (intro h; exact absurd h (by decide)))
                  · (first | (exfalso; omega) | (exact TX_R hx))
                  · (first | (exfalso; omega) | (exact (hx).2.2))
              · refine s_aload_n X dX2_endBase85_78 rfl 2 rfl ?_
                refine s_get X dX2_endBase85_79 fl_X2_9 0 rfl rfl ?_
                refine s_aload_n X dX2_endBase85_82 rfl 3 rfl ?_
                have hr : e5E B n i g q o = (0, 0, []) := by rw [e5E, if_neg (by omega), if_pos (by assumption)]
                refine s_callIV X lk_X2_44 [3, 1] [0, 2, 4] (wr := [oSt s b, aB G x 401 t, aB G a 3000 B]) rfl rfl (by decide) (by decide) (by decide) (c_X1_lacking (kl K) G b a n rd e k x i8 d8 pl af wh len ror rl re (by omega)) rfl rfl dX2_endBase85_83 rfl rfl (Nat.le_of_ble_eq_true rfl) (by decide) (fun z13 w13 h13 => ?_)
                obtain ⟨rfl, rfl⟩ := h13
                show SW K G 9 0 0 86 [(8, .int (iI (bA B n (i + 1)))), (6, .long (lI f)), (0, .ref s), (1, .ref k), (2, .int (iI i)), (3, .long (lI g)), (5, .int (iI q))] [.int (iI (if e = 0 then 0 else -7))] [oSt s b, aB G x 401 t, aB G a 3000 B, oBy b a n rd e, oTk k pl (if e = 0 then af else n) wh re x len i8 d8 ror rl]
                refine s_perm (ws' := [oSt s b, oBy b a n rd e, aB G a 3000 B, oTk k pl (if e = 0 then af else n) wh re x len i8 d8 ror rl, aB G x 401 t]) [0, 3, 2, 4, 1] (by decide) rfl rfl ?_
                refine s_iret X Y dX2_endBase85_86 (rfl) ?_
                refine ⟨pl, (if e = 0 then af else n), wh, len, t, rfl, ?_, ?_, ?_, ?_, ?_⟩
                · (first | (exfalso; omega) | (exact stA_0 hr))
                · (first | (exfalso; omega) | (intro h; rw [hr]; have h9 : ¬ e = 0 := (fun q => h (by rw [if_pos q])); exact ⟨by rw [if_neg h9]; rfl, rfl⟩))
                · (first | (exfalso; omega) | (intro h; exact absurd h (by split <;> decide)))
                · (first | (exfalso; omega) | (exact TX_R hx))
                · (first | (exfalso; omega) | (exact (hx).2.2))
            · refine s_aload_n X dX2_endBase85_52 rfl 3 rfl ?_
              refine s_bipush (-3) X dX2_endBase85_53 (by decide) ?_
              refine s_iload_n X dX2_endBase85_55 rfl 4 rfl ?_
              have hr : e5E B n i g q o = (2, i, []) := by rw [e5E, if_pos (by omega)]
              refine s_callIV X lk_X2_78 [3] [0, 1, 2, 4] (wr := [oSt s b, oBy b a n rd e, aB G a 3000 B, aB G x 401 t]) rfl rfl (by decide) (by decide) (by decide) (c_X3_wrongByte (kl K) G k x i8 d8 pl af wh len ror rl re (-3) i) rfl rfl dX2_endBase85_56 rfl rfl (Nat.le_of_ble_eq_true rfl) (by decide) (fun z14 w14 h14 => ?_)
              obtain ⟨rfl, rfl⟩ := h14
              show SW K G 9 0 0 59 [(6, .long (lI f)), (8, .int (iI u)), (0, .ref s), (1, .ref k), (2, .int (iI i)), (3, .long (lI g)), (5, .int (iI q))] [.int (iI (-3))] [oSt s b, oBy b a n rd e, aB G a 3000 B, aB G x 401 t, oTk k i (i + 1) wh re x len i8 d8 ror rl]
              refine s_perm (ws' := [oSt s b, oBy b a n rd e, aB G a 3000 B, oTk k i (i + 1) wh re x len i8 d8 ror rl, aB G x 401 t]) [0, 1, 2, 4, 3] (by decide) rfl rfl ?_
              refine s_iret X Y dX2_endBase85_59 (rfl) ?_
              refine ⟨i, (i + 1), wh, len, t, rfl, ?_, ?_, ?_, ?_, ?_⟩
              · (first | (exfalso; omega) | (exact stA_2 hr))
              · (first | (exfalso; omega) | (intro _; rw [hr]; exact ⟨rfl, rfl⟩))
              · (first | (exfalso; omega) | (intro h; exact absurd h (by decide)))
              · (first | (exfalso; omega) | (exact TX_R hx))
              · (first | (exfalso; omega) | (exact (hx).2.2))
      · refine s_lload X dX2_endBase85_13 0 rfl ?_
        refine s_ldc2 85 X dX2_endBase85_15 tg439 (by decide) ?_
        refine s_lmul X dX2_endBase85_18 ?_
        refine s_ldc2 84 X dX2_endBase85_19 tg440 (by decide) ?_
        refine s_ladd X dX2_endBase85_22 ?_
        refine s_lstore X dX2_endBase85_23 [(6, .long (lI ((f * 85) + 84))), (8, .int (iI u)), (0, .ref s), (1, .ref k), (2, .int (iI i)), (3, .long (lI g)), (5, .int (iI q))] (by decide) rfl ?_
        refine s_iinc (z := u + 1) X dX2_endBase85_25 1 rfl (by first | rfl | omega) [(8, .int (iI (u + 1))), (6, .long (lI ((f * 85) + 84))), (0, .ref s), (1, .ref k), (2, .int (iI i)), (3, .long (lI g)), (5, .int (iI q))] (by decide) rfl ?_
        refine s_goto X 7 dX2_endBase85_28 (by decide) ?_
        refine s_locs (lv' := [(6, .long (lI ((f * 85) + 84))), (8, .int (iI (u + 1))), (0, .ref s), (1, .ref k), (2, .int (iI i)), (3, .long (lI g)), (5, .int (iI q))]) [1, 0, 2, 3, 4, 5, 6] rfl ?_
        exact ih9 ((f * 85) + 84) (u + 1) (by omega) (by omega) (by rw [← h2, show (5 - u).toNat = (5 - (u + 1)).toNat + 1 by omega]; rfl) (by omega)
  refine s_locs (lv' := [(6, .long (lI g)), (8, .int (iI q)), (0, .ref s), (1, .ref k), (2, .int (iI i)), (3, .long (lI g)), (5, .int (iI q))]) [1, 0, 2, 3, 4, 5, 6] rfl ?_
  exact lp _ g q (by omega) (by omega) (rfl) (Nat.lt_succ_self _)
set_option maxRecDepth 100000 in
set_option maxHeartbeats 4000000 in
theorem c_X2_readBase85 (l : Launch) (G : GX) (s : Nat) (b : Nat) (a : Nat) (n : Int) (rd : Int) (e : Int) (B : Nat → Nat) (k : Nat) (x : Nat) (i8 : Nat) (d8 : Nat) (pl : Int) (af : Int) (wh : Int) (len : Int) (ror : Int) (rl : Int) (re : UInt64) (t : Nat → Nat) (hn : 0 ≤ n ∧ n ≤ 3000) (hBb : ∀ j, B j < 256) (he : e = 0 ∨ e = 1) (htb : ∀ j, t j < 256) (h0 : len = 0) (hi : 0 ≤ pl ∧ pl + 2 ≤ n) : CtI l G yX2_readBase85 cX2_readBase85 7 (some .int) ({ frames := 3, cells := 0, slots := 0, locals := 73 } : Room) [.ref s, .ref k] [oSt s b, oBy b a n rd e, aB G a 3000 B, oTk k pl af wh re x len i8 d8 ror rl, aB G x 401 t] (fun (z9 : Int) (w9 : va_W) => ∃ (pl2 : Int), ∃ (af2 : Int), ∃ (wh2 : Int), ∃ (len2 : Int), ∃ (t2 : Nat → Nat), w9 = [oSt s b, oBy b a n rd e, aB G a 3000 B, oTk k pl2 af2 wh2 re x len2 i8 d8 ror rl, aB G x 401 t2] ∧ (z9 = stA e (e5S B n (pl + 2) 0 0 [])) ∧ (z9 ≠ 0 → af2 = stF n (e5S B n (pl + 2) 0 0 []) ∧ pl2 = stP pl (e5S B n (pl + 2) 0 0 [])) ∧ (z9 = 6 → wh2 = ((e5S B n (pl + 2) 0 0 []).2.2.length : Int) ∧ TX t2 len2 (e5S B n (pl + 2) 0 0 []).2.2) ∧ (0 ≤ len2 ∧ len2 ≤ 401) ∧ (∀ j, t2 j < 256)) := by
  intro sz
  refine met_of (fun wc sz => va_Qi (qI _) (posW G wc sz) (va_A wc sz)) (by decide) [(0, .ref s), (1, .ref k)] rfl (Nat.le_of_ble_eq_true rfl) (fun K hK9 hnm X Y => ?_)
  subst hK9
  replace Y : RI K G (some .int) 0 0 _ := Y
  refine s_lconst0 X dX2_readBase85_0 ?_
  refine s_lstore_n X dX2_readBase85_1 rfl [(2, .long (lI 0)), (0, .ref s), (1, .ref k)] (by decide) rfl ?_
  refine s_iconst X dX2_readBase85_2 ?_
  refine s_istore X dX2_readBase85_3 [(4, .int (iI 0)), (2, .long (lI 0)), (0, .ref s), (1, .ref k)] (by decide) rfl ?_
  refine s_aload_n X dX2_readBase85_5 rfl 3 rfl ?_
  refine s_get X dX2_readBase85_6 fl_X2_15 3 rfl rfl ?_
  refine s_iconst X dX2_readBase85_9 ?_
  refine s_iadd X dX2_readBase85_10 ?_
  refine s_istore X dX2_readBase85_11 [(5, .int (iI (pl + 2))), (4, .int (iI 0)), (2, .long (lI 0)), (0, .ref s), (1, .ref k)] (by decide) rfl ?_
  have lp : ∀ (m9 : Nat) (i : Int) (g : Int) (q : Int) (ln : Int) (tt : Nat → Nat) (o : List Nat) (h1 : pl + 2 ≤ i ∧ i ≤ n) (hg : (q = 0 ∧ g = 0) ∨ (q = 1 ∧ 0 ≤ g ∧ g < 85) ∨ (q = 2 ∧ 0 ≤ g ∧ g < 7225) ∨ (q = 3 ∧ 0 ≤ g ∧ g < 614125) ∨ (q = 4 ∧ 0 ≤ g ∧ g < 52200625)) (h3 : TX tt ln o) (h2 : e5S B n i g q o = e5S B n (pl + 2) 0 0 []), (n - i).toNat < m9 → SW K G 7 0 0 13 [(2, .long (lI g)), (4, .int (iI q)), (5, .int (iI i)), (0, .ref s), (1, .ref k)] [] [oSt s b, oBy b a n rd e, aB G a 3000 B, oTk k pl af wh re x ln i8 d8 ror rl, aB G x 401 tt] := by
    intro m9
    induction m9 with
    | zero => intro i g q ln tt o h1 hg h3 h2 hm9; exact absurd hm9 (Nat.not_lt_zero _)
    | succ m9 ih9 =>
      intro i g q ln tt o h1 hg h3 h2 hm9
      have hlen := TX_R h3
      refine s_iload X dX2_readBase85_13 2 rfl ?_
      refine s_aload_n X dX2_readBase85_15 rfl 3 rfl ?_
      refine s_get X dX2_readBase85_16 fl_X2_9 0 rfl rfl ?_
      refine s_get X dX2_readBase85_19 fl_X2_21 1 rfl rfl ?_
      refine s_icmp_ge X 166 dX2_readBase85_22 (by decide) (by omega) (fun c22 => ?_) (fun c22 => ?_)
      · refine s_aload_n X dX2_readBase85_166 rfl 3 rfl ?_
        refine s_get X dX2_readBase85_167 fl_X2_9 0 rfl rfl ?_
        refine s_aload_n X dX2_readBase85_170 rfl 4 rfl ?_
        have hr : e5S B n (pl + 2) 0 0 [] = (0, 0, []) := by rw [← h2, e5S_out (by omega)]
        refine s_callIV X lk_X2_44 [1, 3] [0, 2, 4] (wr := [oSt s b, aB G a 3000 B, aB G x 401 tt]) rfl rfl (by decide) (by decide) (by decide) (c_X1_lacking (kl K) G b a n rd e k x i8 d8 pl af wh ln ror rl re (by omega)) rfl rfl dX2_readBase85_171 rfl rfl (Nat.le_of_ble_eq_true rfl) (by decide) (fun z1 w1 h1 => ?_)
        obtain ⟨rfl, rfl⟩ := h1
        show SW K G 7 0 0 174 [(2, .long (lI g)), (4, .int (iI q)), (5, .int (iI i)), (0, .ref s), (1, .ref k)] [.int (iI (if e = 0 then 0 else -7))] [oSt s b, aB G a 3000 B, aB G x 401 tt, oBy b a n rd e, oTk k pl (if e = 0 then af else n) wh re x ln i8 d8 ror rl]
        refine s_perm (ws' := [oSt s b, oBy b a n rd e, aB G a 3000 B, oTk k pl (if e = 0 then af else n) wh re x ln i8 d8 ror rl, aB G x 401 tt]) [0, 3, 1, 4, 2] (by decide) rfl rfl ?_
        refine s_iret X Y dX2_readBase85_174 (rfl) ?_
        refine ⟨pl, (if e = 0 then af else n), wh, ln, tt, rfl, ?_, ?_, ?_, ?_, ?_⟩
        · (first | (exfalso; omega) | (exact stA_0 hr))
        · (first | (exfalso; omega) | (intro h; rw [hr]; have h9 : ¬ e = 0 := (fun q => h (by rw [if_pos q])); exact ⟨by rw [if_neg h9]; rfl, rfl⟩))
        · (first | (exfalso; omega) | (intro h; exact absurd h (by split <;> decide)))
        · (first | (exfalso; omega) | (exact TX_R h3))
        · (first | (exfalso; omega) | (exact (h3).2.2))
      · refine s_aload_n X dX2_readBase85_25 rfl 3 rfl ?_
        refine s_get X dX2_readBase85_26 fl_X2_9 0 rfl rfl ?_
        refine s_iload X dX2_readBase85_29 2 rfl ?_
        refine s_callIV X lk_X2_26 [1, 2] [0, 3, 4] (wr := [oSt s b, oTk k pl af wh re x ln i8 d8 ror rl, aB G x 401 tt]) rfl rfl (by decide) (by decide) (by decide) (c_X1_at (kl K) G b a n rd e B i (by assumption) (by assumption) (by omega)) rfl rfl dX2_readBase85_31 rfl rfl (Nat.le_of_ble_eq_true rfl) (by decide) (fun z2 w2 h2 => ?_)
        obtain ⟨rfl, rfl⟩ := h2
        show SW K G 7 0 0 34 [(2, .long (lI g)), (4, .int (iI q)), (5, .int (iI i)), (0, .ref s), (1, .ref k)] [.int (iI (bA B n i))] [oSt s b, oTk k pl af wh re x ln i8 d8 ror rl, aB G x 401 tt, oBy b a n rd e, aB G a 3000 B]
        have q3 := bA_C n i (by assumption : ∀ j, B j < 256)
        refine s_istore X dX2_readBase85_34 [(6, .int (iI (bA B n i))), (2, .long (lI g)), (4, .int (iI q)), (5, .int (iI i)), (0, .ref s), (1, .ref k)] (by decide) rfl ?_
        refine s_iload X dX2_readBase85_36 0 rfl ?_
        refine s_callIS X lk_X2_70 [] [0, 1, 2, 3, 4] (wr := [oSt s b, oTk k pl af wh re x ln i8 d8 ror rl, aB G x 401 tt, oBy b a n rd e, aB G a 3000 B]) rfl rfl (by decide) (by decide) (by decide) (c_X1_isWhite (kl K) G (bA B n i) (by omega)) dX2_readBase85_38 rfl rfl (Nat.le_of_ble_eq_true rfl) (by decide) (fun z4 w4 h4 => ?_)
        obtain ⟨rfl, rfl⟩ := h4
        show SW K G 7 0 0 41 [(6, .int (iI (bA B n i))), (2, .long (lI g)), (4, .int (iI q)), (5, .int (iI i)), (0, .ref s), (1, .ref k)] [.int (iI (tf (isW (bA B n i))))] [oSt s b, oTk k pl af wh re x ln i8 d8 ror rl, aB G x 401 tt, oBy b a n rd e, aB G a 3000 B]
        refine s_tf_eq X 47 dX2_readBase85_41 (by decide) (fun c41 => ?_) (fun c41 => ?_)
        · refine s_iload X dX2_readBase85_47 0 rfl ?_
          refine s_bipush 126 X dX2_readBase85_49 (by decide) ?_
          refine s_icmp_ne X 65 dX2_readBase85_51 (by decide) (by omega) (fun c51 => ?_) (fun c51 => ?_)
          · refine s_iload X dX2_readBase85_65 0 rfl ?_
            refine s_bipush 122 X dX2_readBase85_67 (by decide) ?_
            refine s_icmp_ne X 86 dX2_readBase85_69 (by decide) (by omega) (fun c69 => ?_) (fun c69 => ?_)
            · refine s_iload X dX2_readBase85_86 0 rfl ?_
              refine s_bipush 33 X dX2_readBase85_88 (by decide) ?_
              refine s_icmp_lt X 100 dX2_readBase85_90 (by decide) (by omega) (fun c90 => ?_) (fun c90 => ?_)
              · refine s_aload_n X dX2_readBase85_100 rfl 5 rfl ?_
                refine s_bipush (-3) X dX2_readBase85_101 (by decide) ?_
                refine s_iload X dX2_readBase85_103 3 rfl ?_
                have hr : e5S B n (pl + 2) 0 0 [] = (2, i, []) := by rw [← h2, e5S_s (i := i) (by omega), if_neg (by assumption), if_neg (by assumption), if_neg (by omega), if_pos (by omega)]
                refine s_callIV X lk_X2_78 [1] [0, 2, 3, 4] (wr := [oSt s b, aB G x 401 tt, oBy b a n rd e, aB G a 3000 B]) rfl rfl (by decide) (by decide) (by decide) (c_X3_wrongByte (kl K) G k x i8 d8 pl af wh ln ror rl re (-3) i) rfl rfl dX2_readBase85_105 rfl rfl (Nat.le_of_ble_eq_true rfl) (by decide) (fun z5 w5 h5 => ?_)
                obtain ⟨rfl, rfl⟩ := h5
                show SW K G 7 0 0 108 [(6, .int (iI (bA B n i))), (2, .long (lI g)), (4, .int (iI q)), (5, .int (iI i)), (0, .ref s), (1, .ref k)] [.int (iI (-3))] [oSt s b, aB G x 401 tt, oBy b a n rd e, aB G a 3000 B, oTk k i (i + 1) wh re x ln i8 d8 ror rl]
                refine s_perm (ws' := [oSt s b, oBy b a n rd e, aB G a 3000 B, oTk k i (i + 1) wh re x ln i8 d8 ror rl, aB G x 401 tt]) [0, 2, 3, 4, 1] (by decide) rfl rfl ?_
                refine s_iret X Y dX2_readBase85_108 (rfl) ?_
                refine ⟨i, (i + 1), wh, ln, tt, rfl, ?_, ?_, ?_, ?_, ?_⟩
                · (first | (exfalso; omega) | (exact stA_2 hr))
                · (first | (exfalso; omega) | (intro _; rw [hr]; exact ⟨rfl, rfl⟩))
                · (first | (exfalso; omega) | (intro h; exact absurd h (by decide)))
                · (first | (exfalso; omega) | (exact TX_R h3))
                · (first | (exfalso; omega) | (exact (h3).2.2))
              · refine s_iload X dX2_readBase85_93 0 rfl ?_
                refine s_bipush 117 X dX2_readBase85_95 (by decide) ?_
                refine s_icmp_le X 109 dX2_readBase85_97 (by decide) (by omega) (fun c97 => ?_) (fun c97 => ?_)
                · refine s_lload_n X dX2_readBase85_109 rfl 1 rfl ?_
                  refine s_ldc2 85 X dX2_readBase85_110 tg439 (by decide) ?_
                  refine s_lmul X dX2_readBase85_113 ?_
                  refine s_iload X dX2_readBase85_114 0 rfl ?_
                  refine s_i2l X dX2_readBase85_116 (by omega) ?_
                  refine s_ladd X dX2_readBase85_117 ?_
                  refine s_ldc2 33 X dX2_readBase85_118 tg446 (by decide) ?_
                  refine s_lsub X dX2_readBase85_121 ?_
                  refine s_lstore_n X dX2_readBase85_122 rfl [(2, .long (lI (((g * 85) + (bA B n i)) - 33))), (6, .int (iI (bA B n i))), (4, .int (iI q)), (5, .int (iI i)), (0, .ref s), (1, .ref k)] (by decide) rfl ?_
                  refine s_iinc (z := q + 1) X dX2_readBase85_123 2 rfl (by first | rfl | omega) [(4, .int (iI (q + 1))), (2, .long (lI (((g * 85) + (bA B n i)) - 33))), (6, .int (iI (bA B n i))), (5, .int (iI i)), (0, .ref s), (1, .ref k)] (by decide) rfl ?_
                  refine s_lload_n X dX2_readBase85_126 rfl 1 rfl ?_
                  refine s_ldc2 4294967296 X dX2_readBase85_127 tg441 (by decide) ?_
                  refine s_lif_lt X 143 dX2_readBase85_130 dX2_readBase85_131 (by decide) (by omega) (fun c130 => ?_) (fun c130 => ?_)
                  · refine s_iload X dX2_readBase85_143 0 rfl ?_
                    refine s_iconst X dX2_readBase85_145 ?_
                    refine s_icmp_ne X 160 dX2_readBase85_146 (by decide) (by omega) (fun c146 => ?_) (fun c146 => ?_)
                    · refine s_iinc (z := i + 1) X dX2_readBase85_160 3 rfl (by first | rfl | omega) [(5, .int (iI (i + 1))), (4, .int (iI (q + 1))), (2, .long (lI (((g * 85) + (bA B n i)) - 33))), (6, .int (iI (bA B n i))), (0, .ref s), (1, .ref k)] (by decide) rfl ?_
                      refine s_goto X 13 dX2_readBase85_163 (by decide) ?_
                      refine s_locs (lv' := [(2, .long (lI (((g * 85) + (bA B n i)) - 33))), (4, .int (iI (q + 1))), (5, .int (iI (i + 1))), (0, .ref s), (1, .ref k)]) [2, 1, 0, 4, 5] rfl ?_
                      refine s_perm (ws' := [oSt s b, oBy b a n rd e, aB G a 3000 B, oTk k pl af wh re x ln i8 d8 ror rl, aB G x 401 tt]) [0, 3, 4, 1, 2] (by decide) rfl rfl ?_
                      exact ih9 (i + 1) (((g * 85) + (bA B n i)) - 33) (q + 1) ln tt o (by omega) (by omega) (h3) (by rw [← h2, e5S_s (i := i) (by omega), if_neg (by assumption), if_neg (by assumption), if_neg (by omega), if_neg (by omega), if_neg (by omega), if_neg (by omega)]) (by omega)
                    · refine s_aload_n X dX2_readBase85_149 rfl 5 rfl ?_
                      refine s_lload_n X dX2_readBase85_150 rfl 1 rfl ?_
                      refine s_iconst X dX2_readBase85_151 ?_
                      refine s_callVS X lk_X2_85 [1, 2] [0, 3, 4] (wr := [oSt s b, oBy b a n rd e, aB G a 3000 B]) rfl rfl (by decide) (by decide) (by decide) (c_X2_putHighest (kl K) G k x i8 d8 pl af wh ln ror rl re tt o (((g * 85) + (bA B n i)) - 33) 4 (by assumption) (by omega) (by omega)) dX2_readBase85_152 rfl rfl (Nat.le_of_ble_eq_true rfl) (by decide) (fun w6 h6 => ?_)
                      obtain ⟨len26, t26, rfl, f6_0⟩ := h6
                      show SW K G 7 0 0 155 [(4, .int (iI (q + 1))), (2, .long (lI (((g * 85) + (bA B n i)) - 33))), (6, .int (iI (bA B n i))), (5, .int (iI i)), (0, .ref s), (1, .ref k)] [] [oSt s b, oBy b a n rd e, aB G a 3000 B, oTk k pl af wh re x len26 i8 d8 ror rl, aB G x 401 t26]
                      have hT : TX t26 len26 (o ++ hiL (g * 85 + bA B n i - 33) 4) := f6_0
                      refine s_lconst0 X dX2_readBase85_155 ?_
                      refine s_lstore_n X dX2_readBase85_156 rfl [(2, .long (lI 0)), (4, .int (iI (q + 1))), (6, .int (iI (bA B n i))), (5, .int (iI i)), (0, .ref s), (1, .ref k)] (by decide) rfl ?_
                      refine s_iconst X dX2_readBase85_157 ?_
                      refine s_istore X dX2_readBase85_158 [(4, .int (iI 0)), (2, .long (lI 0)), (6, .int (iI (bA B n i))), (5, .int (iI i)), (0, .ref s), (1, .ref k)] (by decide) rfl ?_
                      refine s_iinc (z := i + 1) X dX2_readBase85_160 3 rfl (by first | rfl | omega) [(5, .int (iI (i + 1))), (4, .int (iI 0)), (2, .long (lI 0)), (6, .int (iI (bA B n i))), (0, .ref s), (1, .ref k)] (by decide) rfl ?_
                      refine s_goto X 13 dX2_readBase85_163 (by decide) ?_
                      refine s_locs (lv' := [(2, .long (lI 0)), (4, .int (iI 0)), (5, .int (iI (i + 1))), (0, .ref s), (1, .ref k)]) [2, 1, 0, 4, 5] rfl ?_
                      exact ih9 (i + 1) 0 0 len26 t26 (o ++ hiL (g * 85 + bA B n i - 33) 4) (by omega) (by omega) (by assumption) (by rw [← h2, e5S_s (i := i) (by omega), if_neg (by assumption), if_neg (by assumption), if_neg (by omega), if_neg (by omega), if_neg (by omega), if_pos (by omega)]) (by omega)
                  · refine s_aload_n X dX2_readBase85_134 rfl 5 rfl ?_
                    refine s_bipush (-3) X dX2_readBase85_135 (by decide) ?_
                    refine s_iload X dX2_readBase85_137 3 rfl ?_
                    have hr : e5S B n (pl + 2) 0 0 [] = (2, i, []) := by rw [← h2, e5S_s (i := i) (by omega), if_neg (by assumption), if_neg (by assumption), if_neg (by omega), if_neg (by omega), if_pos (by omega)]
                    refine s_callIV X lk_X2_78 [1] [0, 2, 3, 4] (wr := [oSt s b, aB G x 401 tt, oBy b a n rd e, aB G a 3000 B]) rfl rfl (by decide) (by decide) (by decide) (c_X3_wrongByte (kl K) G k x i8 d8 pl af wh ln ror rl re (-3) i) rfl rfl dX2_readBase85_139 rfl rfl (Nat.le_of_ble_eq_true rfl) (by decide) (fun z7 w7 h7 => ?_)
                    obtain ⟨rfl, rfl⟩ := h7
                    show SW K G 7 0 0 142 [(4, .int (iI (q + 1))), (2, .long (lI (((g * 85) + (bA B n i)) - 33))), (6, .int (iI (bA B n i))), (5, .int (iI i)), (0, .ref s), (1, .ref k)] [.int (iI (-3))] [oSt s b, aB G x 401 tt, oBy b a n rd e, aB G a 3000 B, oTk k i (i + 1) wh re x ln i8 d8 ror rl]
                    refine s_perm (ws' := [oSt s b, oBy b a n rd e, aB G a 3000 B, oTk k i (i + 1) wh re x ln i8 d8 ror rl, aB G x 401 tt]) [0, 2, 3, 4, 1] (by decide) rfl rfl ?_
                    refine s_iret X Y dX2_readBase85_142 (rfl) ?_
                    refine ⟨i, (i + 1), wh, ln, tt, rfl, ?_, ?_, ?_, ?_, ?_⟩
                    · (first | (exfalso; omega) | (exact stA_2 hr))
                    · (first | (exfalso; omega) | (intro _; rw [hr]; exact ⟨rfl, rfl⟩))
                    · (first | (exfalso; omega) | (intro h; exact absurd h (by decide)))
                    · (first | (exfalso; omega) | (exact TX_R h3))
                    · (first | (exfalso; omega) | (exact (h3).2.2))
                · refine s_aload_n X dX2_readBase85_100 rfl 5 rfl ?_
                  refine s_bipush (-3) X dX2_readBase85_101 (by decide) ?_
                  refine s_iload X dX2_readBase85_103 3 rfl ?_
                  have hr : e5S B n (pl + 2) 0 0 [] = (2, i, []) := by rw [← h2, e5S_s (i := i) (by omega), if_neg (by assumption), if_neg (by assumption), if_neg (by omega), if_pos (by omega)]
                  refine s_callIV X lk_X2_78 [1] [0, 2, 3, 4] (wr := [oSt s b, aB G x 401 tt, oBy b a n rd e, aB G a 3000 B]) rfl rfl (by decide) (by decide) (by decide) (c_X3_wrongByte (kl K) G k x i8 d8 pl af wh ln ror rl re (-3) i) rfl rfl dX2_readBase85_105 rfl rfl (Nat.le_of_ble_eq_true rfl) (by decide) (fun z8 w8 h8 => ?_)
                  obtain ⟨rfl, rfl⟩ := h8
                  show SW K G 7 0 0 108 [(6, .int (iI (bA B n i))), (2, .long (lI g)), (4, .int (iI q)), (5, .int (iI i)), (0, .ref s), (1, .ref k)] [.int (iI (-3))] [oSt s b, aB G x 401 tt, oBy b a n rd e, aB G a 3000 B, oTk k i (i + 1) wh re x ln i8 d8 ror rl]
                  refine s_perm (ws' := [oSt s b, oBy b a n rd e, aB G a 3000 B, oTk k i (i + 1) wh re x ln i8 d8 ror rl, aB G x 401 tt]) [0, 2, 3, 4, 1] (by decide) rfl rfl ?_
                  refine s_iret X Y dX2_readBase85_108 (rfl) ?_
                  refine ⟨i, (i + 1), wh, ln, tt, rfl, ?_, ?_, ?_, ?_, ?_⟩
                  · (first | (exfalso; omega) | (exact stA_2 hr))
                  · (first | (exfalso; omega) | (intro _; rw [hr]; exact ⟨rfl, rfl⟩))
                  · (first | (exfalso; omega) | (intro h; exact absurd h (by decide)))
                  · (first | (exfalso; omega) | (exact TX_R h3))
                  · (first | (exfalso; omega) | (exact (h3).2.2))
            · refine s_iload X dX2_readBase85_72 2 rfl ?_
              refine s_if_ne X 86 dX2_readBase85_74 (by decide) (by omega) (fun c74 => ?_) (fun c74 => ?_)
              · refine s_iload X dX2_readBase85_86 0 rfl ?_
                refine s_bipush 33 X dX2_readBase85_88 (by decide) ?_
                refine s_icmp_lt X 100 dX2_readBase85_90 (by decide) (by omega) (fun c90 => ?_) (fun c90 => ?_)
                · refine s_aload_n X dX2_readBase85_100 rfl 5 rfl ?_
                  refine s_bipush (-3) X dX2_readBase85_101 (by decide) ?_
                  refine s_iload X dX2_readBase85_103 3 rfl ?_
                  have hr : e5S B n (pl + 2) 0 0 [] = (2, i, []) := by rw [← h2, e5S_s (i := i) (by omega), if_neg (by assumption), if_neg (by assumption), if_neg (by omega), if_pos (by omega)]
                  refine s_callIV X lk_X2_78 [1] [0, 2, 3, 4] (wr := [oSt s b, aB G x 401 tt, oBy b a n rd e, aB G a 3000 B]) rfl rfl (by decide) (by decide) (by decide) (c_X3_wrongByte (kl K) G k x i8 d8 pl af wh ln ror rl re (-3) i) rfl rfl dX2_readBase85_105 rfl rfl (Nat.le_of_ble_eq_true rfl) (by decide) (fun z9 w9 h9 => ?_)
                  obtain ⟨rfl, rfl⟩ := h9
                  show SW K G 7 0 0 108 [(6, .int (iI (bA B n i))), (2, .long (lI g)), (4, .int (iI q)), (5, .int (iI i)), (0, .ref s), (1, .ref k)] [.int (iI (-3))] [oSt s b, aB G x 401 tt, oBy b a n rd e, aB G a 3000 B, oTk k i (i + 1) wh re x ln i8 d8 ror rl]
                  refine s_perm (ws' := [oSt s b, oBy b a n rd e, aB G a 3000 B, oTk k i (i + 1) wh re x ln i8 d8 ror rl, aB G x 401 tt]) [0, 2, 3, 4, 1] (by decide) rfl rfl ?_
                  refine s_iret X Y dX2_readBase85_108 (rfl) ?_
                  refine ⟨i, (i + 1), wh, ln, tt, rfl, ?_, ?_, ?_, ?_, ?_⟩
                  · (first | (exfalso; omega) | (exact stA_2 hr))
                  · (first | (exfalso; omega) | (intro _; rw [hr]; exact ⟨rfl, rfl⟩))
                  · (first | (exfalso; omega) | (intro h; exact absurd h (by decide)))
                  · (first | (exfalso; omega) | (exact TX_R h3))
                  · (first | (exfalso; omega) | (exact (h3).2.2))
                · refine s_iload X dX2_readBase85_93 0 rfl ?_
                  refine s_bipush 117 X dX2_readBase85_95 (by decide) ?_
                  refine s_icmp_le X 109 dX2_readBase85_97 (by decide) (by omega) (fun c97 => ?_) (fun c97 => ?_)
                  · refine s_lload_n X dX2_readBase85_109 rfl 1 rfl ?_
                    refine s_ldc2 85 X dX2_readBase85_110 tg439 (by decide) ?_
                    refine s_lmul X dX2_readBase85_113 ?_
                    refine s_iload X dX2_readBase85_114 0 rfl ?_
                    refine s_i2l X dX2_readBase85_116 (by omega) ?_
                    refine s_ladd X dX2_readBase85_117 ?_
                    refine s_ldc2 33 X dX2_readBase85_118 tg446 (by decide) ?_
                    refine s_lsub X dX2_readBase85_121 ?_
                    refine s_lstore_n X dX2_readBase85_122 rfl [(2, .long (lI (((g * 85) + (bA B n i)) - 33))), (6, .int (iI (bA B n i))), (4, .int (iI q)), (5, .int (iI i)), (0, .ref s), (1, .ref k)] (by decide) rfl ?_
                    refine s_iinc (z := q + 1) X dX2_readBase85_123 2 rfl (by first | rfl | omega) [(4, .int (iI (q + 1))), (2, .long (lI (((g * 85) + (bA B n i)) - 33))), (6, .int (iI (bA B n i))), (5, .int (iI i)), (0, .ref s), (1, .ref k)] (by decide) rfl ?_
                    refine s_lload_n X dX2_readBase85_126 rfl 1 rfl ?_
                    refine s_ldc2 4294967296 X dX2_readBase85_127 tg441 (by decide) ?_
                    refine s_lif_lt X 143 dX2_readBase85_130 dX2_readBase85_131 (by decide) (by omega) (fun c130 => ?_) (fun c130 => ?_)
                    · refine s_iload X dX2_readBase85_143 0 rfl ?_
                      refine s_iconst X dX2_readBase85_145 ?_
                      refine s_icmp_ne X 160 dX2_readBase85_146 (by decide) (by omega) (fun c146 => ?_) (fun c146 => ?_)
                      · refine s_iinc (z := i + 1) X dX2_readBase85_160 3 rfl (by first | rfl | omega) [(5, .int (iI (i + 1))), (4, .int (iI (q + 1))), (2, .long (lI (((g * 85) + (bA B n i)) - 33))), (6, .int (iI (bA B n i))), (0, .ref s), (1, .ref k)] (by decide) rfl ?_
                        refine s_goto X 13 dX2_readBase85_163 (by decide) ?_
                        refine s_locs (lv' := [(2, .long (lI (((g * 85) + (bA B n i)) - 33))), (4, .int (iI (q + 1))), (5, .int (iI (i + 1))), (0, .ref s), (1, .ref k)]) [2, 1, 0, 4, 5] rfl ?_
                        refine s_perm (ws' := [oSt s b, oBy b a n rd e, aB G a 3000 B, oTk k pl af wh re x ln i8 d8 ror rl, aB G x 401 tt]) [0, 3, 4, 1, 2] (by decide) rfl rfl ?_
                        exact ih9 (i + 1) (((g * 85) + (bA B n i)) - 33) (q + 1) ln tt o (by omega) (by omega) (h3) (by rw [← h2, e5S_s (i := i) (by omega), if_neg (by assumption), if_neg (by assumption), if_neg (by omega), if_neg (by omega), if_neg (by omega), if_neg (by omega)]) (by omega)
                      · refine s_aload_n X dX2_readBase85_149 rfl 5 rfl ?_
                        refine s_lload_n X dX2_readBase85_150 rfl 1 rfl ?_
                        refine s_iconst X dX2_readBase85_151 ?_
                        refine s_callVS X lk_X2_85 [1, 2] [0, 3, 4] (wr := [oSt s b, oBy b a n rd e, aB G a 3000 B]) rfl rfl (by decide) (by decide) (by decide) (c_X2_putHighest (kl K) G k x i8 d8 pl af wh ln ror rl re tt o (((g * 85) + (bA B n i)) - 33) 4 (by assumption) (by omega) (by omega)) dX2_readBase85_152 rfl rfl (Nat.le_of_ble_eq_true rfl) (by decide) (fun w10 h10 => ?_)
                        obtain ⟨len210, t210, rfl, f10_0⟩ := h10
                        show SW K G 7 0 0 155 [(4, .int (iI (q + 1))), (2, .long (lI (((g * 85) + (bA B n i)) - 33))), (6, .int (iI (bA B n i))), (5, .int (iI i)), (0, .ref s), (1, .ref k)] [] [oSt s b, oBy b a n rd e, aB G a 3000 B, oTk k pl af wh re x len210 i8 d8 ror rl, aB G x 401 t210]
                        have hT : TX t210 len210 (o ++ hiL (g * 85 + bA B n i - 33) 4) := f10_0
                        refine s_lconst0 X dX2_readBase85_155 ?_
                        refine s_lstore_n X dX2_readBase85_156 rfl [(2, .long (lI 0)), (4, .int (iI (q + 1))), (6, .int (iI (bA B n i))), (5, .int (iI i)), (0, .ref s), (1, .ref k)] (by decide) rfl ?_
                        refine s_iconst X dX2_readBase85_157 ?_
                        refine s_istore X dX2_readBase85_158 [(4, .int (iI 0)), (2, .long (lI 0)), (6, .int (iI (bA B n i))), (5, .int (iI i)), (0, .ref s), (1, .ref k)] (by decide) rfl ?_
                        refine s_iinc (z := i + 1) X dX2_readBase85_160 3 rfl (by first | rfl | omega) [(5, .int (iI (i + 1))), (4, .int (iI 0)), (2, .long (lI 0)), (6, .int (iI (bA B n i))), (0, .ref s), (1, .ref k)] (by decide) rfl ?_
                        refine s_goto X 13 dX2_readBase85_163 (by decide) ?_
                        refine s_locs (lv' := [(2, .long (lI 0)), (4, .int (iI 0)), (5, .int (iI (i + 1))), (0, .ref s), (1, .ref k)]) [2, 1, 0, 4, 5] rfl ?_
                        exact ih9 (i + 1) 0 0 len210 t210 (o ++ hiL (g * 85 + bA B n i - 33) 4) (by omega) (by omega) (by assumption) (by rw [← h2, e5S_s (i := i) (by omega), if_neg (by assumption), if_neg (by assumption), if_neg (by omega), if_neg (by omega), if_neg (by omega), if_pos (by omega)]) (by omega)
                    · refine s_aload_n X dX2_readBase85_134 rfl 5 rfl ?_
                      refine s_bipush (-3) X dX2_readBase85_135 (by decide) ?_
                      refine s_iload X dX2_readBase85_137 3 rfl ?_
                      have hr : e5S B n (pl + 2) 0 0 [] = (2, i, []) := by rw [← h2, e5S_s (i := i) (by omega), if_neg (by assumption), if_neg (by assumption), if_neg (by omega), if_neg (by omega), if_pos (by omega)]
                      refine s_callIV X lk_X2_78 [1] [0, 2, 3, 4] (wr := [oSt s b, aB G x 401 tt, oBy b a n rd e, aB G a 3000 B]) rfl rfl (by decide) (by decide) (by decide) (c_X3_wrongByte (kl K) G k x i8 d8 pl af wh ln ror rl re (-3) i) rfl rfl dX2_readBase85_139 rfl rfl (Nat.le_of_ble_eq_true rfl) (by decide) (fun z11 w11 h11 => ?_)
                      obtain ⟨rfl, rfl⟩ := h11
                      show SW K G 7 0 0 142 [(4, .int (iI (q + 1))), (2, .long (lI (((g * 85) + (bA B n i)) - 33))), (6, .int (iI (bA B n i))), (5, .int (iI i)), (0, .ref s), (1, .ref k)] [.int (iI (-3))] [oSt s b, aB G x 401 tt, oBy b a n rd e, aB G a 3000 B, oTk k i (i + 1) wh re x ln i8 d8 ror rl]
                      refine s_perm (ws' := [oSt s b, oBy b a n rd e, aB G a 3000 B, oTk k i (i + 1) wh re x ln i8 d8 ror rl, aB G x 401 tt]) [0, 2, 3, 4, 1] (by decide) rfl rfl ?_
                      refine s_iret X Y dX2_readBase85_142 (rfl) ?_
                      refine ⟨i, (i + 1), wh, ln, tt, rfl, ?_, ?_, ?_, ?_, ?_⟩
                      · (first | (exfalso; omega) | (exact stA_2 hr))
                      · (first | (exfalso; omega) | (intro _; rw [hr]; exact ⟨rfl, rfl⟩))
                      · (first | (exfalso; omega) | (intro h; exact absurd h (by decide)))
                      · (first | (exfalso; omega) | (exact TX_R h3))
                      · (first | (exfalso; omega) | (exact (h3).2.2))
                  · refine s_aload_n X dX2_readBase85_100 rfl 5 rfl ?_
                    refine s_bipush (-3) X dX2_readBase85_101 (by decide) ?_
                    refine s_iload X dX2_readBase85_103 3 rfl ?_
                    have hr : e5S B n (pl + 2) 0 0 [] = (2, i, []) := by rw [← h2, e5S_s (i := i) (by omega), if_neg (by assumption), if_neg (by assumption), if_neg (by omega), if_pos (by omega)]
                    refine s_callIV X lk_X2_78 [1] [0, 2, 3, 4] (wr := [oSt s b, aB G x 401 tt, oBy b a n rd e, aB G a 3000 B]) rfl rfl (by decide) (by decide) (by decide) (c_X3_wrongByte (kl K) G k x i8 d8 pl af wh ln ror rl re (-3) i) rfl rfl dX2_readBase85_105 rfl rfl (Nat.le_of_ble_eq_true rfl) (by decide) (fun z12 w12 h12 => ?_)
                    obtain ⟨rfl, rfl⟩ := h12
                    show SW K G 7 0 0 108 [(6, .int (iI (bA B n i))), (2, .long (lI g)), (4, .int (iI q)), (5, .int (iI i)), (0, .ref s), (1, .ref k)] [.int (iI (-3))] [oSt s b, aB G x 401 tt, oBy b a n rd e, aB G a 3000 B, oTk k i (i + 1) wh re x ln i8 d8 ror rl]
                    refine s_perm (ws' := [oSt s b, oBy b a n rd e, aB G a 3000 B, oTk k i (i + 1) wh re x ln i8 d8 ror rl, aB G x 401 tt]) [0, 2, 3, 4, 1] (by decide) rfl rfl ?_
                    refine s_iret X Y dX2_readBase85_108 (rfl) ?_
                    refine ⟨i, (i + 1), wh, ln, tt, rfl, ?_, ?_, ?_, ?_, ?_⟩
                    · (first | (exfalso; omega) | (exact stA_2 hr))
                    · (first | (exfalso; omega) | (intro _; rw [hr]; exact ⟨rfl, rfl⟩))
                    · (first | (exfalso; omega) | (intro h; exact absurd h (by decide)))
                    · (first | (exfalso; omega) | (exact TX_R h3))
                    · (first | (exfalso; omega) | (exact (h3).2.2))
              · refine s_aload_n X dX2_readBase85_77 rfl 5 rfl ?_
                refine s_lconst0 X dX2_readBase85_78 ?_
                refine s_iconst X dX2_readBase85_79 ?_
                refine s_callVS X lk_X2_85 [1, 2] [0, 3, 4] (wr := [oSt s b, oBy b a n rd e, aB G a 3000 B]) rfl rfl (by decide) (by decide) (by decide) (c_X2_putHighest (kl K) G k x i8 d8 pl af wh ln ror rl re tt o 0 4 (by assumption) (by omega) (by omega)) dX2_readBase85_80 rfl rfl (Nat.le_of_ble_eq_true rfl) (by decide) (fun w13 h13 => ?_)
                obtain ⟨len213, t213, rfl, f13_0⟩ := h13
                show SW K G 7 0 0 83 [(6, .int (iI (bA B n i))), (2, .long (lI g)), (4, .int (iI q)), (5, .int (iI i)), (0, .ref s), (1, .ref k)] [] [oSt s b, oBy b a n rd e, aB G a 3000 B, oTk k pl af wh re x len213 i8 d8 ror rl, aB G x 401 t213]
                have hT : TX t213 len213 (o ++ hiL 0 4) := f13_0
                refine s_goto X 160 dX2_readBase85_83 (by decide) ?_
                refine s_iinc (z := i + 1) X dX2_readBase85_160 3 rfl (by first | rfl | omega) [(5, .int (iI (i + 1))), (6, .int (iI (bA B n i))), (2, .long (lI g)), (4, .int (iI q)), (0, .ref s), (1, .ref k)] (by decide) rfl ?_
                refine s_goto X 13 dX2_readBase85_163 (by decide) ?_
                refine s_locs (lv' := [(2, .long (lI g)), (4, .int (iI q)), (5, .int (iI (i + 1))), (0, .ref s), (1, .ref k)]) [2, 3, 0, 4, 5] rfl ?_
                exact ih9 (i + 1) g q len213 t213 (o ++ hiL 0 4) (by omega) (by omega) (by assumption) (by rw [← h2, e5S_s (i := i) (by omega), if_neg (by assumption), if_neg (by assumption), if_pos ⟨by assumption, by assumption⟩]) (by omega)
          · refine s_aload_n X dX2_readBase85_54 rfl 4 rfl ?_
            refine s_aload_n X dX2_readBase85_55 rfl 5 rfl ?_
            refine s_iload X dX2_readBase85_56 3 rfl ?_
            refine s_lload_n X dX2_readBase85_58 rfl 1 rfl ?_
            refine s_iload X dX2_readBase85_59 2 rfl ?_
            refine s_callIV X lk_X2_81 [0, 3, 4, 1, 2] [] (wr := []) rfl rfl (by decide) (by decide) (by decide) (c_X2_endBase85 (kl K) G s b a n rd e B k x i8 d8 pl af wh ln ror rl re tt o i g q (by assumption) (by assumption) (by omega) (by assumption) (by omega) (by omega)) rfl rfl dX2_readBase85_61 rfl rfl (Nat.le_of_ble_eq_true rfl) (by decide) (fun z14 w14 h14 => ?_)
            obtain ⟨pl214, af214, wh214, len214, t214, rfl, f14_0, f14_1, f14_2, f14_3, f14_4⟩ := h14
            show SW K G 7 0 0 64 [(6, .int (iI (bA B n i))), (2, .long (lI g)), (4, .int (iI q)), (5, .int (iI i)), (0, .ref s), (1, .ref k)] [.int (iI z14)] [oSt s b, oBy b a n rd e, aB G a 3000 B, oTk k pl214 af214 wh214 re x len214 i8 d8 ror rl, aB G x 401 t214]
            have hr : e5S B n (pl + 2) 0 0 [] = e5E B n i g q o := by rw [← h2, e5S_s (i := i) (by omega), if_neg (by assumption), if_pos (by assumption)]
            have g0 := f14_0
            have g1 := f14_1
            have g2 := f14_2
            have g3 := f14_3
            have g4 := f14_4
            refine s_iret X Y dX2_readBase85_64 (rfl) ?_
            refine ⟨pl214, af214, wh214, len214, t214, rfl, ?_, ?_, ?_, ?_, ?_⟩
            · (first | (exfalso; omega) | (rw [hr]; exact g0))
            · (first | (exfalso; omega) | (rw [hr]; exact g1))
            · (first | (exfalso; omega) | (rw [hr]; exact g2))
            · (first | (exfalso; omega) | (exact g3))
            · (first | (exfalso; omega) | (exact g4))
        · refine s_goto X 160 dX2_readBase85_44 (by decide) ?_
          refine s_iinc (z := i + 1) X dX2_readBase85_160 3 rfl (by first | rfl | omega) [(5, .int (iI (i + 1))), (6, .int (iI (bA B n i))), (2, .long (lI g)), (4, .int (iI q)), (0, .ref s), (1, .ref k)] (by decide) rfl ?_
          refine s_goto X 13 dX2_readBase85_163 (by decide) ?_
          refine s_locs (lv' := [(2, .long (lI g)), (4, .int (iI q)), (5, .int (iI (i + 1))), (0, .ref s), (1, .ref k)]) [2, 3, 0, 4, 5] rfl ?_
          refine s_perm (ws' := [oSt s b, oBy b a n rd e, aB G a 3000 B, oTk k pl af wh re x ln i8 d8 ror rl, aB G x 401 tt]) [0, 3, 4, 1, 2] (by decide) rfl rfl ?_
          exact ih9 (i + 1) g q ln tt o (by omega) (by omega) (h3) (by rw [← h2, e5S_s (i := i) (by omega), if_pos (by assumption)]) (by omega)
  refine s_locs (lv' := [(2, .long (lI 0)), (4, .int (iI 0)), (5, .int (iI (pl + 2))), (0, .ref s), (1, .ref k)]) [2, 1, 0, 3, 4] rfl ?_
  exact lp _ (pl + 2) 0 0 len t ([]) (by omega) (by omega) (by subst h0; exact TX_0 htb) (rfl) (Nat.lt_succ_self _)
