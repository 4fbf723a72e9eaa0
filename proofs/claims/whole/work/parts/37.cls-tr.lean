set_option maxRecDepth 100000 in
set_option maxHeartbeats 4000000 in
theorem c_X5_pairMark (l : Launch) (G : GX) (o : Nat) (b : Nat) (w : Nat) (s2 : Nat) (i2 : Nat) (p9 : Nat) (lt : Nat) (br : Int) (lp : Int) (k : Nat) (x : Nat) (i8 : Nat) (d8 : Nat) (pl : Int) (af : Int) (wh : Int) (len : Int) (ror : Int) (rl : Int) (re : UInt64) (kd : Int) (hp : 0 ≤ pl ∧ pl ≤ 3000) : CtI l G yX5_pairMark cX5_pairMark 2 (some .int) ({ frames := 0, cells := 0, slots := 0, locals := 0 } : Room) [.ref o, .int (iI kd)] [oTR o b w s2 i2 p9 br lt k lp, oTk k pl af wh re x len i8 d8 ror rl] (fun (z9 : Int) (w9 : va_W) => z9 = kd ∧ w9 = [oTR o b w s2 i2 p9 br lt k lp, oTk k pl (pl + 2) wh re x len i8 d8 ror rl]) := by
  intro sz
  refine met_of (fun wc sz => va_Qi (qI _) (posW G wc sz) (va_A wc sz)) (by decide) [(0, .ref o), (1, .int (iI kd))] rfl (Nat.le_of_ble_eq_true rfl) (fun K hK9 hnm X Y => ?_)
  subst hK9
  replace Y : RI K G (some .int) 0 0 _ := Y
  refine s_aload_n X dX5_pairMark_0 rfl 0 rfl ?_
  refine s_get X dX5_pairMark_1 fl_X5_50 0 rfl rfl ?_
  refine s_aload_n X dX5_pairMark_4 rfl 0 rfl ?_
  refine s_get X dX5_pairMark_5 fl_X5_50 0 rfl rfl ?_
  refine s_get X dX5_pairMark_8 fl_X5_101 1 rfl rfl ?_
  refine s_iconst X dX5_pairMark_11 ?_
  refine s_iadd X dX5_pairMark_12 ?_
  refine s_put X dX5_pairMark_13 fl_X5_98 tyX3_ok nmX3 1 rfl rfl (rfl) (rfl) (Nat.le_of_ble_eq_true rfl) [oTR o b w s2 i2 p9 br lt k lp, oTk k pl (pl + 2) wh re x len i8 d8 ror rl] rfl ?_
  refine s_iload_n X dX5_pairMark_16 rfl 1 rfl ?_
  refine s_iret X Y dX5_pairMark_17 (rfl) ?_
  refine ⟨?_, rfl⟩
  · (first | (exfalso; omega) | (first | rfl | omega | (simp [*]; done)))
set_option maxRecDepth 100000 in
set_option maxHeartbeats 4000000 in
theorem c_X5_readLess (l : Launch) (G : GX) (o : Nat) (b : Nat) (w : Nat) (s2 : Nat) (i2 : Nat) (p9 : Nat) (lt : Nat) (br : Int) (lp : Int) (a : Nat) (n : Int) (rd : Int) (e : Int) (B : Nat → Nat) (k : Nat) (x : Nat) (i8 : Nat) (d8 : Nat) (pl : Int) (af : Int) (wh : Int) (len : Int) (ror : Int) (rl : Int) (re : UInt64) (t : Nat → Nat) (hn : 0 ≤ n ∧ n ≤ 3000) (hBb : ∀ j, B j < 256) (he : e = 0 ∨ e = 1) (htb : ∀ j, t j < 256) (hi : 0 ≤ pl ∧ pl < n) (h0 : len = 0) (hw0 : wh = 0) (haf0 : af = pl + 1) : CtI l G yX5_readLess cX5_readLess 1 (some .int) ({ frames := 4, cells := 0, slots := 0, locals := 99 } : Room) [.ref o] [oTR o b w s2 i2 p9 br lt k lp, oBy b a n rd e, aB G a 3000 B, oSt s2 b, oTk k pl af wh re x len i8 d8 ror rl, aB G x 401 t] (fun (z9 : Int) (w9 : va_W) => ∃ (pl2 : Int), ∃ (af2 : Int), ∃ (wh2 : Int), ∃ (len2 : Int), ∃ (t2 : Nat → Nat), w9 = [oTR o b w s2 i2 p9 br lt k lp, oBy b a n rd e, aB G a 3000 B, oSt s2 b, oTk k pl2 af2 wh2 re x len2 i8 d8 ror rl, aB G x 401 t2] ∧ (z9 = lsA B n e pl) ∧ (z9 ≠ 0 → af2 = lsF B n pl ∧ pl2 = lsP B n pl) ∧ (0 < z9 → wh2 = lsW B n pl ∧ TX t2 len2 (lsO B n pl)) ∧ (∀ j, t2 j < 256)) := by
  intro sz
  refine met_of (fun wc sz => va_Qi (qI _) (posW G wc sz) (va_A wc sz)) (by decide) [(0, .ref o)] rfl (Nat.le_of_ble_eq_true rfl) (fun K hK9 hnm X Y => ?_)
  subst hK9
  replace Y : RI K G (some .int) 0 0 _ := Y
  refine s_aload_n X dX5_readLess_0 rfl 0 rfl ?_
  refine s_get X dX5_readLess_1 fl_X5_10 0 rfl rfl ?_
  refine s_aload_n X dX5_readLess_4 rfl 0 rfl ?_
  refine s_get X dX5_readLess_5 fl_X5_50 0 rfl rfl ?_
  refine s_get X dX5_readLess_8 fl_X5_101 4 rfl rfl ?_
  refine s_iconst X dX5_readLess_11 ?_
  refine s_iadd X dX5_readLess_12 ?_
  refine s_callIV X lk_X5_91 [1, 2] [0, 3, 4, 5] (wr := [oTR o b w s2 i2 p9 br lt k lp, oSt s2 b, oTk k pl af wh re x len i8 d8 ror rl, aB G x 401 t]) rfl rfl (by decide) (by decide) (by decide) (c_X1_at (kl K) G b a n rd e B (pl + 1) (by assumption) (by assumption) (by omega)) rfl rfl dX5_readLess_13 rfl rfl (Nat.le_of_ble_eq_true rfl) (by decide) (fun z1 w1 h1 => ?_)
  obtain ⟨rfl, rfl⟩ := h1
  show SW K G 1 0 0 16 [(0, .ref o)] [.int (iI (bA B n (pl + 1)))] [oTR o b w s2 i2 p9 br lt k lp, oSt s2 b, oTk k pl af wh re x len i8 d8 ror rl, aB G x 401 t, oBy b a n rd e, aB G a 3000 B]
  have q2 := bA_C n (pl + 1) (by assumption : ∀ j, B j < 256)
  by_cases c16_m1 : bA B n (pl + 1) = -1
  · have c16 := c16_m1
    refine s_lookup (off := 36) X 52 dX5_readLess_16 (by decide) (by omega) (by rw [c16]; try decide) (by decide) ?_
    refine s_aload_n X dX5_readLess_52 rfl 0 rfl ?_
    refine s_get X dX5_readLess_53 fl_X5_10 0 rfl rfl ?_
    refine s_aload_n X dX5_readLess_56 rfl 0 rfl ?_
    refine s_get X dX5_readLess_57 fl_X5_50 0 rfl rfl ?_
    refine s_callIV X lk_X5_183 [4, 2] [0, 1, 3, 5] (wr := [oTR o b w s2 i2 p9 br lt k lp, oSt s2 b, aB G x 401 t, aB G a 3000 B]) rfl rfl (by decide) (by decide) (by decide) (c_X1_lacking (kl K) G b a n rd e k x i8 d8 pl af wh len ror rl re (by omega)) rfl rfl dX5_readLess_60 rfl rfl (Nat.le_of_ble_eq_true rfl) (by decide) (fun z3 w3 h3 => ?_)
    obtain ⟨rfl, rfl⟩ := h3
    show SW K G 1 0 0 63 [(0, .ref o)] [.int (iI (if e = 0 then 0 else -7))] [oTR o b w s2 i2 p9 br lt k lp, oSt s2 b, aB G x 401 t, aB G a 3000 B, oBy b a n rd e, oTk k pl (if e = 0 then af else n) wh re x len i8 d8 ror rl]
    refine s_perm (ws' := [oTR o b w s2 i2 p9 br lt k lp, oBy b a n rd e, aB G a 3000 B, oSt s2 b, oTk k pl (if e = 0 then af else n) wh re x len i8 d8 ror rl, aB G x 401 t]) [0, 4, 3, 1, 5, 2] (by decide) rfl rfl ?_
    refine s_iret X Y dX5_readLess_63 (rfl) ?_
    refine ⟨pl, (if e = 0 then af else n), wh, len, t, rfl, ?_, ?_, ?_, ?_⟩
    · (first | (exfalso; omega) | (rw [lsA, if_pos c16]))
    · (first | (exfalso; omega) | (intro h; rw [lsF, lsP, if_pos c16, if_pos c16]; exact ⟨lk_0 h, rfl⟩))
    · (first | (exfalso; omega) | (intro h; split at h <;> omega))
    · (first | (exfalso; omega) | (exact htb))
  by_cases c16_60 : bA B n (pl + 1) = 60
  · have c16 := c16_60
    refine s_lookup (off := 48) X 64 dX5_readLess_16 (by decide) (by omega) (by rw [c16]; try decide) (by decide) ?_
    refine s_aload_n X dX5_readLess_64 rfl 0 rfl ?_
    refine s_bipush 11 X dX5_readLess_65 (by decide) ?_
    refine s_callIV X lk_X5_186 [0, 2] [1, 3, 4, 5] (wr := [oSt s2 b, aB G x 401 t, oBy b a n rd e, aB G a 3000 B]) rfl rfl (by decide) (by decide) (by decide) (c_X5_pairMark (kl K) G o b w s2 i2 p9 lt br lp k x i8 d8 pl af wh len ror rl re 11 (by omega)) rfl rfl dX5_readLess_67 rfl rfl (Nat.le_of_ble_eq_true rfl) (by decide) (fun z4 w4 h4 => ?_)
    obtain ⟨rfl, rfl⟩ := h4
    show SW K G 1 0 0 70 [(0, .ref o)] [.int (iI 11)] [oSt s2 b, aB G x 401 t, oBy b a n rd e, aB G a 3000 B, oTR o b w s2 i2 p9 br lt k lp, oTk k pl (pl + 2) wh re x len i8 d8 ror rl]
    refine s_perm (ws' := [oTR o b w s2 i2 p9 br lt k lp, oBy b a n rd e, aB G a 3000 B, oSt s2 b, oTk k pl (pl + 2) wh re x len i8 d8 ror rl, aB G x 401 t]) [4, 2, 3, 0, 5, 1] (by decide) rfl rfl ?_
    refine s_iret X Y dX5_readLess_70 (rfl) ?_
    refine ⟨pl, (pl + 2), wh, len, t, rfl, ?_, ?_, ?_, ?_⟩
    · (first | (exfalso; omega) | (rw [lsA, if_neg (by omega), if_pos c16]))
    · (first | (exfalso; omega) | (intro h; rw [lsF, lsP, if_neg (by omega), if_pos c16, if_neg (by omega), if_pos c16]; exact ⟨rfl, rfl⟩))
    · (first | (exfalso; omega) | (intro h; rw [lsW, lsO, if_pos c16, if_pos c16]; exact ⟨hw0, (by subst h0; exact TX_0 htb)⟩))
    · (first | (exfalso; omega) | (exact htb))
  by_cases c16_126 : bA B n (pl + 1) = 126
  · have c16 := c16_126
    refine s_lookup (off := 55) X 71 dX5_readLess_16 (by decide) (by omega) (by rw [c16]; try decide) (by decide) ?_
    refine s_aload_n X dX5_readLess_71 rfl 0 rfl ?_
    refine s_get X dX5_readLess_72 fl_X5_28 0 rfl rfl ?_
    refine s_aload_n X dX5_readLess_75 rfl 0 rfl ?_
    refine s_get X dX5_readLess_76 fl_X5_50 0 rfl rfl ?_
    refine s_callIV X lk_X5_189 [1, 4, 5, 2, 3] [0] (wr := [oTR o b w s2 i2 p9 br lt k lp]) rfl rfl (by decide) (by decide) (by decide) (c_X2_readBase85 (kl K) G s2 b a n rd e B k x i8 d8 pl af wh len ror rl re t (by assumption) (by assumption) (by omega) (by assumption) (by assumption) (by omega)) rfl rfl dX5_readLess_79 rfl rfl (Nat.le_of_ble_eq_true rfl) (by decide) (fun z5 w5 h5 => ?_)
    obtain ⟨pl25, af25, wh25, len25, t25, rfl, f5_0, f5_1, f5_2, f5_3, f5_4⟩ := h5
    show SW K G 1 0 0 82 [(0, .ref o)] [.int (iI z5)] [oTR o b w s2 i2 p9 br lt k lp, oSt s2 b, oBy b a n rd e, aB G a 3000 B, oTk k pl25 af25 wh25 re x len25 i8 d8 ror rl, aB G x 401 t25]
    have g0 := f5_0
    have g1 := f5_1
    have g2 := f5_2
    have g3 := f5_3
    have g4 := f5_4
    refine s_perm (ws' := [oTR o b w s2 i2 p9 br lt k lp, oBy b a n rd e, aB G a 3000 B, oSt s2 b, oTk k pl25 af25 wh25 re x len25 i8 d8 ror rl, aB G x 401 t25]) [0, 2, 3, 1, 4, 5] (by decide) rfl rfl ?_
    refine s_iret X Y dX5_readLess_82 (rfl) ?_
    refine ⟨pl25, af25, wh25, len25, t25, rfl, ?_, ?_, ?_, ?_⟩
    · (first | (exfalso; omega) | (rw [lsA, if_neg (by omega), if_neg (by omega), lsR, if_pos c16]; exact g0))
    · (first | (exfalso; omega) | (intro h; rw [lsF, lsP, if_neg (by omega), if_neg (by omega), if_neg (by omega), if_neg (by omega), lsR, if_pos c16]; exact g1 h))
    · (first | (exfalso; omega) | (intro h; have h6 := stA_6 g0 h; rw [lsW, lsO, if_neg (by omega), if_neg (by omega), lsR, if_pos c16]; exact g2 h6))
    · (first | (exfalso; omega) | (exact g4))
  refine s_lookup (off := 67) X 83 dX5_readLess_16 (by decide) (by omega) (by show Op.lookupswitch.offset [(-1, 36), (60, 48), (126, 55)] 67 (bA B n (pl + 1)) = 67; rw [off_n c16_m1, off_n c16_60, off_n c16_126]; rfl) (by decide) ?_
  refine s_aload_n X dX5_readLess_83 rfl 0 rfl ?_
  refine s_get X dX5_readLess_84 fl_X5_28 0 rfl rfl ?_
  refine s_aload_n X dX5_readLess_87 rfl 0 rfl ?_
  refine s_get X dX5_readLess_88 fl_X5_50 0 rfl rfl ?_
  refine s_callIV X lk_X5_192 [1, 4, 5, 2, 3] [0] (wr := [oTR o b w s2 i2 p9 br lt k lp]) rfl rfl (by decide) (by decide) (by decide) (c_X2_readBase16 (kl K) G s2 b a n rd e B k x i8 d8 pl af wh len ror rl re t (by assumption) (by assumption) (by omega) (by assumption) (by assumption) (by omega)) rfl rfl dX5_readLess_91 rfl rfl (Nat.le_of_ble_eq_true rfl) (by decide) (fun z6 w6 h6 => ?_)
  obtain ⟨pl26, af26, wh26, len26, t26, rfl, f6_0, f6_1, f6_2, f6_3, f6_4⟩ := h6
  show SW K G 1 0 0 94 [(0, .ref o)] [.int (iI z6)] [oTR o b w s2 i2 p9 br lt k lp, oSt s2 b, oBy b a n rd e, aB G a 3000 B, oTk k pl26 af26 wh26 re x len26 i8 d8 ror rl, aB G x 401 t26]
  have g0 := f6_0
  have g1 := f6_1
  have g2 := f6_2
  have g3 := f6_3
  have g4 := f6_4
  refine s_perm (ws' := [oTR o b w s2 i2 p9 br lt k lp, oBy b a n rd e, aB G a 3000 B, oSt s2 b, oTk k pl26 af26 wh26 re x len26 i8 d8 ror rl, aB G x 401 t26]) [0, 2, 3, 1, 4, 5] (by decide) rfl rfl ?_
  refine s_iret X Y dX5_readLess_94 (rfl) ?_
  refine ⟨pl26, af26, wh26, len26, t26, rfl, ?_, ?_, ?_, ?_⟩
  · (first | (exfalso; omega) | (rw [lsA, if_neg (by omega), if_neg (by omega), lsR, if_neg (by omega)]; exact g0))
  · (first | (exfalso; omega) | (intro h; rw [lsF, lsP, if_neg (by omega), if_neg (by omega), if_neg (by omega), if_neg (by omega), lsR, if_neg (by omega)]; exact g1 h))
  · (first | (exfalso; omega) | (intro h; have h6 := stA_6 g0 h; rw [lsW, lsO, if_neg (by omega), if_neg (by omega), lsR, if_neg (by omega)]; exact g2 h6))
  · (first | (exfalso; omega) | (exact g4))
set_option maxRecDepth 100000 in
set_option maxHeartbeats 4000000 in
theorem c_X5_readGreater (l : Launch) (G : GX) (o : Nat) (b : Nat) (w : Nat) (s2 : Nat) (i2 : Nat) (p9 : Nat) (lt : Nat) (br : Int) (lp : Int) (a : Nat) (n : Int) (rd : Int) (e : Int) (B : Nat → Nat) (k : Nat) (x : Nat) (i8 : Nat) (d8 : Nat) (pl : Int) (af : Int) (wh : Int) (len : Int) (ror : Int) (rl : Int) (re : UInt64) (hn : 0 ≤ n ∧ n ≤ 3000) (hBb : ∀ j, B j < 256) (he : e = 0 ∨ e = 1) (hi : 0 ≤ pl ∧ pl < n) (haf0 : af = pl + 1) : CtI l G yX5_readGreater cX5_readGreater 1 (some .int) ({ frames := 2, cells := 0, slots := 0, locals := 42 } : Room) [.ref o] [oTR o b w s2 i2 p9 br lt k lp, oBy b a n rd e, aB G a 3000 B, oTk k pl af wh re x len i8 d8 ror rl] (fun (z9 : Int) (w9 : va_W) => ∃ (af2 : Int), z9 = (grA B n e pl) ∧ w9 = [oTR o b w s2 i2 p9 br lt k lp, oBy b a n rd e, aB G a 3000 B, oTk k pl af2 wh re x len i8 d8 ror rl] ∧ (z9 ≠ 0 → af2 = grF B n pl)) := by
  intro sz
  refine met_of (fun wc sz => va_Qi (qI _) (posW G wc sz) (va_A wc sz)) (by decide) [(0, .ref o)] rfl (Nat.le_of_ble_eq_true rfl) (fun K hK9 hnm X Y => ?_)
  subst hK9
  replace Y : RI K G (some .int) 0 0 _ := Y
  refine s_aload_n X dX5_readGreater_0 rfl 0 rfl ?_
  refine s_get X dX5_readGreater_1 fl_X5_10 0 rfl rfl ?_
  refine s_aload_n X dX5_readGreater_4 rfl 0 rfl ?_
  refine s_get X dX5_readGreater_5 fl_X5_50 0 rfl rfl ?_
  refine s_get X dX5_readGreater_8 fl_X5_101 3 rfl rfl ?_
  refine s_iconst X dX5_readGreater_11 ?_
  refine s_iadd X dX5_readGreater_12 ?_
  refine s_callIV X lk_X5_91 [1, 2] [0, 3] (wr := [oTR o b w s2 i2 p9 br lt k lp, oTk k pl af wh re x len i8 d8 ror rl]) rfl rfl (by decide) (by decide) (by decide) (c_X1_at (kl K) G b a n rd e B (pl + 1) (by assumption) (by assumption) (by omega)) rfl rfl dX5_readGreater_13 rfl rfl (Nat.le_of_ble_eq_true rfl) (by decide) (fun z1 w1 h1 => ?_)
  obtain ⟨rfl, rfl⟩ := h1
  show SW K G 1 0 0 16 [(0, .ref o)] [.int (iI (bA B n (pl + 1)))] [oTR o b w s2 i2 p9 br lt k lp, oTk k pl af wh re x len i8 d8 ror rl, oBy b a n rd e, aB G a 3000 B]
  have q2 := bA_C n (pl + 1) (by assumption : ∀ j, B j < 256)
  by_cases c16_m1 : bA B n (pl + 1) = -1
  · have c16 := c16_m1
    refine s_lookup (off := 28) X 44 dX5_readGreater_16 (by decide) (by omega) (by rw [c16]; try decide) (by decide) ?_
    refine s_aload_n X dX5_readGreater_44 rfl 0 rfl ?_
    refine s_get X dX5_readGreater_45 fl_X5_10 0 rfl rfl ?_
    refine s_get X dX5_readGreater_48 fl_X5_53 2 rfl rfl ?_
    refine s_if_eq X 59 dX5_readGreater_51 (by decide) (by omega) (fun c51 => ?_) (fun c51 => ?_)
    · refine s_iconst X dX5_readGreater_59 ?_
      refine s_perm (ws' := [oTR o b w s2 i2 p9 br lt k lp, oBy b a n rd e, aB G a 3000 B, oTk k pl af wh re x len i8 d8 ror rl]) [0, 2, 3, 1] (by decide) rfl rfl ?_
      refine s_iret X Y dX5_readGreater_60 (rfl) ?_
      refine ⟨af, ?_, rfl, ?_⟩
      · (first | (exfalso; omega) | (rw [grA, if_pos c16]; first | rw [if_pos (by omega)] | rw [if_neg (by omega)]))
      · (first | (exfalso; omega) | (intro _; rw [grF, if_neg (by omega)]; exact haf0))
    · refine s_bipush (-4) X dX5_readGreater_54 (by decide) ?_
      refine s_goto X 60 dX5_readGreater_56 (by decide) ?_
      refine s_perm (ws' := [oTR o b w s2 i2 p9 br lt k lp, oBy b a n rd e, aB G a 3000 B, oTk k pl af wh re x len i8 d8 ror rl]) [0, 2, 3, 1] (by decide) rfl rfl ?_
      refine s_iret X Y dX5_readGreater_60 (rfl) ?_
      refine ⟨af, ?_, rfl, ?_⟩
      · (first | (exfalso; omega) | (rw [grA, if_pos c16]; first | rw [if_pos (by omega)] | rw [if_neg (by omega)]))
      · (first | (exfalso; omega) | (intro _; rw [grF, if_neg (by omega)]; exact haf0))
  by_cases c16_62 : bA B n (pl + 1) = 62
  · have c16 := c16_62
    refine s_lookup (off := 45) X 61 dX5_readGreater_16 (by decide) (by omega) (by rw [c16]; try decide) (by decide) ?_
    refine s_aload_n X dX5_readGreater_61 rfl 0 rfl ?_
    refine s_bipush 12 X dX5_readGreater_62 (by decide) ?_
    refine s_callIV X lk_X5_186 [0, 1] [2, 3] (wr := [oBy b a n rd e, aB G a 3000 B]) rfl rfl (by decide) (by decide) (by decide) (c_X5_pairMark (kl K) G o b w s2 i2 p9 lt br lp k x i8 d8 pl af wh len ror rl re 12 (by omega)) rfl rfl dX5_readGreater_64 rfl rfl (Nat.le_of_ble_eq_true rfl) (by decide) (fun z3 w3 h3 => ?_)
    obtain ⟨rfl, rfl⟩ := h3
    show SW K G 1 0 0 67 [(0, .ref o)] [.int (iI 12)] [oBy b a n rd e, aB G a 3000 B, oTR o b w s2 i2 p9 br lt k lp, oTk k pl (pl + 2) wh re x len i8 d8 ror rl]
    refine s_perm (ws' := [oTR o b w s2 i2 p9 br lt k lp, oBy b a n rd e, aB G a 3000 B, oTk k pl (pl + 2) wh re x len i8 d8 ror rl]) [2, 0, 1, 3] (by decide) rfl rfl ?_
    refine s_iret X Y dX5_readGreater_67 (rfl) ?_
    refine ⟨(pl + 2), ?_, rfl, ?_⟩
    · (first | (exfalso; omega) | (rw [grA, if_neg (by omega), if_pos c16]))
    · (first | (exfalso; omega) | (intro _; rw [grF, if_pos c16]))
  refine s_lookup (off := 52) X 68 dX5_readGreater_16 (by decide) (by omega) (by show Op.lookupswitch.offset [(-1, 28), (62, 45)] 52 (bA B n (pl + 1)) = 52; rw [off_n c16_m1, off_n c16_62]; rfl) (by decide) ?_
  refine s_bipush (-4) X dX5_readGreater_68 (by decide) ?_
  refine s_perm (ws' := [oTR o b w s2 i2 p9 br lt k lp, oBy b a n rd e, aB G a 3000 B, oTk k pl af wh re x len i8 d8 ror rl]) [0, 2, 3, 1] (by decide) rfl rfl ?_
  refine s_iret X Y dX5_readGreater_70 (rfl) ?_
  refine ⟨af, ?_, rfl, ?_⟩
  · (first | (exfalso; omega) | (rw [grA, if_neg (by omega), if_neg (by omega)]))
  · (first | (exfalso; omega) | (intro _; rw [grF, if_neg (by omega)]; exact haf0))
set_option maxRecDepth 100000 in
set_option maxHeartbeats 4000000 in
theorem c_X5_openBrace (l : Launch) (G : GX) (o : Nat) (b : Nat) (w : Nat) (s2 : Nat) (i2 : Nat) (p9 : Nat) (lt : Nat) (br : Int) (lp : Int) (k : Nat) (x : Nat) (i8 : Nat) (d8 : Nat) (pl : Int) (af : Int) (wh : Int) (len : Int) (ror : Int) (rl : Int) (re : UInt64) (bp : Nat → Int) (hbr : 0 ≤ br ∧ br ≤ 20) : CtI l G yX5_openBrace cX5_openBrace 1 (some .int) ({ frames := 0, cells := 0, slots := 0, locals := 0 } : Room) [.ref o] [oTR o b w s2 i2 p9 br lt k lp, aI G p9 20 bp, oTk k pl af wh re x len i8 d8 ror rl] (fun (z9 : Int) (w9 : va_W) => ∃ (br2 : Int), ∃ (bp2 : Nat → Int), z9 = (if 20 ≤ br then -2 else 9) ∧ w9 = [oTR o b w s2 i2 p9 br2 lt k lp, aI G p9 20 bp2, oTk k pl af wh re x len i8 d8 ror rl] ∧ (br2 = (if 20 ≤ br then br else br + 1)) ∧ (bp2 = (if 20 ≤ br then bp else uI bp br.toNat pl))) := by
  intro sz
  refine met_of (fun wc sz => va_Qi (qI _) (posW G wc sz) (va_A wc sz)) (by decide) [(0, .ref o)] rfl (Nat.le_of_ble_eq_true rfl) (fun K hK9 hnm X Y => ?_)
  subst hK9
  replace Y : RI K G (some .int) 0 0 _ := Y
  refine s_aload_n X dX5_openBrace_0 rfl 0 rfl ?_
  refine s_get X dX5_openBrace_1 fl_X5_143 0 rfl rfl ?_
  refine s_aload_n X dX5_openBrace_4 rfl 0 rfl ?_
  refine s_get X dX5_openBrace_5 fl_X5_39 0 rfl rfl ?_
  refine s_alen (z := 20) X dX5_openBrace_8 1 1 rfl rfl rfl ?_
  refine s_icmp_lt X 15 dX5_openBrace_9 (by decide) (by omega) (fun c9 => ?_) (fun c9 => ?_)
  · refine s_aload_n X dX5_openBrace_15 rfl 0 rfl ?_
    refine s_get X dX5_openBrace_16 fl_X5_39 0 rfl rfl ?_
    refine s_aload_n X dX5_openBrace_19 rfl 0 rfl ?_
    refine s_get X dX5_openBrace_20 fl_X5_143 0 rfl rfl ?_
    refine s_aload_n X dX5_openBrace_23 rfl 0 rfl ?_
    refine s_get X dX5_openBrace_24 fl_X5_50 0 rfl rfl ?_
    refine s_get X dX5_openBrace_27 fl_X5_101 2 rfl rfl ?_
    refine s_iast X dX5_openBrace_30 1 rfl (by omega) [oTR o b w s2 i2 p9 br lt k lp, aI G p9 20 (uI bp br.toNat pl), oTk k pl af wh re x len i8 d8 ror rl] rfl ?_
    refine s_aload_n X dX5_openBrace_31 rfl 0 rfl ?_
    refine s_dup X dX5_openBrace_32 rfl ?_
    refine s_get X dX5_openBrace_33 fl_X5_143 0 rfl rfl ?_
    refine s_iconst X dX5_openBrace_36 ?_
    refine s_iadd X dX5_openBrace_37 ?_
    refine s_put X dX5_openBrace_38 fl_X5_143 tyX5_ok nmX5 0 rfl rfl (rfl) (rfl) (Nat.le_of_ble_eq_true rfl) [oTR o b w s2 i2 p9 (br + 1) lt k lp, aI G p9 20 (uI bp br.toNat pl), oTk k pl af wh re x len i8 d8 ror rl] rfl ?_
    refine s_bipush 9 X dX5_openBrace_41 (by decide) ?_
    refine s_iret X Y dX5_openBrace_43 (rfl) ?_
    refine ⟨(br + 1), (uI bp br.toNat pl), ?_, rfl, ?_, ?_⟩
    · (first | (exfalso; omega) | (first | rw [if_pos (by omega)] | rw [if_neg (by omega)]))
    · (first | (exfalso; omega) | (first | rw [if_pos (by omega)] | rw [if_neg (by omega)]))
    · (first | (exfalso; omega) | (first | rw [if_pos (by omega)] | rw [if_neg (by omega)]))
  · refine s_bipush (-2) X dX5_openBrace_12 (by decide) ?_
    refine s_iret X Y dX5_openBrace_14 (rfl) ?_
    refine ⟨br, bp, ?_, rfl, ?_, ?_⟩
    · (first | (exfalso; omega) | (first | rw [if_pos (by omega)] | rw [if_neg (by omega)]))
    · (first | (exfalso; omega) | (first | rw [if_pos (by omega)] | rw [if_neg (by omega)]))
    · (first | (exfalso; omega) | (first | rw [if_pos (by omega)] | rw [if_neg (by omega)]))
set_option maxRecDepth 100000 in
set_option maxHeartbeats 4000000 in
theorem c_X5_closeBrace (l : Launch) (G : GX) (o : Nat) (b : Nat) (w : Nat) (s2 : Nat) (i2 : Nat) (p9 : Nat) (lt : Nat) (br : Int) (lp : Int) (k : Nat) (hbr : 0 ≤ br ∧ br ≤ 20) : CtI l G yX5_closeBrace cX5_closeBrace 1 (some .int) ({ frames := 0, cells := 0, slots := 0, locals := 0 } : Room) [.ref o] [oTR o b w s2 i2 p9 br lt k lp] (fun (z9 : Int) (w9 : va_W) => ∃ (br2 : Int), z9 = (if br = 0 then -4 else 10) ∧ w9 = [oTR o b w s2 i2 p9 br2 lt k lp] ∧ (br2 = (if br = 0 then br else br - 1))) := by
  intro sz
  refine met_of (fun wc sz => va_Qi (qI _) (posW G wc sz) (va_A wc sz)) (by decide) [(0, .ref o)] rfl (Nat.le_of_ble_eq_true rfl) (fun K hK9 hnm X Y => ?_)
  subst hK9
  replace Y : RI K G (some .int) 0 0 _ := Y
  refine s_aload_n X dX5_closeBrace_0 rfl 0 rfl ?_
  refine s_get X dX5_closeBrace_1 fl_X5_143 0 rfl rfl ?_
  refine s_if_ne X 10 dX5_closeBrace_4 (by decide) (by omega) (fun c4 => ?_) (fun c4 => ?_)
  · refine s_aload_n X dX5_closeBrace_10 rfl 0 rfl ?_
    refine s_dup X dX5_closeBrace_11 rfl ?_
    refine s_get X dX5_closeBrace_12 fl_X5_143 0 rfl rfl ?_
    refine s_iconst X dX5_closeBrace_15 ?_
    refine s_isub X dX5_closeBrace_16 ?_
    refine s_put X dX5_closeBrace_17 fl_X5_143 tyX5_ok nmX5 0 rfl rfl (rfl) (rfl) (Nat.le_of_ble_eq_true rfl) [oTR o b w s2 i2 p9 (br - 1) lt k lp] rfl ?_
    refine s_bipush 10 X dX5_closeBrace_20 (by decide) ?_
    refine s_iret X Y dX5_closeBrace_22 (rfl) ?_
    refine ⟨(br - 1), ?_, rfl, ?_⟩
    · (first | (exfalso; omega) | (first | rw [if_pos (by omega)] | rw [if_neg (by omega)]))
    · (first | (exfalso; omega) | (first | rw [if_pos (by omega)] | rw [if_neg (by omega)]))
  · refine s_bipush (-4) X dX5_closeBrace_7 (by decide) ?_
    refine s_iret X Y dX5_closeBrace_9 (rfl) ?_
    refine ⟨br, ?_, rfl, ?_⟩
    · (first | (exfalso; omega) | (first | rw [if_pos (by omega)] | rw [if_neg (by omega)]))
    · (first | (exfalso; omega) | (first | rw [if_pos (by omega)] | rw [if_neg (by omega)]))
