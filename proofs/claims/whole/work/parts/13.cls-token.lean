set_option maxRecDepth 100000 in
set_option maxHeartbeats 4000000 in
theorem c_X3_startAt (l : Launch) (G : GX) (k : Nat) (x : Nat) (i8 : Nat) (d8 : Nat) (pl : Int) (af : Int) (wh : Int) (len : Int) (ror : Int) (rl : Int) (re : UInt64) (s0 : Int)  : CtV l G yX3_startAt cX3_startAt 2 none ({ frames := 0, cells := 0, slots := 0, locals := 0 } : Room) [.ref k, .int (iI s0)] [oTk k pl af wh re x len i8 d8 ror rl] (fun (w9 : va_W) => w9 = [oTk k s0 (s0 + 1) 0 FP.dconst0 x 0 i8 d8 ror 0]) := by
  intro sz
  refine met_of (fun wc sz => va_Qv _ (posW G wc sz) (va_A wc sz)) (by decide) [(0, .ref k), (1, .int (iI s0))] rfl (Nat.le_of_ble_eq_true rfl) (fun K hK9 hnm X Y => ?_)
  subst hK9
  replace Y : RV K G none 0 0 _ := Y
  refine s_aload_n X dX3_startAt_0 rfl 0 rfl ?_
  refine s_iload_n X dX3_startAt_1 rfl 1 rfl ?_
  refine s_put X dX3_startAt_2 fl_X3_23 tyX3_ok nmX3 0 rfl rfl (rfl) (rfl) (Nat.le_of_ble_eq_true rfl) [oTk k s0 af wh re x len i8 d8 ror rl] rfl ?_
  refine s_aload_n X dX3_startAt_5 rfl 0 rfl ?_
  refine s_iload_n X dX3_startAt_6 rfl 1 rfl ?_
  refine s_iconst X dX3_startAt_7 ?_
  refine s_iadd X dX3_startAt_8 ?_
  refine s_put X dX3_startAt_9 fl_X3_27 tyX3_ok nmX3 0 rfl rfl (rfl) (rfl) (Nat.le_of_ble_eq_true rfl) [oTk k s0 (s0 + 1) wh re x len i8 d8 ror rl] rfl ?_
  refine s_aload_n X dX3_startAt_12 rfl 0 rfl ?_
  refine s_lconst0 X dX3_startAt_13 ?_
  refine s_put X dX3_startAt_14 fl_X3_30 tyX3_ok nmX3 0 rfl rfl (rfl) (rfl) (Nat.le_of_ble_eq_true rfl) [oTk k s0 (s0 + 1) 0 re x len i8 d8 ror rl] rfl ?_
  refine s_aload_n X dX3_startAt_17 rfl 0 rfl ?_
  refine s_dconst0 X dX3_startAt_18 ?_
  refine s_put X dX3_startAt_19 fl_X3_34 tyX3_ok nmX3 0 rfl rfl (rfl) (rfl) (Nat.le_of_ble_eq_true rfl) [oTk k s0 (s0 + 1) 0 FP.dconst0 x len i8 d8 ror rl] rfl ?_
  refine s_aload_n X dX3_startAt_22 rfl 0 rfl ?_
  refine s_iconst X dX3_startAt_23 ?_
  refine s_put X dX3_startAt_24 fl_X3_38 tyX3_ok nmX3 0 rfl rfl (rfl) (rfl) (Nat.le_of_ble_eq_true rfl) [oTk k s0 (s0 + 1) 0 FP.dconst0 x 0 i8 d8 ror rl] rfl ?_
  refine s_aload_n X dX3_startAt_27 rfl 0 rfl ?_
  refine s_iconst X dX3_startAt_28 ?_
  refine s_put X dX3_startAt_29 fl_X3_41 tyX3_ok nmX3 0 rfl rfl (rfl) (rfl) (Nat.le_of_ble_eq_true rfl) [oTk k s0 (s0 + 1) 0 FP.dconst0 x 0 i8 d8 ror 0] rfl ?_
  refine s_vret X Y dX3_startAt_32 ?_
  exact rfl
set_option maxRecDepth 100000 in
set_option maxHeartbeats 4000000 in
theorem c_X3_put (l : Launch) (G : GX) (k : Nat) (x : Nat) (i8 : Nat) (d8 : Nat) (pl : Int) (af : Int) (wh : Int) (len : Int) (ror : Int) (rl : Int) (re : UInt64) (t : Nat → Nat) (v : Int) (hlen : 0 ≤ len ∧ len ≤ 401) : CtV l G yX3_put cX3_put 2 none ({ frames := 0, cells := 0, slots := 0, locals := 0 } : Room) [.ref k, .int (iI v)] [oTk k pl af wh re x len i8 d8 ror rl, aB G x 401 t] (fun (w9 : va_W) => w9 = [oTk k pl af wh re x (putL len) i8 d8 ror rl, aB G x 401 (putT t len v)]) := by
  intro sz
  refine met_of (fun wc sz => va_Qv _ (posW G wc sz) (va_A wc sz)) (by decide) [(0, .ref k), (1, .int (iI v))] rfl (Nat.le_of_ble_eq_true rfl) (fun K hK9 hnm X Y => ?_)
  subst hK9
  replace Y : RV K G none 0 0 _ := Y
  refine s_aload_n X dX3_put_0 rfl 0 rfl ?_
  refine s_get X dX3_put_1 fl_X3_38 0 rfl rfl ?_
  refine s_aload_n X dX3_put_4 rfl 0 rfl ?_
  refine s_get X dX3_put_5 fl_X3_9 0 rfl rfl ?_
  refine s_alen (z := 401) X dX3_put_8 1 0 rfl rfl rfl ?_
  refine s_icmp_ge X 33 dX3_put_9 (by decide) (by omega) (fun c9 => ?_) (fun c9 => ?_)
  · refine s_vret X Y dX3_put_33 ?_
    · (first | (exfalso; omega) | (simp [putL, putT, show len < 401 from by omega]) | (simp [putL, putT, show ¬ len < 401 from by omega]))
  · refine s_aload_n X dX3_put_12 rfl 0 rfl ?_
    refine s_get X dX3_put_13 fl_X3_9 0 rfl rfl ?_
    refine s_aload_n X dX3_put_16 rfl 0 rfl ?_
    refine s_get X dX3_put_17 fl_X3_38 0 rfl rfl ?_
    refine s_iload_n X dX3_put_20 rfl 1 rfl ?_
    refine s_i2b X dX3_put_21 ?_
    refine s_bast X dX3_put_22 1 rfl (by omega) [oTk k pl af wh re x len i8 d8 ror rl, aB G x 401 (uB t len.toNat (by8 v))] rfl ?_
    refine s_aload_n X dX3_put_23 rfl 0 rfl ?_
    refine s_dup X dX3_put_24 rfl ?_
    refine s_get X dX3_put_25 fl_X3_38 0 rfl rfl ?_
    refine s_iconst X dX3_put_28 ?_
    refine s_iadd X dX3_put_29 ?_
    refine s_put X dX3_put_30 fl_X3_38 tyX3_ok nmX3 0 rfl rfl (rfl) (rfl) (Nat.le_of_ble_eq_true rfl) [oTk k pl af wh re x (len + 1) i8 d8 ror rl, aB G x 401 (uB t len.toNat (by8 v))] rfl ?_
    refine s_vret X Y dX3_put_33 ?_
    · (first | (exfalso; omega) | (simp [putL, putT, show len < 401 from by omega]) | (simp [putL, putT, show ¬ len < 401 from by omega]))
set_option maxRecDepth 100000 in
set_option maxHeartbeats 4000000 in
theorem c_X3_textAt (l : Launch) (G : GX) (k : Nat) (x : Nat) (i8 : Nat) (d8 : Nat) (pl : Int) (af : Int) (wh : Int) (len : Int) (ror : Int) (rl : Int) (re : UInt64) (t : Nat → Nat) (i : Int) (hlen : 0 ≤ len ∧ len ≤ 401) (htb : ∀ j, t j < 256) (hi : R32 i) : CtI l G yX3_textAt cX3_textAt 2 (some .int) ({ frames := 0, cells := 0, slots := 0, locals := 0 } : Room) [.ref k, .int (iI i)] [oTk k pl af wh re x len i8 d8 ror rl, aB G x 401 t] (fun (z9 : Int) (w9 : va_W) => z9 = (bA t len i) ∧ w9 = [oTk k pl af wh re x len i8 d8 ror rl, aB G x 401 t]) := by
  intro sz
  refine met_of (fun wc sz => va_Qi (qI _) (posW G wc sz) (va_A wc sz)) (by decide) [(0, .ref k), (1, .int (iI i))] rfl (Nat.le_of_ble_eq_true rfl) (fun K hK9 hnm X Y => ?_)
  subst hK9
  replace Y : RI K G (some .int) 0 0 _ := Y
  refine s_iload_n X dX3_textAt_0 rfl 1 rfl ?_
  refine s_if_lt X 25 dX3_textAt_1 (by decide) (by omega) (fun c1 => ?_) (fun c1 => ?_)
  · refine s_iconst X dX3_textAt_25 ?_
    refine s_iret X Y dX3_textAt_26 (rfl) ?_
    refine ⟨?_, rfl⟩
    · (first | (exfalso; omega) | (first | exact (bA_in ⟨by omega, by omega⟩).symm | exact (bA_out (by omega)).symm))
  · refine s_iload_n X dX3_textAt_4 rfl 1 rfl ?_
    refine s_aload_n X dX3_textAt_5 rfl 0 rfl ?_
    refine s_get X dX3_textAt_6 fl_X3_38 0 rfl rfl ?_
    refine s_icmp_ge X 25 dX3_textAt_9 (by decide) (by omega) (fun c9 => ?_) (fun c9 => ?_)
    · refine s_iconst X dX3_textAt_25 ?_
      refine s_iret X Y dX3_textAt_26 (rfl) ?_
      refine ⟨?_, rfl⟩
      · (first | (exfalso; omega) | (first | exact (bA_in ⟨by omega, by omega⟩).symm | exact (bA_out (by omega)).symm))
    · refine s_aload_n X dX3_textAt_12 rfl 0 rfl ?_
      refine s_get X dX3_textAt_13 fl_X3_9 0 rfl rfl ?_
      refine s_iload_n X dX3_textAt_16 rfl 1 rfl ?_
      refine s_bald X dX3_textAt_17 1 rfl (by omega) ?_
      refine s_sipush 255 X dX3_textAt_18 (by decide) ?_
      refine s_iand (z := (((t i.toNat) : Nat) : Int)) X dX3_textAt_21 (sb_and9 (htb _)) ?_
      refine s_goto X 26 dX3_textAt_22 (by decide) ?_
      refine s_iret X Y dX3_textAt_26 (rfl) ?_
      refine ⟨?_, rfl⟩
      · (first | (exfalso; omega) | (first | exact (bA_in ⟨by omega, by omega⟩).symm | exact (bA_out (by omega)).symm))
set_option maxRecDepth 100000 in
set_option maxHeartbeats 4000000 in
theorem c_X3_asText (l : Launch) (G : GX) (k : Nat) (x : Nat) (i8 : Nat) (d8 : Nat) (pl : Int) (af : Int) (wh : Int) (len : Int) (ror : Int) (rl : Int) (re : UInt64) (kd : Int) (most : Int) (hlen : 0 ≤ len ∧ len ≤ 401) (hm : R32 most) : CtI l G yX3_asText cX3_asText 3 (some .int) ({ frames := 0, cells := 0, slots := 0, locals := 0 } : Room) [.ref k, .int (iI kd), .int (iI most)] [oTk k pl af wh re x len i8 d8 ror rl] (fun (z9 : Int) (w9 : va_W) => z9 = (if most < len then -2 else kd) ∧ w9 = [oTk k pl af (if most < len then wh else len) re x len i8 d8 ror rl]) := by
  intro sz
  refine met_of (fun wc sz => va_Qi (qI _) (posW G wc sz) (va_A wc sz)) (by decide) [(0, .ref k), (1, .int (iI kd)), (2, .int (iI most))] rfl (Nat.le_of_ble_eq_true rfl) (fun K hK9 hnm X Y => ?_)
  subst hK9
  replace Y : RI K G (some .int) 0 0 _ := Y
  refine s_aload_n X dX3_asText_0 rfl 0 rfl ?_
  refine s_get X dX3_asText_1 fl_X3_38 0 rfl rfl ?_
  refine s_iload_n X dX3_asText_4 rfl 2 rfl ?_
  refine s_icmp_le X 11 dX3_asText_5 (by decide) (by omega) (fun c5 => ?_) (fun c5 => ?_)
  · refine s_aload_n X dX3_asText_11 rfl 0 rfl ?_
    refine s_aload_n X dX3_asText_12 rfl 0 rfl ?_
    refine s_get X dX3_asText_13 fl_X3_38 0 rfl rfl ?_
    refine s_i2l X dX3_asText_16 (by omega) ?_
    refine s_put X dX3_asText_17 fl_X3_30 tyX3_ok nmX3 0 rfl rfl (rfl) (rfl) (Nat.le_of_ble_eq_true rfl) [oTk k pl af len re x len i8 d8 ror rl] rfl ?_
    refine s_iload_n X dX3_asText_20 rfl 1 rfl ?_
    refine s_iret X Y dX3_asText_21 (rfl) ?_
    refine ⟨?_, ?_⟩
    · (first | (exfalso; omega) | (simp [show most < len from by omega]) | (simp [show ¬ most < len from by omega]))
    · (first | (exfalso; omega) | (simp [show most < len from by omega]) | (simp [show ¬ most < len from by omega]))
  · refine s_bipush (-2) X dX3_asText_8 (by decide) ?_
    refine s_iret X Y dX3_asText_10 (rfl) ?_
    refine ⟨?_, ?_⟩
    · (first | (exfalso; omega) | (simp [show most < len from by omega]) | (simp [show ¬ most < len from by omega]))
    · (first | (exfalso; omega) | (simp [show most < len from by omega]) | (simp [show ¬ most < len from by omega]))
set_option maxRecDepth 100000 in
set_option maxHeartbeats 4000000 in
theorem c_X3_asWhole (l : Launch) (G : GX) (k : Nat) (x : Nat) (i8 : Nat) (d8 : Nat) (pl : Int) (af : Int) (wh : Int) (len : Int) (ror : Int) (rl : Int) (re : UInt64) (kd : Int) (v : Int)  : CtI l G yX3_asWhole cX3_asWhole 4 (some .int) ({ frames := 0, cells := 0, slots := 0, locals := 0 } : Room) [.ref k, .int (iI kd), .long (lI v)] [oTk k pl af wh re x len i8 d8 ror rl] (fun (z9 : Int) (w9 : va_W) => z9 = kd ∧ w9 = [oTk k pl af v re x 0 i8 d8 ror rl]) := by
  intro sz
  refine met_of (fun wc sz => va_Qi (qI _) (posW G wc sz) (va_A wc sz)) (by decide) [(0, .ref k), (1, .int (iI kd)), (2, .long (lI v))] rfl (Nat.le_of_ble_eq_true rfl) (fun K hK9 hnm X Y => ?_)
  subst hK9
  replace Y : RI K G (some .int) 0 0 _ := Y
  refine s_aload_n X dX3_asWhole_0 rfl 0 rfl ?_
  refine s_iconst X dX3_asWhole_1 ?_
  refine s_put X dX3_asWhole_2 fl_X3_38 tyX3_ok nmX3 0 rfl rfl (rfl) (rfl) (Nat.le_of_ble_eq_true rfl) [oTk k pl af wh re x 0 i8 d8 ror rl] rfl ?_
  refine s_aload_n X dX3_asWhole_5 rfl 0 rfl ?_
  refine s_lload_n X dX3_asWhole_6 rfl 2 rfl ?_
  refine s_put X dX3_asWhole_7 fl_X3_30 tyX3_ok nmX3 0 rfl rfl (rfl) (rfl) (Nat.le_of_ble_eq_true rfl) [oTk k pl af v re x 0 i8 d8 ror rl] rfl ?_
  refine s_iload_n X dX3_asWhole_10 rfl 1 rfl ?_
  refine s_iret X Y dX3_asWhole_11 (rfl) ?_
  refine ⟨?_, rfl⟩
  · (first | (exfalso; omega) | (first | rfl | omega | (simp [*]; done)))
set_option maxRecDepth 100000 in
set_option maxHeartbeats 4000000 in
theorem c_X3_asReal (l : Launch) (G : GX) (k : Nat) (x : Nat) (i8 : Nat) (d8 : Nat) (pl : Int) (af : Int) (wh : Int) (len : Int) (ror : Int) (rl : Int) (re : UInt64) (v : UInt64)  : CtI l G yX3_asReal cX3_asReal 3 (some .int) ({ frames := 0, cells := 0, slots := 0, locals := 0 } : Room) [.ref k, .double v] [oTk k pl af wh re x len i8 d8 ror rl] (fun (z9 : Int) (w9 : va_W) => z9 = 2 ∧ w9 = [oTk k pl af 0 v x 0 i8 d8 ror rl]) := by
  intro sz
  refine met_of (fun wc sz => va_Qi (qI _) (posW G wc sz) (va_A wc sz)) (by decide) [(0, .ref k), (1, .double v)] rfl (Nat.le_of_ble_eq_true rfl) (fun K hK9 hnm X Y => ?_)
  subst hK9
  replace Y : RI K G (some .int) 0 0 _ := Y
  refine s_aload_n X dX3_asReal_0 rfl 0 rfl ?_
  refine s_iconst X dX3_asReal_1 ?_
  refine s_put X dX3_asReal_2 fl_X3_38 tyX3_ok nmX3 0 rfl rfl (rfl) (rfl) (Nat.le_of_ble_eq_true rfl) [oTk k pl af wh re x 0 i8 d8 ror rl] rfl ?_
  refine s_aload_n X dX3_asReal_5 rfl 0 rfl ?_
  refine s_lconst0 X dX3_asReal_6 ?_
  refine s_put X dX3_asReal_7 fl_X3_30 tyX3_ok nmX3 0 rfl rfl (rfl) (rfl) (Nat.le_of_ble_eq_true rfl) [oTk k pl af 0 re x 0 i8 d8 ror rl] rfl ?_
  refine s_aload_n X dX3_asReal_10 rfl 0 rfl ?_
  refine s_dload_n X dX3_asReal_11 rfl 1 rfl ?_
  refine s_put X dX3_asReal_12 fl_X3_34 tyX3_ok nmX3 0 rfl rfl (rfl) (rfl) (Nat.le_of_ble_eq_true rfl) [oTk k pl af 0 v x 0 i8 d8 ror rl] rfl ?_
  refine s_iconst X dX3_asReal_15 ?_
  refine s_iret X Y dX3_asReal_16 (rfl) ?_
  refine ⟨?_, rfl⟩
  · (first | (exfalso; omega) | (first | rfl | omega | (simp [*]; done)))
set_option maxRecDepth 100000 in
set_option maxHeartbeats 4000000 in
theorem c_X3_putInRow (l : Launch) (G : GX) (k : Nat) (x : Nat) (i8 : Nat) (d8 : Nat) (pl : Int) (af : Int) (wh : Int) (len : Int) (ror : Int) (rl : Int) (re : UInt64) (rn : Nat → Int) (rr : Nat → UInt64) (v : Int) (u : UInt64) (hrl : 0 ≤ rl ∧ rl < 60) : CtV l G yX3_putInRow cX3_putInRow 4 none ({ frames := 0, cells := 0, slots := 0, locals := 0 } : Room) [.ref k, .int (iI v), .double u] [oTk k pl af wh re x len i8 d8 ror rl, aI G i8 60 rn, aF G d8 60 rr] (fun (w9 : va_W) => w9 = [oTk k pl af wh re x len i8 d8 ror (rl + 1), aI G i8 60 (uI rn rl.toNat v), aF G d8 60 (uD rr rl.toNat u)]) := by
  intro sz
  refine met_of (fun wc sz => va_Qv _ (posW G wc sz) (va_A wc sz)) (by decide) [(0, .ref k), (1, .int (iI v)), (2, .double u)] rfl (Nat.le_of_ble_eq_true rfl) (fun K hK9 hnm X Y => ?_)
  subst hK9
  replace Y : RV K G none 0 0 _ := Y
  refine s_aload_n X dX3_putInRow_0 rfl 0 rfl ?_
  refine s_get X dX3_putInRow_1 fl_X3_41 0 rfl rfl ?_
  refine s_aload_n X dX3_putInRow_4 rfl 0 rfl ?_
  refine s_get X dX3_putInRow_5 fl_X3_15 0 rfl rfl ?_
  refine s_alen (z := 60) X dX3_putInRow_8 1 1 rfl rfl rfl ?_
  refine s_icmp_ge X 54 dX3_putInRow_9 (by decide) (by omega) (fun c9 => ?_) (fun c9 => ?_)
  · refine s_vret X Y dX3_putInRow_54 ?_
    · (first | (exfalso; omega) | (simp [*]))
  · refine s_aload_n X dX3_putInRow_12 rfl 0 rfl ?_
    refine s_get X dX3_putInRow_13 fl_X3_41 0 rfl rfl ?_
    refine s_aload_n X dX3_putInRow_16 rfl 0 rfl ?_
    refine s_get X dX3_putInRow_17 fl_X3_19 0 rfl rfl ?_
    refine s_alen (z := 60) X dX3_putInRow_20 2 2 rfl rfl rfl ?_
    refine s_icmp_ge X 54 dX3_putInRow_21 (by decide) (by omega) (fun c21 => ?_) (fun c21 => ?_)
    · refine s_vret X Y dX3_putInRow_54 ?_
      · (first | (exfalso; omega) | (simp [*]))
    · refine s_aload_n X dX3_putInRow_24 rfl 0 rfl ?_
      refine s_get X dX3_putInRow_25 fl_X3_15 0 rfl rfl ?_
      refine s_aload_n X dX3_putInRow_28 rfl 0 rfl ?_
      refine s_get X dX3_putInRow_29 fl_X3_41 0 rfl rfl ?_
      refine s_iload_n X dX3_putInRow_32 rfl 1 rfl ?_
      refine s_iast X dX3_putInRow_33 1 rfl (by omega) [oTk k pl af wh re x len i8 d8 ror rl, aI G i8 60 (uI rn rl.toNat v), aF G d8 60 rr] rfl ?_
      refine s_aload_n X dX3_putInRow_34 rfl 0 rfl ?_
      refine s_get X dX3_putInRow_35 fl_X3_19 0 rfl rfl ?_
      refine s_aload_n X dX3_putInRow_38 rfl 0 rfl ?_
      refine s_get X dX3_putInRow_39 fl_X3_41 0 rfl rfl ?_
      refine s_dload_n X dX3_putInRow_42 rfl 2 rfl ?_
      refine s_dast X dX3_putInRow_43 2 rfl (by omega) [oTk k pl af wh re x len i8 d8 ror rl, aI G i8 60 (uI rn rl.toNat v), aF G d8 60 (uD rr rl.toNat u)] rfl ?_
      refine s_aload_n X dX3_putInRow_44 rfl 0 rfl ?_
      refine s_dup X dX3_putInRow_45 rfl ?_
      refine s_get X dX3_putInRow_46 fl_X3_41 0 rfl rfl ?_
      refine s_iconst X dX3_putInRow_49 ?_
      refine s_iadd X dX3_putInRow_50 ?_
      refine s_put X dX3_putInRow_51 fl_X3_41 tyX3_ok nmX3 0 rfl rfl (rfl) (rfl) (Nat.le_of_ble_eq_true rfl) [oTk k pl af wh re x len i8 d8 ror (rl + 1), aI G i8 60 (uI rn rl.toNat v), aF G d8 60 (uD rr rl.toNat u)] rfl ?_
      refine s_vret X Y dX3_putInRow_54 ?_
      exact rfl
set_option maxRecDepth 100000 in
set_option maxHeartbeats 4000000 in
theorem c_X3_hasInRow (l : Launch) (G : GX) (k : Nat) (x : Nat) (i8 : Nat) (d8 : Nat) (pl : Int) (af : Int) (wh : Int) (len : Int) (ror : Int) (rl : Int) (re : UInt64) (i : Int) (hrl : 0 ≤ rl ∧ rl ≤ 60) (hi : R32 i) : CtI l G yX3_hasInRow cX3_hasInRow 2 (some .boolean) ({ frames := 0, cells := 0, slots := 0, locals := 0 } : Room) [.ref k, .int (iI i)] [oTk k pl af wh re x len i8 d8 ror rl] (fun (z9 : Int) (w9 : va_W) => z9 = (tf (0 ≤ i ∧ i < rl)) ∧ w9 = [oTk k pl af wh re x len i8 d8 ror rl]) := by
  intro sz
  refine met_of (fun wc sz => va_Qi (qI _) (posW G wc sz) (va_A wc sz)) (by decide) [(0, .ref k), (1, .int (iI i))] rfl (Nat.le_of_ble_eq_true rfl) (fun K hK9 hnm X Y => ?_)
  subst hK9
  replace Y : RI K G (some .boolean) 0 0 _ := Y
  refine s_iload_n X dX3_hasInRow_0 rfl 1 rfl ?_
  refine s_if_lt X 16 dX3_hasInRow_1 (by decide) (by omega) (fun c1 => ?_) (fun c1 => ?_)
  · refine s_iconst X dX3_hasInRow_16 ?_
    refine s_iret X Y dX3_hasInRow_17 (rfl) ?_
    refine ⟨?_, rfl⟩
    · (first | (exfalso; omega) | (first | exact (tf_t (by omega)).symm | exact (tf_f (by omega)).symm))
  · refine s_iload_n X dX3_hasInRow_4 rfl 1 rfl ?_
    refine s_aload_n X dX3_hasInRow_5 rfl 0 rfl ?_
    refine s_get X dX3_hasInRow_6 fl_X3_41 0 rfl rfl ?_
    refine s_icmp_ge X 16 dX3_hasInRow_9 (by decide) (by omega) (fun c9 => ?_) (fun c9 => ?_)
    · refine s_iconst X dX3_hasInRow_16 ?_
      refine s_iret X Y dX3_hasInRow_17 (rfl) ?_
      refine ⟨?_, rfl⟩
      · (first | (exfalso; omega) | (first | exact (tf_t (by omega)).symm | exact (tf_f (by omega)).symm))
    · refine s_iconst X dX3_hasInRow_12 ?_
      refine s_goto X 17 dX3_hasInRow_13 (by decide) ?_
      refine s_iret X Y dX3_hasInRow_17 (rfl) ?_
      refine ⟨?_, rfl⟩
      · (first | (exfalso; omega) | (first | exact (tf_t (by omega)).symm | exact (tf_f (by omega)).symm))
set_option maxRecDepth 100000 in
set_option maxHeartbeats 4000000 in
theorem c_X3_wrongByte (l : Launch) (G : GX) (k : Nat) (x : Nat) (i8 : Nat) (d8 : Nat) (pl : Int) (af : Int) (wh : Int) (len : Int) (ror : Int) (rl : Int) (re : UInt64) (an : Int) (q : Int)  : CtI l G yX3_wrongByte cX3_wrongByte 3 (some .int) ({ frames := 0, cells := 0, slots := 0, locals := 0 } : Room) [.ref k, .int (iI an), .int (iI q)] [oTk k pl af wh re x len i8 d8 ror rl] (fun (z9 : Int) (w9 : va_W) => z9 = an ∧ w9 = [oTk k q (q + 1) wh re x len i8 d8 ror rl]) := by
  intro sz
  refine met_of (fun wc sz => va_Qi (qI _) (posW G wc sz) (va_A wc sz)) (by decide) [(0, .ref k), (1, .int (iI an)), (2, .int (iI q))] rfl (Nat.le_of_ble_eq_true rfl) (fun K hK9 hnm X Y => ?_)
  subst hK9
  replace Y : RI K G (some .int) 0 0 _ := Y
  refine s_aload_n X dX3_wrongByte_0 rfl 0 rfl ?_
  refine s_iload_n X dX3_wrongByte_1 rfl 2 rfl ?_
  refine s_put X dX3_wrongByte_2 fl_X3_23 tyX3_ok nmX3 0 rfl rfl (rfl) (rfl) (Nat.le_of_ble_eq_true rfl) [oTk k q af wh re x len i8 d8 ror rl] rfl ?_
  refine s_aload_n X dX3_wrongByte_5 rfl 0 rfl ?_
  refine s_iload_n X dX3_wrongByte_6 rfl 2 rfl ?_
  refine s_iconst X dX3_wrongByte_7 ?_
  refine s_iadd X dX3_wrongByte_8 ?_
  refine s_put X dX3_wrongByte_9 fl_X3_27 tyX3_ok nmX3 0 rfl rfl (rfl) (rfl) (Nat.le_of_ble_eq_true rfl) [oTk k q (q + 1) wh re x len i8 d8 ror rl] rfl ?_
  refine s_iload_n X dX3_wrongByte_12 rfl 1 rfl ?_
  refine s_iret X Y dX3_wrongByte_13 (rfl) ?_
  refine ⟨?_, rfl⟩
  · (first | (exfalso; omega) | (first | rfl | omega | (simp [*]; done)))
set_option maxRecDepth 100000 in
set_option maxHeartbeats 4000000 in
theorem c_X5_digitOf (l : Launch) (G : GX) (c : Int) (hc : R32 c) : CtI l G yX5_digitOf cX5_digitOf 1 (some .int) ({ frames := 0, cells := 0, slots := 0, locals := 0 } : Room) [.int (iI c)] [] (fun (z9 : Int) (w9 : va_W) => z9 = (dg c) ∧ w9 = []) := by
  intro sz
  refine met_of (fun wc sz => va_Qi (qI _) (posW G wc sz) (va_A wc sz)) (by decide) [(0, .int (iI c))] rfl (Nat.le_of_ble_eq_true rfl) (fun K hK9 hnm X Y => ?_)
  subst hK9
  replace Y : RI K G (some .int) 0 0 _ := Y
  refine s_iload_n X dX5_digitOf_0 rfl 0 rfl ?_
  refine s_bipush 48 X dX5_digitOf_1 (by decide) ?_
  refine s_icmp_lt X 17 dX5_digitOf_3 (by decide) (by omega) (fun c3 => ?_) (fun c3 => ?_)
  · refine s_iload_n X dX5_digitOf_17 rfl 0 rfl ?_
    refine s_bipush 97 X dX5_digitOf_18 (by decide) ?_
    refine s_icmp_lt X 37 dX5_digitOf_20 (by decide) (by omega) (fun c20 => ?_) (fun c20 => ?_)
    · refine s_iload_n X dX5_digitOf_37 rfl 0 rfl ?_
      refine s_bipush 65 X dX5_digitOf_38 (by decide) ?_
      refine s_icmp_lt X 57 dX5_digitOf_40 (by decide) (by omega) (fun c40 => ?_) (fun c40 => ?_)
      · refine s_bipush 36 X dX5_digitOf_57 (by decide) ?_
        refine s_iret X Y dX5_digitOf_59 (rfl) ?_
        refine ⟨?_, rfl⟩
        · (first | (exfalso; omega) | (unfold dg; (repeat' split) <;> omega))
      · refine s_iload_n X dX5_digitOf_43 rfl 0 rfl ?_
        refine s_bipush 90 X dX5_digitOf_44 (by decide) ?_
        refine s_icmp_gt X 57 dX5_digitOf_46 (by decide) (by omega) (fun c46 => ?_) (fun c46 => ?_)
        · refine s_bipush 36 X dX5_digitOf_57 (by decide) ?_
          refine s_iret X Y dX5_digitOf_59 (rfl) ?_
          refine ⟨?_, rfl⟩
          · (first | (exfalso; omega) | (unfold dg; (repeat' split) <;> omega))
        · refine s_iload_n X dX5_digitOf_49 rfl 0 rfl ?_
          refine s_bipush 65 X dX5_digitOf_50 (by decide) ?_
          refine s_isub X dX5_digitOf_52 ?_
          refine s_bipush 10 X dX5_digitOf_53 (by decide) ?_
          refine s_iadd X dX5_digitOf_55 ?_
          refine s_iret X Y dX5_digitOf_56 (rfl) ?_
          refine ⟨?_, rfl⟩
          · (first | (exfalso; omega) | (unfold dg; (repeat' split) <;> omega))
    · refine s_iload_n X dX5_digitOf_23 rfl 0 rfl ?_
      refine s_bipush 122 X dX5_digitOf_24 (by decide) ?_
      refine s_icmp_gt X 37 dX5_digitOf_26 (by decide) (by omega) (fun c26 => ?_) (fun c26 => ?_)
      · refine s_iload_n X dX5_digitOf_37 rfl 0 rfl ?_
        refine s_bipush 65 X dX5_digitOf_38 (by decide) ?_
        refine s_icmp_lt X 57 dX5_digitOf_40 (by decide) (by omega) (fun c40 => ?_) (fun c40 => ?_)
        · refine s_bipush 36 X dX5_digitOf_57 (by decide) ?_
          refine s_iret X Y dX5_digitOf_59 (rfl) ?_
          refine ⟨?_, rfl⟩
          · (first | (exfalso; omega) | (unfold dg; (repeat' split) <;> omega))
        · refine s_iload_n X dX5_digitOf_43 rfl 0 rfl ?_
          refine s_bipush 90 X dX5_digitOf_44 (by decide) ?_
          refine s_icmp_gt X 57 dX5_digitOf_46 (by decide) (by omega) (fun c46 => ?_) (fun c46 => ?_)
          · refine s_bipush 36 X dX5_digitOf_57 (by decide) ?_
            refine s_iret X Y dX5_digitOf_59 (rfl) ?_
            refine ⟨?_, rfl⟩
            · (first | (exfalso; omega) | (unfold dg; (repeat' split) <;> omega))
          · refine s_iload_n X dX5_digitOf_49 rfl 0 rfl ?_
            refine s_bipush 65 X dX5_digitOf_50 (by decide) ?_
            refine s_isub X dX5_digitOf_52 ?_
            refine s_bipush 10 X dX5_digitOf_53 (by decide) ?_
            refine s_iadd X dX5_digitOf_55 ?_
            refine s_iret X Y dX5_digitOf_56 (rfl) ?_
            refine ⟨?_, rfl⟩
            · (first | (exfalso; omega) | (unfold dg; (repeat' split) <;> omega))
      · refine s_iload_n X dX5_digitOf_29 rfl 0 rfl ?_
        refine s_bipush 97 X dX5_digitOf_30 (by decide) ?_
        refine s_isub X dX5_digitOf_32 ?_
        refine s_bipush 10 X dX5_digitOf_33 (by decide) ?_
        refine s_iadd X dX5_digitOf_35 ?_
        refine s_iret X Y dX5_digitOf_36 (rfl) ?_
        refine ⟨?_, rfl⟩
        · (first | (exfalso; omega) | (unfold dg; (repeat' split) <;> omega))
  · refine s_iload_n X dX5_digitOf_6 rfl 0 rfl ?_
    refine s_bipush 57 X dX5_digitOf_7 (by decide) ?_
    refine s_icmp_gt X 17 dX5_digitOf_9 (by decide) (by omega) (fun c9 => ?_) (fun c9 => ?_)
    · refine s_iload_n X dX5_digitOf_17 rfl 0 rfl ?_
      refine s_bipush 97 X dX5_digitOf_18 (by decide) ?_
      refine s_icmp_lt X 37 dX5_digitOf_20 (by decide) (by omega) (fun c20 => ?_) (fun c20 => ?_)
      · refine s_iload_n X dX5_digitOf_37 rfl 0 rfl ?_
        refine s_bipush 65 X dX5_digitOf_38 (by decide) ?_
        refine s_icmp_lt X 57 dX5_digitOf_40 (by decide) (by omega) (fun c40 => ?_) (fun c40 => ?_)
        · refine s_bipush 36 X dX5_digitOf_57 (by decide) ?_
          refine s_iret X Y dX5_digitOf_59 (rfl) ?_
          refine ⟨?_, rfl⟩
          · (first | (exfalso; omega) | (unfold dg; (repeat' split) <;> omega))
        · refine s_iload_n X dX5_digitOf_43 rfl 0 rfl ?_
          refine s_bipush 90 X dX5_digitOf_44 (by decide) ?_
          refine s_icmp_gt X 57 dX5_digitOf_46 (by decide) (by omega) (fun c46 => ?_) (fun c46 => ?_)
          · refine s_bipush 36 X dX5_digitOf_57 (by decide) ?_
            refine s_iret X Y dX5_digitOf_59 (rfl) ?_
            refine ⟨?_, rfl⟩
            · (first | (exfalso; omega) | (unfold dg; (repeat' split) <;> omega))
          · refine s_iload_n X dX5_digitOf_49 rfl 0 rfl ?_
            refine s_bipush 65 X dX5_digitOf_50 (by decide) ?_
            refine s_isub X dX5_digitOf_52 ?_
            refine s_bipush 10 X dX5_digitOf_53 (by decide) ?_
            refine s_iadd X dX5_digitOf_55 ?_
            refine s_iret X Y dX5_digitOf_56 (rfl) ?_
            refine ⟨?_, rfl⟩
            · (first | (exfalso; omega) | (unfold dg; (repeat' split) <;> omega))
      · refine s_iload_n X dX5_digitOf_23 rfl 0 rfl ?_
        refine s_bipush 122 X dX5_digitOf_24 (by decide) ?_
        refine s_icmp_gt X 37 dX5_digitOf_26 (by decide) (by omega) (fun c26 => ?_) (fun c26 => ?_)
        · refine s_iload_n X dX5_digitOf_37 rfl 0 rfl ?_
          refine s_bipush 65 X dX5_digitOf_38 (by decide) ?_
          refine s_icmp_lt X 57 dX5_digitOf_40 (by decide) (by omega) (fun c40 => ?_) (fun c40 => ?_)
          · refine s_bipush 36 X dX5_digitOf_57 (by decide) ?_
            refine s_iret X Y dX5_digitOf_59 (rfl) ?_
            refine ⟨?_, rfl⟩
            · (first | (exfalso; omega) | (unfold dg; (repeat' split) <;> omega))
          · refine s_iload_n X dX5_digitOf_43 rfl 0 rfl ?_
            refine s_bipush 90 X dX5_digitOf_44 (by decide) ?_
            refine s_icmp_gt X 57 dX5_digitOf_46 (by decide) (by omega) (fun c46 => ?_) (fun c46 => ?_)
            · refine s_bipush 36 X dX5_digitOf_57 (by decide) ?_
              refine s_iret X Y dX5_digitOf_59 (rfl) ?_
              refine ⟨?_, rfl⟩
              · (first | (exfalso; omega) | (unfold dg; (repeat' split) <;> omega))
            · refine s_iload_n X dX5_digitOf_49 rfl 0 rfl ?_
              refine s_bipush 65 X dX5_digitOf_50 (by decide) ?_
              refine s_isub X dX5_digitOf_52 ?_
              refine s_bipush 10 X dX5_digitOf_53 (by decide) ?_
              refine s_iadd X dX5_digitOf_55 ?_
              refine s_iret X Y dX5_digitOf_56 (rfl) ?_
              refine ⟨?_, rfl⟩
              · (first | (exfalso; omega) | (unfold dg; (repeat' split) <;> omega))
        · refine s_iload_n X dX5_digitOf_29 rfl 0 rfl ?_
          refine s_bipush 97 X dX5_digitOf_30 (by decide) ?_
          refine s_isub X dX5_digitOf_32 ?_
          refine s_bipush 10 X dX5_digitOf_33 (by decide) ?_
          refine s_iadd X dX5_digitOf_35 ?_
          refine s_iret X Y dX5_digitOf_36 (rfl) ?_
          refine ⟨?_, rfl⟩
          · (first | (exfalso; omega) | (unfold dg; (repeat' split) <;> omega))
    · refine s_iload_n X dX5_digitOf_12 rfl 0 rfl ?_
      refine s_bipush 48 X dX5_digitOf_13 (by decide) ?_
      refine s_isub X dX5_digitOf_15 ?_
      refine s_iret X Y dX5_digitOf_16 (rfl) ?_
      refine ⟨?_, rfl⟩
      · (first | (exfalso; omega) | (unfold dg; (repeat' split) <;> omega))
set_option maxRecDepth 100000 in
set_option maxHeartbeats 4000000 in
theorem c_X5_scaled (l : Launch) (G : GX) (s : UInt64) (b : UInt64) (t : Int) (ht : -1500 ≤ t ∧ t ≤ 1500) (hm : ∀ j : Nat, (j : Int) < t → vf_n64 (FP.dmul (mulN s b j) b)) (hd : ∀ j : Nat, (j : Int) < -t → vf_n64 (FP.ddiv (divN s b j) b)) : CtD l G yX5_scaled cX5_scaled 8 (some .double) ({ frames := 0, cells := 0, slots := 0, locals := 0 } : Room) [.double s, .double b, .int (iI t)] [] (fun (z9 : UInt64) (w9 : va_W) => z9 = (scl s b t) ∧ w9 = []) := by
  intro sz
  refine met_of (fun wc sz => va_Qd _ (posW G wc sz) (va_A wc sz)) (by decide) [(0, .double s), (2, .double b), (4, .int (iI t))] rfl (Nat.le_of_ble_eq_true rfl) (fun K hK9 hnm X Y => ?_)
  subst hK9
  replace Y : RD K G (some .double) 0 0 _ := Y
  refine s_dload_n X dX5_scaled_0 rfl 0 rfl ?_
  refine s_dstore X dX5_scaled_1 [(5, .double s), (0, .double s), (2, .double b), (4, .int (iI t))] (by decide) rfl ?_
  refine s_iconst X dX5_scaled_3 ?_
  refine s_istore X dX5_scaled_4 [(7, .int (iI 0)), (5, .double s), (0, .double s), (2, .double b), (4, .int (iI t))] (by decide) rfl ?_
  have lp1 : ∀ (m9 : Nat) (v : UInt64) (q : Int) (h1 : 0 ≤ q ∧ (q ≤ t ∨ q = 0)) (h2 : v = mulN s b q.toNat), (t - q).toNat < m9 → SW K G 8 0 0 6 [(0, .double s), (2, .double b), (4, .int (iI t)), (5, .double v), (7, .int (iI q))] [] [] := by
    intro m9
    induction m9 with
    | zero => intro v q h1 h2 hm9; exact absurd hm9 (Nat.not_lt_zero _)
    | succ m9 ih9 =>
      intro v q h1 h2 hm9
      refine s_iload X dX5_scaled_6 4 rfl ?_
      refine s_iload X dX5_scaled_8 2 rfl ?_
      refine s_icmp_ge X 25 dX5_scaled_10 (by decide) (by omega) (fun c10 => ?_) (fun c10 => ?_)
      · refine s_iconst X dX5_scaled_25 ?_
        refine s_istore X dX5_scaled_26 [(7, .int (iI 0)), (0, .double s), (2, .double b), (4, .int (iI t)), (5, .double v)] (by decide) rfl ?_
        have lp2 : ∀ (m9 : Nat) (v2 : UInt64) (q2 : Int) (g1 : q2 ≤ 0 ∧ (t ≤ q2 ∨ q2 = 0)) (g2 : v2 = divN (mulN s b t.toNat) b (-q2).toNat), (q2 - t).toNat < m9 → SW K G 8 0 0 28 [(0, .double s), (2, .double b), (4, .int (iI t)), (5, .double v2), (7, .int (iI q2))] [] [] := by
          intro m9
          induction m9 with
          | zero => intro v2 q2 g1 g2 hm9; exact absurd hm9 (Nat.not_lt_zero _)
          | succ m9 ih9 =>
            intro v2 q2 g1 g2 hm9
            refine s_iload X dX5_scaled_28 4 rfl ?_
            refine s_iload X dX5_scaled_30 2 rfl ?_
            refine s_icmp_le X 47 dX5_scaled_32 (by decide) (by omega) (fun c32 => ?_) (fun c32 => ?_)
            · refine s_dload X dX5_scaled_47 3 rfl ?_
              refine s_dret X Y dX5_scaled_49 ?_
              refine ⟨?_, rfl⟩
              · (first | (exfalso; omega) | (rw [g2, show (-q2).toNat = (-t).toNat by omega]; rfl))
            · refine s_dload X dX5_scaled_35 3 rfl ?_
              refine s_dload_n X dX5_scaled_37 rfl 1 rfl ?_
              refine s_ddiv X dX5_scaled_38 (by rw [g2, show t.toNat = 0 by omega]; exact hd _ (by omega)) ?_
              refine s_dstore X dX5_scaled_39 [(5, .double (FP.ddiv v2 b)), (0, .double s), (2, .double b), (4, .int (iI t)), (7, .int (iI q2))] (by decide) rfl ?_
              refine s_iinc (z := q2 + (-1)) X dX5_scaled_41 4 rfl (by first | rfl | omega) [(7, .int (iI (q2 + (-1)))), (5, .double (FP.ddiv v2 b)), (0, .double s), (2, .double b), (4, .int (iI t))] (by decide) rfl ?_
              refine s_goto X 28 dX5_scaled_44 (by decide) ?_
              refine s_locs (lv' := [(0, .double s), (2, .double b), (4, .int (iI t)), (5, .double (FP.ddiv v2 b)), (7, .int (iI (q2 + (-1))))]) [2, 3, 4, 1, 0] rfl ?_
              exact ih9 (FP.ddiv v2 b) (q2 + (-1)) (by omega) (by rw [g2, show (-(q2 + (-1))).toNat = (-q2).toNat + 1 by omega]; rfl) (by omega)
        refine s_locs (lv' := [(0, .double s), (2, .double b), (4, .int (iI t)), (5, .double v), (7, .int (iI 0))]) [1, 2, 3, 4, 0] rfl ?_
        exact lp2 _ v 0 (by omega) (by rw [h2, show q.toNat = t.toNat by omega]; rfl) (Nat.lt_succ_self _)
      · refine s_dload X dX5_scaled_13 3 rfl ?_
        refine s_dload_n X dX5_scaled_15 rfl 1 rfl ?_
        refine s_dmul X dX5_scaled_16 (by rw [h2]; exact hm _ (by omega)) ?_
        refine s_dstore X dX5_scaled_17 [(5, .double (FP.dmul v b)), (0, .double s), (2, .double b), (4, .int (iI t)), (7, .int (iI q))] (by decide) rfl ?_
        refine s_iinc (z := q + 1) X dX5_scaled_19 4 rfl (by first | rfl | omega) [(7, .int (iI (q + 1))), (5, .double (FP.dmul v b)), (0, .double s), (2, .double b), (4, .int (iI t))] (by decide) rfl ?_
        refine s_goto X 6 dX5_scaled_22 (by decide) ?_
        refine s_locs (lv' := [(0, .double s), (2, .double b), (4, .int (iI t)), (5, .double (FP.dmul v b)), (7, .int (iI (q + 1)))]) [2, 3, 4, 1, 0] rfl ?_
        exact ih9 (FP.dmul v b) (q + 1) (by omega) (by rw [h2, show (q + 1).toNat = q.toNat + 1 by omega]; rfl) (by omega)
  refine s_locs (lv' := [(0, .double s), (2, .double b), (4, .int (iI t)), (5, .double s), (7, .int (iI 0))]) [2, 3, 4, 1, 0] rfl ?_
  exact lp1 _ s 0 (by omega) (rfl) (Nat.lt_succ_self _)
