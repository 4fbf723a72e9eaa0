set_option maxRecDepth 100000 in
set_option maxHeartbeats 4000000 in
theorem c_X4_behindSign (l : Launch) (G : GX) (k : Nat) (x : Nat) (i8 : Nat) (d8 : Nat) (pl : Int) (af : Int) (wh : Int) (len : Int) (ror : Int) (rl : Int) (re : UInt64) (t : Nat → Nat) (i : Int) (hlen : 0 ≤ len ∧ len ≤ 401) (htb : ∀ j, t j < 256) (hat : -1 ≤ i ∧ i ≤ 2000) : CtI l G yX4_behindSign cX4_behindSign 3 (some .int) ({ frames := 1, cells := 0, slots := 0, locals := 21 } : Room) [.ref k, .int (iI i)] [oTk k pl af wh re x len i8 d8 ror rl, aB G x 401 t] (fun (z9 : Int) (w9 : va_W) => z9 = (bs (bA t len) i) ∧ w9 = [oTk k pl af wh re x len i8 d8 ror rl, aB G x 401 t]) := by
  intro sz
  refine met_of (fun wc sz => va_Qi (qI _) (posW G wc sz) (va_A wc sz)) (by decide) [(0, .ref k), (1, .int (iI i))] rfl (Nat.le_of_ble_eq_true rfl) (fun K hK9 hnm X Y => ?_)
  subst hK9
  replace Y : RI K G (some .int) 0 0 _ := Y
  refine s_aload_n X dX4_behindSign_0 rfl 0 rfl ?_
  refine s_iload_n X dX4_behindSign_1 rfl 1 rfl ?_
  refine s_callIV X lk_X4_79 [0, 1] [] (wr := []) rfl rfl (by decide) (by decide) (by decide) (c_X3_textAt (kl K) G k x i8 d8 pl af wh len ror rl re t i (by omega) (by assumption) (by omega)) rfl rfl dX4_behindSign_2 rfl rfl (Nat.le_of_ble_eq_true rfl) (by decide) (fun z1 w1 h1 => ?_)
  obtain ⟨rfl, rfl⟩ := h1
  show SW K G 3 0 0 5 [(0, .ref k), (1, .int (iI i))] [.int (iI (bA t len i))] [oTk k pl af wh re x len i8 d8 ror rl, aB G x 401 t]
  have q2 := bA_C len i (by assumption : ∀ j, t j < 256)
  refine s_istore_n X dX4_behindSign_5 rfl [(2, .int (iI (bA t len i))), (0, .ref k), (1, .int (iI i))] (by decide) rfl ?_
  refine s_iload_n X dX4_behindSign_6 rfl 0 rfl ?_
  refine s_bipush 43 X dX4_behindSign_7 (by decide) ?_
  refine s_icmp_eq X 18 dX4_behindSign_9 (by decide) (by omega) (fun c9 => ?_) (fun c9 => ?_)
  · refine s_iload_n X dX4_behindSign_18 rfl 2 rfl ?_
    refine s_iconst X dX4_behindSign_19 ?_
    refine s_iadd X dX4_behindSign_20 ?_
    refine s_goto X 25 dX4_behindSign_21 (by decide) ?_
    refine s_iret X Y dX4_behindSign_25 (rfl) ?_
    refine ⟨?_, rfl⟩
    · (first | (exfalso; omega) | (unfold bs; first | rw [if_pos (by omega)] | rw [if_neg (by omega)]))
  · refine s_iload_n X dX4_behindSign_12 rfl 0 rfl ?_
    refine s_bipush 45 X dX4_behindSign_13 (by decide) ?_
    refine s_icmp_ne X 24 dX4_behindSign_15 (by decide) (by omega) (fun c15 => ?_) (fun c15 => ?_)
    · refine s_iload_n X dX4_behindSign_24 rfl 2 rfl ?_
      refine s_iret X Y dX4_behindSign_25 (rfl) ?_
      refine ⟨?_, rfl⟩
      · (first | (exfalso; omega) | (unfold bs; first | rw [if_pos (by omega)] | rw [if_neg (by omega)]))
    · refine s_iload_n X dX4_behindSign_18 rfl 2 rfl ?_
      refine s_iconst X dX4_behindSign_19 ?_
      refine s_iadd X dX4_behindSign_20 ?_
      refine s_goto X 25 dX4_behindSign_21 (by decide) ?_
      refine s_iret X Y dX4_behindSign_25 (rfl) ?_
      refine ⟨?_, rfl⟩
      · (first | (exfalso; omega) | (unfold bs; first | rw [if_pos (by omega)] | rw [if_neg (by omega)]))
set_option maxRecDepth 100000 in
set_option maxHeartbeats 4000000 in
theorem c_X4_digitsEnd (l : Launch) (G : GX) (k : Nat) (x : Nat) (i8 : Nat) (d8 : Nat) (pl : Int) (af : Int) (wh : Int) (len : Int) (ror : Int) (rl : Int) (re : UInt64) (t : Nat → Nat) (i0 : Int) (b0 : Int) (hlen : 0 ≤ len ∧ len ≤ 401) (htb : ∀ j, t j < 256) (hi : 0 ≤ i0 ∧ i0 ≤ 2000) (hb0 : R32 b0) : CtI l G yX4_digitsEnd cX4_digitsEnd 4 (some .int) ({ frames := 1, cells := 0, slots := 0, locals := 21 } : Room) [.ref k, .int (iI i0), .int (iI b0)] [oTk k pl af wh re x len i8 d8 ror rl, aB G x 401 t] (fun (z9 : Int) (w9 : va_W) => z9 = (de (bA t len) len b0 i0) ∧ w9 = [oTk k pl af wh re x len i8 d8 ror rl, aB G x 401 t]) := by
  intro sz
  refine met_of (fun wc sz => va_Qi (qI _) (posW G wc sz) (va_A wc sz)) (by decide) [(0, .ref k), (1, .int (iI i0)), (2, .int (iI b0))] rfl (Nat.le_of_ble_eq_true rfl) (fun K hK9 hnm X Y => ?_)
  subst hK9
  replace Y : RI K G (some .int) 0 0 _ := Y
  refine s_iload_n X dX4_digitsEnd_0 rfl 1 rfl ?_
  refine s_istore_n X dX4_digitsEnd_1 rfl [(3, .int (iI i0)), (0, .ref k), (1, .int (iI i0)), (2, .int (iI b0))] (by decide) rfl ?_
  have lp : ∀ (m9 : Nat) (i : Int) (h1 : i0 ≤ i ∧ i ≤ 2000) (h2 : de (bA t len) len b0 i = de (bA t len) len b0 i0), (len - i).toNat < m9 → SW K G 4 0 0 2 [(3, .int (iI i)), (0, .ref k), (1, .int (iI i0)), (2, .int (iI b0))] [] [oTk k pl af wh re x len i8 d8 ror rl, aB G x 401 t] := by
    intro m9
    induction m9 with
    | zero => intro i h1 h2 hm9; exact absurd hm9 (Nat.not_lt_zero _)
    | succ m9 ih9 =>
      intro i h1 h2 hm9
      refine s_iload_n X dX4_digitsEnd_2 rfl 0 rfl ?_
      refine s_aload_n X dX4_digitsEnd_3 rfl 1 rfl ?_
      refine s_get X dX4_digitsEnd_4 fl_X4_69 0 rfl rfl ?_
      refine s_icmp_ge X 30 dX4_digitsEnd_7 (by decide) (by omega) (fun c7 => ?_) (fun c7 => ?_)
      · refine s_aload_n X dX4_digitsEnd_30 rfl 1 rfl ?_
        refine s_get X dX4_digitsEnd_31 fl_X4_69 0 rfl rfl ?_
        refine s_iret X Y dX4_digitsEnd_34 (rfl) ?_
        refine ⟨?_, rfl⟩
        · (first | (exfalso; omega) | (first | (rw [← h2, de_out (by omega)]; done) | rw [← h2, de_s (by omega), if_pos (by omega)]))
      · refine s_aload_n X dX4_digitsEnd_10 rfl 1 rfl ?_
        refine s_iload_n X dX4_digitsEnd_11 rfl 0 rfl ?_
        refine s_callIV X lk_X4_79 [0, 1] [] (wr := []) rfl rfl (by decide) (by decide) (by decide) (c_X3_textAt (kl K) G k x i8 d8 pl af wh len ror rl re t i (by omega) (by assumption) (by omega)) rfl rfl dX4_digitsEnd_12 rfl rfl (Nat.le_of_ble_eq_true rfl) (by decide) (fun z1 w1 h1 => ?_)
        obtain ⟨rfl, rfl⟩ := h1
        show SW K G 4 0 0 15 [(3, .int (iI i)), (0, .ref k), (1, .int (iI i0)), (2, .int (iI b0))] [.int (iI (bA t len i))] [oTk k pl af wh re x len i8 d8 ror rl, aB G x 401 t]
        have q2 := bA_C len i (by assumption : ∀ j, t j < 256)
        refine s_callISN X lk_X4_115 [] [0, 1] (wr := [oTk k pl af wh re x len i8 d8 ror rl, aB G x 401 t]) rfl rfl (by decide) (by decide) (by decide) (c_X5_digitOf (kl K) G (bA t len i) (by omega)) dX4_digitsEnd_15 rfl rfl (Nat.le_of_ble_eq_true rfl) (by decide) (fun z3 w3 h3 => ?_)
        obtain ⟨rfl, rfl⟩ := h3
        show SW K G 4 0 0 18 [(3, .int (iI i)), (0, .ref k), (1, .int (iI i0)), (2, .int (iI b0))] [.int (iI (dg (bA t len i)))] [oTk k pl af wh re x len i8 d8 ror rl, aB G x 401 t]
        have q4 := dg_R (bA t len i)
        refine s_iload_n X dX4_digitsEnd_18 rfl 3 rfl ?_
        refine s_icmp_lt X 24 dX4_digitsEnd_19 (by decide) (by omega) (fun c19 => ?_) (fun c19 => ?_)
        · refine s_iinc (z := i + 1) X dX4_digitsEnd_24 0 rfl (by first | rfl | omega) [(3, .int (iI (i + 1))), (0, .ref k), (1, .int (iI i0)), (2, .int (iI b0))] (by decide) rfl ?_
          refine s_goto X 2 dX4_digitsEnd_27 (by decide) ?_
          exact ih9 (i + 1) (by omega) (by rw [← h2, de_s (i := i) (by omega), if_neg (by omega)]) (by omega)
        · refine s_iload_n X dX4_digitsEnd_22 rfl 0 rfl ?_
          refine s_iret X Y dX4_digitsEnd_23 (rfl) ?_
          refine ⟨?_, rfl⟩
          · (first | (exfalso; omega) | (first | (rw [← h2, de_out (by omega)]; done) | rw [← h2, de_s (by omega), if_pos (by omega)]))
  exact lp _ i0 (by omega) (rfl) (Nat.lt_succ_self _)
set_option maxRecDepth 100000 in
set_option maxHeartbeats 4000000 in
theorem c_X4_valueOf (l : Launch) (G : GX) (k : Nat) (x : Nat) (i8 : Nat) (d8 : Nat) (pl : Int) (af : Int) (wh : Int) (len : Int) (ror : Int) (rl : Int) (re : UInt64) (t : Nat → Nat) (i0 : Int) (e0 : Int) (b0 : Int) (hlen : 0 ≤ len ∧ len ≤ 401) (htb : ∀ j, t j < 256) (hi : 0 ≤ i0 ∧ i0 ≤ 2000 ∧ e0 ≤ 2000 ∧ -1 ≤ e0) (hb0 : 0 ≤ b0 ∧ b0 ≤ 36) : CtL l G yX4_valueOf cX4_valueOf 7 (some .long) ({ frames := 1, cells := 0, slots := 0, locals := 23 } : Room) [.ref k, .int (iI i0), .int (iI e0), .int (iI b0)] [oTk k pl af wh re x len i8 d8 ror rl, aB G x 401 t] (fun (z9 : Int) (w9 : va_W) => z9 = (vo (bA t len) b0 i0 e0 0) ∧ w9 = [oTk k pl af wh re x len i8 d8 ror rl, aB G x 401 t]) := by
  intro sz
  refine met_of (fun wc sz => va_Ql (qL _) (posW G wc sz) (va_A wc sz)) (by decide) [(0, .ref k), (1, .int (iI i0)), (2, .int (iI e0)), (3, .int (iI b0))] rfl (Nat.le_of_ble_eq_true rfl) (fun K hK9 hnm X Y => ?_)
  subst hK9
  replace Y : RLg K G (some .long) 0 0 _ := Y
  refine s_lconst0 X dX4_valueOf_0 ?_
  refine s_lstore X dX4_valueOf_1 [(4, .long (lI 0)), (0, .ref k), (1, .int (iI i0)), (2, .int (iI e0)), (3, .int (iI b0))] (by decide) rfl ?_
  refine s_iload_n X dX4_valueOf_3 rfl 2 rfl ?_
  refine s_istore X dX4_valueOf_4 [(6, .int (iI i0)), (4, .long (lI 0)), (0, .ref k), (1, .int (iI i0)), (2, .int (iI e0)), (3, .int (iI b0))] (by decide) rfl ?_
  have lp : ∀ (m9 : Nat) (i : Int) (v : Int) (h1 : i0 ≤ i ∧ i ≤ 2000 ∧ 0 ≤ v ∧ v ≤ 4294967296) (h2 : vo (bA t len) b0 i e0 v = vo (bA t len) b0 i0 e0 0), (e0 - i).toNat < m9 → SW K G 7 0 0 6 [(6, .int (iI i)), (4, .long (lI v)), (0, .ref k), (1, .int (iI i0)), (2, .int (iI e0)), (3, .int (iI b0))] [] [oTk k pl af wh re x len i8 d8 ror rl, aB G x 401 t] := by
    intro m9
    induction m9 with
    | zero => intro i v h1 h2 hm9; exact absurd hm9 (Nat.not_lt_zero _)
    | succ m9 ih9 =>
      intro i v h1 h2 hm9
      have hmul : 0 ≤ v * b0 ∧ v * b0 ≤ 4294967296 * 36 := ⟨Int.mul_nonneg (by omega) (by omega), Int.mul_le_mul (by omega) (by omega) (by omega) (by omega)⟩
      refine s_iload X dX4_valueOf_6 0 rfl ?_
      refine s_iload_n X dX4_valueOf_8 rfl 4 rfl ?_
      refine s_icmp_ge X 42 dX4_valueOf_9 (by decide) (by omega) (fun c9 => ?_) (fun c9 => ?_)
      · refine s_lload X dX4_valueOf_42 1 rfl ?_
        refine s_lret X Y dX4_valueOf_44 ?_
        refine ⟨?_, rfl⟩
        · (first | (exfalso; omega) | (rw [← h2, vo_out (by omega)]))
      · refine s_lload X dX4_valueOf_12 1 rfl ?_
        refine s_iload_n X dX4_valueOf_14 rfl 5 rfl ?_
        refine s_i2l X dX4_valueOf_15 (by omega) ?_
        refine s_lmul X dX4_valueOf_16 ?_
        refine s_aload_n X dX4_valueOf_17 rfl 2 rfl ?_
        refine s_iload X dX4_valueOf_18 0 rfl ?_
        refine s_callIV X lk_X4_79 [0, 1] [] (wr := []) rfl rfl (by decide) (by decide) (by decide) (c_X3_textAt (kl K) G k x i8 d8 pl af wh len ror rl re t i (by omega) (by assumption) (by omega)) rfl rfl dX4_valueOf_20 rfl rfl (Nat.le_of_ble_eq_true rfl) (by decide) (fun z1 w1 h1 => ?_)
        obtain ⟨rfl, rfl⟩ := h1
        show SW K G 7 0 0 23 [(6, .int (iI i)), (4, .long (lI v)), (0, .ref k), (1, .int (iI i0)), (2, .int (iI e0)), (3, .int (iI b0))] [.int (iI (bA t len i)), .long (lI (v * b0))] [oTk k pl af wh re x len i8 d8 ror rl, aB G x 401 t]
        have q2 := bA_C len i (by assumption : ∀ j, t j < 256)
        refine s_callISN X lk_X4_115 [] [0, 1] (wr := [oTk k pl af wh re x len i8 d8 ror rl, aB G x 401 t]) rfl rfl (by decide) (by decide) (by decide) (c_X5_digitOf (kl K) G (bA t len i) (by omega)) dX4_valueOf_23 rfl rfl (Nat.le_of_ble_eq_true rfl) (by decide) (fun z3 w3 h3 => ?_)
        obtain ⟨rfl, rfl⟩ := h3
        show SW K G 7 0 0 26 [(6, .int (iI i)), (4, .long (lI v)), (0, .ref k), (1, .int (iI i0)), (2, .int (iI e0)), (3, .int (iI b0))] [.int (iI (dg (bA t len i))), .long (lI (v * b0))] [oTk k pl af wh re x len i8 d8 ror rl, aB G x 401 t]
        have q4 := dg_R (bA t len i)
        refine s_i2l X dX4_valueOf_26 (by omega) ?_
        refine s_ladd X dX4_valueOf_27 ?_
        refine s_ldc2 4294967296 X dX4_valueOf_28 tg488 (by decide) ?_
        refine s_mminL X tm_min1 tm_min2 tm_ini tm_min4 ⟨⟨Nat.le_of_ble_eq_true rfl, Nat.le_of_ble_eq_true rfl⟩, Nat.le_of_ble_eq_true rfl, Nat.le_of_ble_eq_true rfl⟩ dX4_valueOf_31 (by omega) ?_
        refine s_lstore X dX4_valueOf_34 [(4, .long (lI (if 4294967296 < (v * b0) + (dg (bA t len i)) then 4294967296 else (v * b0) + (dg (bA t len i))))), (6, .int (iI i)), (0, .ref k), (1, .int (iI i0)), (2, .int (iI e0)), (3, .int (iI b0))] (by decide) rfl ?_
        refine s_iinc (z := i + 1) X dX4_valueOf_36 1 rfl (by first | rfl | omega) [(6, .int (iI (i + 1))), (4, .long (lI (if 4294967296 < (v * b0) + (dg (bA t len i)) then 4294967296 else (v * b0) + (dg (bA t len i))))), (0, .ref k), (1, .int (iI i0)), (2, .int (iI e0)), (3, .int (iI b0))] (by decide) rfl ?_
        refine s_goto X 6 dX4_valueOf_39 (by decide) ?_
        exact ih9 (i + 1) (if 4294967296 < (v * b0) + (dg (bA t len i)) then 4294967296 else (v * b0) + (dg (bA t len i))) (by refine ⟨by omega, by omega, ?_, ?_⟩ <;> split <;> omega) (by rw [← h2, vo_s (i := i) (by omega)]; rfl) (by omega)
  exact lp _ i0 0 (by omega) (rfl) (Nat.lt_succ_self _)
set_option maxRecDepth 100000 in
set_option maxHeartbeats 4000000 in
theorem c_X4_digitsAsReal (l : Launch) (G : GX) (k : Nat) (x : Nat) (i8 : Nat) (d8 : Nat) (pl : Int) (af : Int) (wh : Int) (len : Int) (ror : Int) (rl : Int) (re : UInt64) (t : Nat → Nat) (i0 : Int) (e0 : Int) (hlen : 0 ≤ len ∧ len ≤ 401) (htb : ∀ j, t j < 256) (hi : 0 ≤ i0 ∧ i0 ≤ 2000 ∧ e0 ≤ 2000 ∧ -1 ≤ e0) : CtD l G yX4_digitsAsReal cX4_digitsAsReal 6 (some .double) ({ frames := 1, cells := 0, slots := 0, locals := 21 } : Room) [.ref k, .int (iI i0), .int (iI e0)] [oTk k pl af wh re x len i8 d8 ror rl, aB G x 401 t] (fun (z9 : UInt64) (w9 : va_W) => z9 = (dr (bA t len) i0 e0 FP.dconst0) ∧ w9 = [oTk k pl af wh re x len i8 d8 ror rl, aB G x 401 t]) := by
  intro sz
  refine met_of (fun wc sz => va_Qd _ (posW G wc sz) (va_A wc sz)) (by decide) [(0, .ref k), (1, .int (iI i0)), (2, .int (iI e0))] rfl (Nat.le_of_ble_eq_true rfl) (fun K hK9 hnm X Y => ?_)
  subst hK9
  replace Y : RD K G (some .double) 0 0 _ := Y
  refine s_dconst0 X dX4_digitsAsReal_0 ?_
  refine s_dstore_n X dX4_digitsAsReal_1 rfl [(3, .double FP.dconst0), (0, .ref k), (1, .int (iI i0)), (2, .int (iI e0))] (by decide) rfl ?_
  refine s_iload_n X dX4_digitsAsReal_2 rfl 2 rfl ?_
  refine s_istore X dX4_digitsAsReal_3 [(5, .int (iI i0)), (3, .double FP.dconst0), (0, .ref k), (1, .int (iI i0)), (2, .int (iI e0))] (by decide) rfl ?_
  have lp : ∀ (m9 : Nat) (i : Int) (v : UInt64) (h1 : i0 ≤ i ∧ i ≤ 2000) (h3 : NN v) (h2 : dr (bA t len) i e0 v = dr (bA t len) i0 e0 FP.dconst0), (e0 - i).toNat < m9 → SW K G 6 0 0 5 [(5, .int (iI i)), (3, .double v), (0, .ref k), (1, .int (iI i0)), (2, .int (iI e0))] [] [oTk k pl af wh re x len i8 d8 ror rl, aB G x 401 t] := by
    intro m9
    induction m9 with
    | zero => intro i v h1 h3 h2 hm9; exact absurd hm9 (Nat.not_lt_zero _)
    | succ m9 ih9 =>
      intro i v h1 h3 h2 hm9
      refine s_iload X dX4_digitsAsReal_5 0 rfl ?_
      refine s_iload_n X dX4_digitsAsReal_7 rfl 4 rfl ?_
      refine s_icmp_ge X 45 dX4_digitsAsReal_8 (by decide) (by omega) (fun c8 => ?_) (fun c8 => ?_)
      · refine s_dload_n X dX4_digitsAsReal_45 rfl 1 rfl ?_
        refine s_dret X Y dX4_digitsAsReal_46 ?_
        refine ⟨?_, rfl⟩
        · (first | (exfalso; omega) | (rw [← h2, dr_out (by omega)]))
      · refine s_aload_n X dX4_digitsAsReal_11 rfl 2 rfl ?_
        refine s_iload X dX4_digitsAsReal_12 0 rfl ?_
        refine s_callIV X lk_X4_79 [0, 1] [] (wr := []) rfl rfl (by decide) (by decide) (by decide) (c_X3_textAt (kl K) G k x i8 d8 pl af wh len ror rl re t i (by omega) (by assumption) (by omega)) rfl rfl dX4_digitsAsReal_14 rfl rfl (Nat.le_of_ble_eq_true rfl) (by decide) (fun z1 w1 h1 => ?_)
        obtain ⟨rfl, rfl⟩ := h1
        show SW K G 6 0 0 17 [(5, .int (iI i)), (3, .double v), (0, .ref k), (1, .int (iI i0)), (2, .int (iI e0))] [.int (iI (bA t len i))] [oTk k pl af wh re x len i8 d8 ror rl, aB G x 401 t]
        have q2 := bA_C len i (by assumption : ∀ j, t j < 256)
        refine s_bipush 46 X dX4_digitsAsReal_17 (by decide) ?_
        refine s_icmp_eq X 39 dX4_digitsAsReal_19 (by decide) (by omega) (fun c19 => ?_) (fun c19 => ?_)
        · refine s_iinc (z := i + 1) X dX4_digitsAsReal_39 0 rfl (by first | rfl | omega) [(5, .int (iI (i + 1))), (3, .double v), (0, .ref k), (1, .int (iI i0)), (2, .int (iI e0))] (by decide) rfl ?_
          refine s_goto X 5 dX4_digitsAsReal_42 (by decide) ?_
          exact ih9 (i + 1) v (by omega) (by first | exact h3 | exact (NN_add (NN_mul h3).2 (by omega)).2) (by rw [← h2, dr_s (i := i) (by omega)]; first | rw [if_pos (by omega)] | rw [if_neg (by omega)]) (by omega)
        · refine s_dload_n X dX4_digitsAsReal_22 rfl 1 rfl ?_
          refine s_ldc2d X dX4_digitsAsReal_23 tg512 ?_
          refine s_dmul X dX4_digitsAsReal_26 ((NN_mul h3).1) ?_
          refine s_aload_n X dX4_digitsAsReal_27 rfl 2 rfl ?_
          refine s_iload X dX4_digitsAsReal_28 0 rfl ?_
          refine s_callIV X lk_X4_79 [0, 1] [] (wr := []) rfl rfl (by decide) (by decide) (by decide) (c_X3_textAt (kl K) G k x i8 d8 pl af wh len ror rl re t i (by omega) (by assumption) (by omega)) rfl rfl dX4_digitsAsReal_30 rfl rfl (Nat.le_of_ble_eq_true rfl) (by decide) (fun z3 w3 h3 => ?_)
          obtain ⟨rfl, rfl⟩ := h3
          show SW K G 6 0 0 33 [(5, .int (iI i)), (3, .double v), (0, .ref k), (1, .int (iI i0)), (2, .int (iI e0))] [.int (iI (bA t len i)), .double (FP.dmul v 4621819117588971520)] [oTk k pl af wh re x len i8 d8 ror rl, aB G x 401 t]
          have q4 := bA_C len i (by assumption : ∀ j, t j < 256)
          refine s_callISN X lk_X4_115 [] [0, 1] (wr := [oTk k pl af wh re x len i8 d8 ror rl, aB G x 401 t]) rfl rfl (by decide) (by decide) (by decide) (c_X5_digitOf (kl K) G (bA t len i) (by omega)) dX4_digitsAsReal_33 rfl rfl (Nat.le_of_ble_eq_true rfl) (by decide) (fun z5 w5 h5 => ?_)
          obtain ⟨rfl, rfl⟩ := h5
          show SW K G 6 0 0 36 [(5, .int (iI i)), (3, .double v), (0, .ref k), (1, .int (iI i0)), (2, .int (iI e0))] [.int (iI (dg (bA t len i))), .double (FP.dmul v 4621819117588971520)] [oTk k pl af wh re x len i8 d8 ror rl, aB G x 401 t]
          have q6 := dg_R (bA t len i)
          refine s_i2d X dX4_digitsAsReal_36 ?_
          refine s_dadd X dX4_digitsAsReal_37 ((NN_add (NN_mul h3).2 (by omega)).1) ?_
          refine s_dstore_n X dX4_digitsAsReal_38 rfl [(3, .double (FP.dadd (FP.dmul v 4621819117588971520) (FP.i2d (iI (dg (bA t len i)))))), (5, .int (iI i)), (0, .ref k), (1, .int (iI i0)), (2, .int (iI e0))] (by decide) rfl ?_
          refine s_iinc (z := i + 1) X dX4_digitsAsReal_39 1 rfl (by first | rfl | omega) [(5, .int (iI (i + 1))), (3, .double (FP.dadd (FP.dmul v 4621819117588971520) (FP.i2d (iI (dg (bA t len i)))))), (0, .ref k), (1, .int (iI i0)), (2, .int (iI e0))] (by decide) rfl ?_
          refine s_goto X 5 dX4_digitsAsReal_42 (by decide) ?_
          exact ih9 (i + 1) (FP.dadd (FP.dmul v 4621819117588971520) (FP.i2d (iI (dg (bA t len i))))) (by omega) (by first | exact h3 | exact (NN_add (NN_mul h3).2 (by omega)).2) (by rw [← h2, dr_s (i := i) (by omega)]; first | rw [if_pos (by omega)] | rw [if_neg (by omega)]) (by omega)
  exact lp _ i0 FP.dconst0 (by omega) (NN_0) (rfl) (Nat.lt_succ_self _)
set_option maxRecDepth 100000 in
set_option maxHeartbeats 4000000 in
theorem c_X4_isExponent (l : Launch) (G : GX) (k : Nat) (x : Nat) (i8 : Nat) (d8 : Nat) (pl : Int) (af : Int) (wh : Int) (len : Int) (ror : Int) (rl : Int) (re : UInt64) (t : Nat → Nat) (i : Int) (hlen : 0 ≤ len ∧ len ≤ 401) (htb : ∀ j, t j < 256) (hat : 0 ≤ i ∧ i < len) : CtI l G yX4_isExponent cX4_isExponent 5 (some .boolean) ({ frames := 2, cells := 0, slots := 0, locals := 44 } : Room) [.ref k, .int (iI i)] [oTk k pl af wh re x len i8 d8 ror rl, aB G x 401 t] (fun (z9 : Int) (w9 : va_W) => z9 = (tf (isx (bA t len) len i)) ∧ w9 = [oTk k pl af wh re x len i8 d8 ror rl, aB G x 401 t]) := by
  intro sz
  refine met_of (fun wc sz => va_Qi (qI _) (posW G wc sz) (va_A wc sz)) (by decide) [(0, .ref k), (1, .int (iI i))] rfl (Nat.le_of_ble_eq_true rfl) (fun K hK9 hnm X Y => ?_)
  subst hK9
  replace Y : RI K G (some .boolean) 0 0 _ := Y
  refine s_aload_n X dX4_isExponent_0 rfl 0 rfl ?_
  refine s_iload_n X dX4_isExponent_1 rfl 1 rfl ?_
  refine s_callIV X lk_X4_79 [0, 1] [] (wr := []) rfl rfl (by decide) (by decide) (by decide) (c_X3_textAt (kl K) G k x i8 d8 pl af wh len ror rl re t i (by omega) (by assumption) (by omega)) rfl rfl dX4_isExponent_2 rfl rfl (Nat.le_of_ble_eq_true rfl) (by decide) (fun z1 w1 h1 => ?_)
  obtain ⟨rfl, rfl⟩ := h1
  show SW K G 5 0 0 5 [(0, .ref k), (1, .int (iI i))] [.int (iI (bA t len i))] [oTk k pl af wh re x len i8 d8 ror rl, aB G x 401 t]
  have q2 := bA_C len i (by assumption : ∀ j, t j < 256)
  refine s_istore_n X dX4_isExponent_5 rfl [(2, .int (iI (bA t len i))), (0, .ref k), (1, .int (iI i))] (by decide) rfl ?_
  refine s_aload_n X dX4_isExponent_6 rfl 1 rfl ?_
  refine s_iload_n X dX4_isExponent_7 rfl 2 rfl ?_
  refine s_iconst X dX4_isExponent_8 ?_
  refine s_iadd X dX4_isExponent_9 ?_
  refine s_callIS X lk_X4_65 [0, 1] [] (wr := []) rfl rfl (by decide) (by decide) (by decide) (c_X4_behindSign (kl K) G k x i8 d8 pl af wh len ror rl re t (i + 1) (by omega) (by assumption) (by omega)) dX4_isExponent_10 rfl rfl (Nat.le_of_ble_eq_true rfl) (by decide) (fun z3 w3 h3 => ?_)
  obtain ⟨rfl, rfl⟩ := h3
  show SW K G 5 0 0 13 [(2, .int (iI (bA t len i))), (0, .ref k), (1, .int (iI i))] [.int (iI (bs (bA t len) (i + 1)))] [oTk k pl af wh re x len i8 d8 ror rl, aB G x 401 t]
  have q4 := bs_R (bA t len) (i + 1)
  refine s_istore_n X dX4_isExponent_13 rfl [(3, .int (iI (bs (bA t len) (i + 1)))), (2, .int (iI (bA t len i))), (0, .ref k), (1, .int (iI i))] (by decide) rfl ?_
  refine s_aload_n X dX4_isExponent_14 rfl 2 rfl ?_
  refine s_get X dX4_isExponent_15 fl_X4_69 0 rfl rfl ?_
  refine s_iload_n X dX4_isExponent_18 rfl 0 rfl ?_
  refine s_isub X dX4_isExponent_19 ?_
  refine s_istore X dX4_isExponent_20 [(4, .int (iI (len - (bs (bA t len) (i + 1))))), (3, .int (iI (bs (bA t len) (i + 1)))), (2, .int (iI (bA t len i))), (0, .ref k), (1, .int (iI i))] (by decide) rfl ?_
  refine s_iload_n X dX4_isExponent_22 rfl 2 rfl ?_
  refine s_bipush 101 X dX4_isExponent_23 (by decide) ?_
  refine s_icmp_eq X 34 dX4_isExponent_25 (by decide) (by omega) (fun c25 => ?_) (fun c25 => ?_)
  · refine s_iload X dX4_isExponent_34 0 rfl ?_
    refine s_iconst X dX4_isExponent_36 ?_
    refine s_icmp_lt X 64 dX4_isExponent_37 (by decide) (by omega) (fun c37 => ?_) (fun c37 => ?_)
    · refine s_iconst X dX4_isExponent_64 ?_
      refine s_iret X Y dX4_isExponent_65 (rfl) ?_
      refine ⟨?_, rfl⟩
      · (first | (exfalso; omega) | (first | exact (tf_t (by omega)).symm | exact (tf_f (by omega)).symm))
    · refine s_iload X dX4_isExponent_40 0 rfl ?_
      refine s_iconst X dX4_isExponent_42 ?_
      refine s_icmp_gt X 64 dX4_isExponent_43 (by decide) (by omega) (fun c43 => ?_) (fun c43 => ?_)
      · refine s_iconst X dX4_isExponent_64 ?_
        refine s_iret X Y dX4_isExponent_65 (rfl) ?_
        refine ⟨?_, rfl⟩
        · (first | (exfalso; omega) | (first | exact (tf_t (by omega)).symm | exact (tf_f (by omega)).symm))
      · refine s_aload_n X dX4_isExponent_46 rfl 3 rfl ?_
        refine s_iload_n X dX4_isExponent_47 rfl 1 rfl ?_
        refine s_bipush 10 X dX4_isExponent_48 (by decide) ?_
        refine s_callIS X lk_X4_72 [0, 1] [] (wr := []) rfl rfl (by decide) (by decide) (by decide) (c_X4_digitsEnd (kl K) G k x i8 d8 pl af wh len ror rl re t (bs (bA t len) (i + 1)) 10 (by omega) (by assumption) (by omega) (by omega)) dX4_isExponent_50 rfl rfl (Nat.le_of_ble_eq_true rfl) (by decide) (fun z5 w5 h5 => ?_)
        obtain ⟨rfl, rfl⟩ := h5
        show SW K G 5 0 0 53 [(4, .int (iI (len - (bs (bA t len) (i + 1))))), (3, .int (iI (bs (bA t len) (i + 1)))), (2, .int (iI (bA t len i))), (0, .ref k), (1, .int (iI i))] [.int (iI (de (bA t len) len 10 (bs (bA t len) (i + 1))))] [oTk k pl af wh re x len i8 d8 ror rl, aB G x 401 t]
        have q6 := de_C (bA t len) len 10 (bs (bA t len) (i + 1))
        refine s_aload_n X dX4_isExponent_53 rfl 3 rfl ?_
        refine s_get X dX4_isExponent_54 fl_X4_69 0 rfl rfl ?_
        refine s_icmp_ne X 64 dX4_isExponent_57 (by decide) (by omega) (fun c57 => ?_) (fun c57 => ?_)
        · refine s_iconst X dX4_isExponent_64 ?_
          refine s_iret X Y dX4_isExponent_65 (rfl) ?_
          refine ⟨?_, rfl⟩
          · (first | (exfalso; omega) | (first | exact (tf_t (by omega)).symm | exact (tf_f (by omega)).symm))
        · refine s_iconst X dX4_isExponent_60 ?_
          refine s_goto X 65 dX4_isExponent_61 (by decide) ?_
          refine s_iret X Y dX4_isExponent_65 (rfl) ?_
          refine ⟨?_, rfl⟩
          · (first | (exfalso; omega) | (first | exact (tf_t (by omega)).symm | exact (tf_f (by omega)).symm))
  · refine s_iload_n X dX4_isExponent_28 rfl 2 rfl ?_
    refine s_bipush 69 X dX4_isExponent_29 (by decide) ?_
    refine s_icmp_ne X 64 dX4_isExponent_31 (by decide) (by omega) (fun c31 => ?_) (fun c31 => ?_)
    · refine s_iconst X dX4_isExponent_64 ?_
      refine s_iret X Y dX4_isExponent_65 (rfl) ?_
      refine ⟨?_, rfl⟩
      · (first | (exfalso; omega) | (first | exact (tf_t (by omega)).symm | exact (tf_f (by omega)).symm))
    · refine s_iload X dX4_isExponent_34 0 rfl ?_
      refine s_iconst X dX4_isExponent_36 ?_
      refine s_icmp_lt X 64 dX4_isExponent_37 (by decide) (by omega) (fun c37 => ?_) (fun c37 => ?_)
      · refine s_iconst X dX4_isExponent_64 ?_
        refine s_iret X Y dX4_isExponent_65 (rfl) ?_
        refine ⟨?_, rfl⟩
        · (first | (exfalso; omega) | (first | exact (tf_t (by omega)).symm | exact (tf_f (by omega)).symm))
      · refine s_iload X dX4_isExponent_40 0 rfl ?_
        refine s_iconst X dX4_isExponent_42 ?_
        refine s_icmp_gt X 64 dX4_isExponent_43 (by decide) (by omega) (fun c43 => ?_) (fun c43 => ?_)
        · refine s_iconst X dX4_isExponent_64 ?_
          refine s_iret X Y dX4_isExponent_65 (rfl) ?_
          refine ⟨?_, rfl⟩
          · (first | (exfalso; omega) | (first | exact (tf_t (by omega)).symm | exact (tf_f (by omega)).symm))
        · refine s_aload_n X dX4_isExponent_46 rfl 3 rfl ?_
          refine s_iload_n X dX4_isExponent_47 rfl 1 rfl ?_
          refine s_bipush 10 X dX4_isExponent_48 (by decide) ?_
          refine s_callIS X lk_X4_72 [0, 1] [] (wr := []) rfl rfl (by decide) (by decide) (by decide) (c_X4_digitsEnd (kl K) G k x i8 d8 pl af wh len ror rl re t (bs (bA t len) (i + 1)) 10 (by omega) (by assumption) (by omega) (by omega)) dX4_isExponent_50 rfl rfl (Nat.le_of_ble_eq_true rfl) (by decide) (fun z7 w7 h7 => ?_)
          obtain ⟨rfl, rfl⟩ := h7
          show SW K G 5 0 0 53 [(4, .int (iI (len - (bs (bA t len) (i + 1))))), (3, .int (iI (bs (bA t len) (i + 1)))), (2, .int (iI (bA t len i))), (0, .ref k), (1, .int (iI i))] [.int (iI (de (bA t len) len 10 (bs (bA t len) (i + 1))))] [oTk k pl af wh re x len i8 d8 ror rl, aB G x 401 t]
          have q8 := de_C (bA t len) len 10 (bs (bA t len) (i + 1))
          refine s_aload_n X dX4_isExponent_53 rfl 3 rfl ?_
          refine s_get X dX4_isExponent_54 fl_X4_69 0 rfl rfl ?_
          refine s_icmp_ne X 64 dX4_isExponent_57 (by decide) (by omega) (fun c57 => ?_) (fun c57 => ?_)
          · refine s_iconst X dX4_isExponent_64 ?_
            refine s_iret X Y dX4_isExponent_65 (rfl) ?_
            refine ⟨?_, rfl⟩
            · (first | (exfalso; omega) | (first | exact (tf_t (by omega)).symm | exact (tf_f (by omega)).symm))
          · refine s_iconst X dX4_isExponent_60 ?_
            refine s_goto X 65 dX4_isExponent_61 (by decide) ?_
            refine s_iret X Y dX4_isExponent_65 (rfl) ?_
            refine ⟨?_, rfl⟩
            · (first | (exfalso; omega) | (first | exact (tf_t (by omega)).symm | exact (tf_f (by omega)).symm))
set_option maxRecDepth 100000 in
set_option maxHeartbeats 4000000 in
theorem c_X4_exponentAt (l : Launch) (G : GX) (k : Nat) (x : Nat) (i8 : Nat) (d8 : Nat) (pl : Int) (af : Int) (wh : Int) (len : Int) (ror : Int) (rl : Int) (re : UInt64) (t : Nat → Nat) (i : Int) (hlen : 0 ≤ len ∧ len ≤ 401) (htb : ∀ j, t j < 256) (hat : 0 ≤ i ∧ i < len) (hx : isx (bA t len) len i) : CtI l G yX4_exponentAt cX4_exponentAt 3 (some .int) ({ frames := 2, cells := 0, slots := 0, locals := 49 } : Room) [.ref k, .int (iI i)] [oTk k pl af wh re x len i8 d8 ror rl, aB G x 401 t] (fun (z9 : Int) (w9 : va_W) => z9 = (exv (bA t len) len i) ∧ w9 = [oTk k pl af wh re x len i8 d8 ror rl, aB G x 401 t]) := by
  intro sz
  refine met_of (fun wc sz => va_Qi (qI _) (posW G wc sz) (va_A wc sz)) (by decide) [(0, .ref k), (1, .int (iI i))] rfl (Nat.le_of_ble_eq_true rfl) (fun K hK9 hnm X Y => ?_)
  subst hK9
  replace Y : RI K G (some .int) 0 0 _ := Y
  refine s_aload_n X dX4_exponentAt_0 rfl 0 rfl ?_
  refine s_aload_n X dX4_exponentAt_1 rfl 0 rfl ?_
  refine s_iload_n X dX4_exponentAt_2 rfl 1 rfl ?_
  refine s_iconst X dX4_exponentAt_3 ?_
  refine s_iadd X dX4_exponentAt_4 ?_
  refine s_callIS X lk_X4_65 [0, 1] [] (wr := []) rfl rfl (by decide) (by decide) (by decide) (c_X4_behindSign (kl K) G k x i8 d8 pl af wh len ror rl re t (i + 1) (by omega) (by assumption) (by omega)) dX4_exponentAt_5 rfl rfl (Nat.le_of_ble_eq_true rfl) (by decide) (fun z1 w1 h1 => ?_)
  obtain ⟨rfl, rfl⟩ := h1
  show SW K G 3 0 0 8 [(0, .ref k), (1, .int (iI i))] [.int (iI (bs (bA t len) (i + 1))), .ref k] [oTk k pl af wh re x len i8 d8 ror rl, aB G x 401 t]
  have q2 := bs_R (bA t len) (i + 1)
  refine s_aload_n X dX4_exponentAt_8 rfl 0 rfl ?_
  refine s_get X dX4_exponentAt_9 fl_X4_69 0 rfl rfl ?_
  refine s_bipush 10 X dX4_exponentAt_12 (by decide) ?_
  refine s_callLS X lk_X4_75 [0, 1] [] (wr := []) rfl rfl (by decide) (by decide) (by decide) (c_X4_valueOf (kl K) G k x i8 d8 pl af wh len ror rl re t (bs (bA t len) (i + 1)) len 10 (by omega) (by assumption) (by omega) (by omega)) dX4_exponentAt_14 rfl rfl (Nat.le_of_ble_eq_true rfl) (by decide) (fun z3 w3 h3 => ?_)
  obtain ⟨rfl, rfl⟩ := h3
  show SW K G 3 0 0 17 [(0, .ref k), (1, .int (iI i))] [.long (lI (vo (bA t len) 10 (bs (bA t len) (i + 1)) len 0))] [oTk k pl af wh re x len i8 d8 ror rl, aB G x 401 t]
  have q4 := vo_R (w := bA t len) (base := 10) (e := len) (by omega) _ (bs (bA t len) (i + 1)) 0 rfl (by omega)
  refine s_l2i X dX4_exponentAt_17 ?_
  refine s_istore_n X dX4_exponentAt_18 rfl [(2, .int (iI (vo (bA t len) 10 (bs (bA t len) (i + 1)) len 0))), (0, .ref k), (1, .int (iI i))] (by decide) rfl ?_
  refine s_aload_n X dX4_exponentAt_19 rfl 1 rfl ?_
  refine s_iload_n X dX4_exponentAt_20 rfl 2 rfl ?_
  refine s_iconst X dX4_exponentAt_21 ?_
  refine s_iadd X dX4_exponentAt_22 ?_
  refine s_callIV X lk_X4_79 [0, 1] [] (wr := []) rfl rfl (by decide) (by decide) (by decide) (c_X3_textAt (kl K) G k x i8 d8 pl af wh len ror rl re t (i + 1) (by omega) (by assumption) (by omega)) rfl rfl dX4_exponentAt_23 rfl rfl (Nat.le_of_ble_eq_true rfl) (by decide) (fun z5 w5 h5 => ?_)
  obtain ⟨rfl, rfl⟩ := h5
  show SW K G 3 0 0 26 [(2, .int (iI (vo (bA t len) 10 (bs (bA t len) (i + 1)) len 0))), (0, .ref k), (1, .int (iI i))] [.int (iI (bA t len (i + 1)))] [oTk k pl af wh re x len i8 d8 ror rl, aB G x 401 t]
  have q6 := bA_C len (i + 1) (by assumption : ∀ j, t j < 256)
  refine s_bipush 45 X dX4_exponentAt_26 (by decide) ?_
  refine s_icmp_ne X 36 dX4_exponentAt_28 (by decide) (by omega) (fun c28 => ?_) (fun c28 => ?_)
  · refine s_iload_n X dX4_exponentAt_36 rfl 0 rfl ?_
    refine s_iret X Y dX4_exponentAt_37 (rfl) ?_
    refine ⟨?_, rfl⟩
    · (first | (exfalso; omega) | (unfold exv; first | rw [if_pos (by omega)] | rw [if_neg (by omega)]))
  · refine s_iload_n X dX4_exponentAt_31 rfl 0 rfl ?_
    refine s_ineg X dX4_exponentAt_32 ?_
    refine s_goto X 37 dX4_exponentAt_33 (by decide) ?_
    refine s_iret X Y dX4_exponentAt_37 (rfl) ?_
    refine ⟨?_, rfl⟩
    · (first | (exfalso; omega) | (unfold exv; first | rw [if_pos (by omega)] | rw [if_neg (by omega)]))
set_option maxRecDepth 100000 in
set_option maxHeartbeats 4000000 in
theorem c_X4_readText (l : Launch) (G : GX) (w : Nat) (base : Int) (b : Nat) (a : Nat) (n : Int) (rd : Int) (e : Int) (k : Nat) (x : Nat) (i8 : Nat) (d8 : Nat) (pl : Int) (af : Int) (wh : Int) (len : Int) (ror : Int) (rl : Int) (re : UInt64) (B : Nat → Nat) (t : Nat → Nat) (kd : Int) (i0 : Int) (hn : 0 ≤ n ∧ n ≤ 3000) (hBb : ∀ j, B j < 256) (he : e = 0 ∨ e = 1) (htb : ∀ j, t j < 256) (h0 : len = 0) (hi : 0 ≤ i0 ∧ i0 ≤ n) (hkd : 1 ≤ kd ∧ kd ≤ 10) : CtI l G yX4_readText cX4_readText 6 (some .int) ({ frames := 3, cells := 0, slots := 0, locals := 64 } : Room) [.ref w, .ref k, .int (iI kd), .int (iI i0)] [oWd w b base, oBy b a n rd e, aB G a 3000 B, oTk k pl af wh re x len i8 d8 ror rl, aB G x 401 t] (fun (z9 : Int) (w9 : va_W) => ∃ (af2 : Int), ∃ (wh2 : Int), ∃ (len2 : Int), ∃ (t2 : Nat → Nat), w9 = [oWd w b base, oBy b a n rd e, aB G a 3000 B, oTk k pl af2 wh2 re x len2 i8 d8 ror rl, aB G x 401 t2] ∧ (z9 = rtA (we B n i0) n e i0 kd) ∧ (z9 ≠ 0 → af2 = we B n i0) ∧ (0 < z9 → wh2 = we B n i0 - i0 ∧ len2 = we B n i0 - i0 ∧ bA t2 len2 = wd B i0 (we B n i0)) ∧ (0 ≤ len2 ∧ len2 ≤ 401) ∧ (∀ j, t2 j < 256)) := by
  intro sz
  refine met_of (fun wc sz => va_Qi (qI _) (posW G wc sz) (va_A wc sz)) (by decide) [(0, .ref w), (1, .ref k), (2, .int (iI kd)), (3, .int (iI i0))] rfl (Nat.le_of_ble_eq_true rfl) (fun K hK9 hnm X Y => ?_)
  subst hK9
  replace Y : RI K G (some .int) 0 0 _ := Y
  refine s_aload_n X dX4_readText_0 rfl 0 rfl ?_
  refine s_get X dX4_readText_1 fl_X4_15 0 rfl rfl ?_
  refine s_iload_n X dX4_readText_4 rfl 3 rfl ?_
  refine s_callIV X lk_X4_44 [1, 2] [0, 3, 4] (wr := [oWd w b base, oTk k pl af wh re x len i8 d8 ror rl, aB G x 401 t]) rfl rfl (by decide) (by decide) (by decide) (c_X1_wordEnd (kl K) G b a n rd e B i0 (by assumption) (by assumption) (by omega)) rfl rfl dX4_readText_5 rfl rfl (Nat.le_of_ble_eq_true rfl) (by decide) (fun z1 w1 h1 => ?_)
  obtain ⟨rfl, rfl⟩ := h1
  show SW K G 6 0 0 8 [(0, .ref w), (1, .ref k), (2, .int (iI kd)), (3, .int (iI i0))] [.int (iI (we B n i0))] [oWd w b base, oTk k pl af wh re x len i8 d8 ror rl, aB G x 401 t, oBy b a n rd e, aB G a 3000 B]
  have q2 := we_R (B := B) (n := n) _ i0 rfl (by omega)
  refine s_istore X dX4_readText_8 [(4, .int (iI (we B n i0))), (0, .ref w), (1, .ref k), (2, .int (iI kd)), (3, .int (iI i0))] (by decide) rfl ?_
  refine s_iload X dX4_readText_10 0 rfl ?_
  refine s_aload_n X dX4_readText_12 rfl 1 rfl ?_
  refine s_get X dX4_readText_13 fl_X4_15 0 rfl rfl ?_
  refine s_get X dX4_readText_16 fl_X4_47 3 rfl rfl ?_
  refine s_icmp_ne X 34 dX4_readText_19 (by decide) (by omega) (fun c19 => ?_) (fun c19 => ?_)
  · refine s_iload_n X dX4_readText_34 rfl 4 rfl ?_
    refine s_istore X dX4_readText_35 [(5, .int (iI i0)), (4, .int (iI (we B n i0))), (0, .ref w), (1, .ref k), (2, .int (iI kd)), (3, .int (iI i0))] (by decide) rfl ?_
    have lp : ∀ (m9 : Nat) (i : Int) (ln : Int) (tt : Nat → Nat) (h1 : i0 ≤ i ∧ i ≤ we B n i0) (hne : ¬ (we B n i0 = n ∧ e = 0)) (h2 : 0 ≤ ln ∧ ln ≤ 401 ∧ ln = (if 401 < i - i0 then 401 else i - i0)) (h3 : ∀ j, tt j < 256) (h4 : ∀ j : Int, 0 ≤ j → j < ln → tt j.toNat = B (i0 + j).toNat), (we B n i0 - i).toNat < m9 → SW K G 6 0 0 37 [(5, .int (iI i)), (4, .int (iI (we B n i0))), (0, .ref w), (1, .ref k), (2, .int (iI kd)), (3, .int (iI i0))] [] [oWd w b base, oTk k pl af wh re x ln i8 d8 ror rl, aB G x 401 tt, oBy b a n rd e, aB G a 3000 B] := by
      intro m9
      induction m9 with
      | zero => intro i ln tt h1 hne h2 h3 h4 hm9; exact absurd hm9 (Nat.not_lt_zero _)
      | succ m9 ih9 =>
        intro i ln tt h1 hne h2 h3 h4 hm9
        refine s_iload X dX4_readText_37 0 rfl ?_
        refine s_iload X dX4_readText_39 1 rfl ?_
        refine s_icmp_ge X 63 dX4_readText_41 (by decide) (by omega) (fun c41 => ?_) (fun c41 => ?_)
        · refine s_aload_n X dX4_readText_63 rfl 3 rfl ?_
          refine s_iload X dX4_readText_64 1 rfl ?_
          refine s_put X dX4_readText_66 fl_X4_58 tyX3_ok nmX3 1 rfl rfl (rfl) (rfl) (Nat.le_of_ble_eq_true rfl) [oWd w b base, oTk k pl (we B n i0) wh re x ln i8 d8 ror rl, aB G x 401 tt, oBy b a n rd e, aB G a 3000 B] rfl ?_
          refine s_aload_n X dX4_readText_69 rfl 3 rfl ?_
          refine s_iload_n X dX4_readText_70 rfl 4 rfl ?_
          refine s_bipush 100 X dX4_readText_71 (by decide) ?_
          refine s_callIV X lk_X4_61 [1] [0, 2, 3, 4] (wr := [oWd w b base, aB G x 401 tt, oBy b a n rd e, aB G a 3000 B]) rfl rfl (by decide) (by decide) (by decide) (c_X3_asText (kl K) G k x i8 d8 pl (we B n i0) wh ln ror rl re kd 100 (by omega) (by omega)) rfl rfl dX4_readText_73 rfl rfl (Nat.le_of_ble_eq_true rfl) (by decide) (fun z3 w3 h3 => ?_)
          obtain ⟨rfl, rfl⟩ := h3
          show SW K G 6 0 0 76 [(5, .int (iI i)), (4, .int (iI (we B n i0))), (0, .ref w), (1, .ref k), (2, .int (iI kd)), (3, .int (iI i0))] [.int (iI (if 100 < ln then -2 else kd))] [oWd w b base, aB G x 401 tt, oBy b a n rd e, aB G a 3000 B, oTk k pl (we B n i0) (if 100 < ln then wh else ln) re x ln i8 d8 ror rl]
          refine s_perm (ws' := [oWd w b base, oBy b a n rd e, aB G a 3000 B, oTk k pl (we B n i0) (if 100 < ln then wh else ln) re x ln i8 d8 ror rl, aB G x 401 tt]) [0, 2, 3, 4, 1] (by decide) rfl rfl ?_
          refine s_iret X Y dX4_readText_76 (rfl) ?_
          refine ⟨(we B n i0), (if 100 < ln then wh else ln), ln, tt, rfl, ?_, ?_, ?_, ?_, ?_⟩
          · (first | (exfalso; omega) | (rw [rtA, if_neg hne]; split <;> split <;> omega))
          · (first | (exfalso; omega) | (intro _; rfl))
          · (first | (exfalso; omega) | (intro h; have h9 : ¬ 100 < ln := (by intro h8; rw [if_pos h8] at h; exact absurd h (by decide)); have e9 : ln = we B n i0 - i0 := (by have h7 := h2.2.2; split at h7 <;> omega); exact ⟨by rw [if_neg h9]; exact e9, e9, wd_of e9 h4⟩))
          · (first | (exfalso; omega) | (omega))
          · (first | (exfalso; omega) | (assumption))
        · refine s_aload_n X dX4_readText_44 rfl 3 rfl ?_
          refine s_aload_n X dX4_readText_45 rfl 2 rfl ?_
          refine s_get X dX4_readText_46 fl_X4_15 0 rfl rfl ?_
          refine s_iload X dX4_readText_49 0 rfl ?_
          refine s_callIV X lk_X4_24 [3, 4] [0, 1, 2] (wr := [oWd w b base, oTk k pl af wh re x ln i8 d8 ror rl, aB G x 401 tt]) rfl rfl (by decide) (by decide) (by decide) (c_X1_at (kl K) G b a n rd e B i (by assumption) (by assumption) (by omega)) rfl rfl dX4_readText_51 rfl rfl (Nat.le_of_ble_eq_true rfl) (by decide) (fun z4 w4 h4 => ?_)
          obtain ⟨rfl, rfl⟩ := h4
          show SW K G 6 0 0 54 [(5, .int (iI i)), (4, .int (iI (we B n i0))), (0, .ref w), (1, .ref k), (2, .int (iI kd)), (3, .int (iI i0))] [.int (iI (bA B n i)), .ref k] [oWd w b base, oTk k pl af wh re x ln i8 d8 ror rl, aB G x 401 tt, oBy b a n rd e, aB G a 3000 B]
          have q5 := bA_C n i (by assumption : ∀ j, B j < 256)
          refine s_callVV X lk_X4_54 [1, 2] [0, 3, 4] (wr := [oWd w b base, oBy b a n rd e, aB G a 3000 B]) rfl rfl (by decide) (by decide) (by decide) (c_X3_put (kl K) G k x i8 d8 pl af wh ln ror rl re tt (bA B n i) (by omega)) rfl rfl dX4_readText_54 rfl rfl (Nat.le_of_ble_eq_true rfl) (by decide) (fun w6 h6 => ?_)
          obtain rfl := h6
          show SW K G 6 0 0 57 [(5, .int (iI i)), (4, .int (iI (we B n i0))), (0, .ref w), (1, .ref k), (2, .int (iI kd)), (3, .int (iI i0))] [] [oWd w b base, oBy b a n rd e, aB G a 3000 B, oTk k pl af wh re x (putL ln) i8 d8 ror rl, aB G x 401 (putT tt ln (bA B n i))]
          have q7 := putL_R (len := ln) (by omega)
          refine s_iinc (z := i + 1) X dX4_readText_57 0 rfl (by first | rfl | omega) [(5, .int (iI (i + 1))), (4, .int (iI (we B n i0))), (0, .ref w), (1, .ref k), (2, .int (iI kd)), (3, .int (iI i0))] (by decide) rfl ?_
          refine s_goto X 37 dX4_readText_60 (by decide) ?_
          refine s_perm (ws' := [oWd w b base, oTk k pl af wh re x (putL ln) i8 d8 ror rl, aB G x 401 (putT tt ln (bA B n i)), oBy b a n rd e, aB G a 3000 B]) [0, 3, 4, 1, 2] (by decide) rfl rfl ?_
          exact ih9 (i + 1) (putL ln) (putT tt ln (bA B n i)) (by omega) (by omega) (by unfold putL; split <;> (refine ⟨by omega, by omega, ?_⟩) <;> split <;> omega) (putT_lt h3) (rt_step hBb ⟨by omega, by omega, by omega⟩ h2.2.2 h4) (by omega)
    exact lp _ i0 len t (by omega) (by omega) (by subst h0; refine ⟨by omega, by omega, ?_⟩; split <;> omega) (by assumption) (fun j _ _ => by omega) (Nat.lt_succ_self _)
  · refine s_aload_n X dX4_readText_22 rfl 1 rfl ?_
    refine s_get X dX4_readText_23 fl_X4_15 0 rfl rfl ?_
    refine s_get X dX4_readText_26 fl_X4_50 3 rfl rfl ?_
    refine s_if_ne X 34 dX4_readText_29 (by decide) (by omega) (fun c29 => ?_) (fun c29 => ?_)
    · refine s_iload_n X dX4_readText_34 rfl 4 rfl ?_
      refine s_istore X dX4_readText_35 [(5, .int (iI i0)), (4, .int (iI (we B n i0))), (0, .ref w), (1, .ref k), (2, .int (iI kd)), (3, .int (iI i0))] (by decide) rfl ?_
      have lp : ∀ (m9 : Nat) (i : Int) (ln : Int) (tt : Nat → Nat) (h1 : i0 ≤ i ∧ i ≤ we B n i0) (hne : ¬ (we B n i0 = n ∧ e = 0)) (h2 : 0 ≤ ln ∧ ln ≤ 401 ∧ ln = (if 401 < i - i0 then 401 else i - i0)) (h3 : ∀ j, tt j < 256) (h4 : ∀ j : Int, 0 ≤ j → j < ln → tt j.toNat = B (i0 + j).toNat), (we B n i0 - i).toNat < m9 → SW K G 6 0 0 37 [(5, .int (iI i)), (4, .int (iI (we B n i0))), (0, .ref w), (1, .ref k), (2, .int (iI kd)), (3, .int (iI i0))] [] [oWd w b base, oTk k pl af wh re x ln i8 d8 ror rl, aB G x 401 tt, oBy b a n rd e, aB G a 3000 B] := by
        intro m9
        induction m9 with
        | zero => intro i ln tt h1 hne h2 h3 h4 hm9; exact absurd hm9 (Nat.not_lt_zero _)
        | succ m9 ih9 =>
          intro i ln tt h1 hne h2 h3 h4 hm9
          refine s_iload X dX4_readText_37 0 rfl ?_
          refine s_iload X dX4_readText_39 1 rfl ?_
          refine s_icmp_ge X 63 dX4_readText_41 (by decide) (by omega) (fun c41 => ?_) (fun c41 => ?_)
          · refine s_aload_n X dX4_readText_63 rfl 3 rfl ?_
            refine s_iload X dX4_readText_64 1 rfl ?_
            refine s_put X dX4_readText_66 fl_X4_58 tyX3_ok nmX3 1 rfl rfl (rfl) (rfl) (Nat.le_of_ble_eq_true rfl) [oWd w b base, oTk k pl (we B n i0) wh re x ln i8 d8 ror rl, aB G x 401 tt, oBy b a n rd e, aB G a 3000 B] rfl ?_
            refine s_aload_n X dX4_readText_69 rfl 3 rfl ?_
            refine s_iload_n X dX4_readText_70 rfl 4 rfl ?_
            refine s_bipush 100 X dX4_readText_71 (by decide) ?_
            refine s_callIV X lk_X4_61 [1] [0, 2, 3, 4] (wr := [oWd w b base, aB G x 401 tt, oBy b a n rd e, aB G a 3000 B]) rfl rfl (by decide) (by decide) (by decide) (c_X3_asText (kl K) G k x i8 d8 pl (we B n i0) wh ln ror rl re kd 100 (by omega) (by omega)) rfl rfl dX4_readText_73 rfl rfl (Nat.le_of_ble_eq_true rfl) (by decide) (fun z8 w8 h8 => ?_)
            obtain ⟨rfl, rfl⟩ := h8
            show SW K G 6 0 0 76 [(5, .int (iI i)), (4, .int (iI (we B n i0))), (0, .ref w), (1, .ref k), (2, .int (iI kd)), (3, .int (iI i0))] [.int (iI (if 100 < ln then -2 else kd))] [oWd w b base, aB G x 401 tt, oBy b a n rd e, aB G a 3000 B, oTk k pl (we B n i0) (if 100 < ln then wh else ln) re x ln i8 d8 ror rl]
            refine s_perm (ws' := [oWd w b base, oBy b a n rd e, aB G a 3000 B, oTk k pl (we B n i0) (if 100 < ln then wh else ln) re x ln i8 d8 ror rl, aB G x 401 tt]) [0, 2, 3, 4, 1] (by decide) rfl rfl ?_
            refine s_iret X Y dX4_readText_76 (rfl) ?_
            refine ⟨(we B n i0), (if 100 < ln then wh else ln), ln, tt, rfl, ?_, ?_, ?_, ?_, ?_⟩
            · (first | (exfalso; omega) | (rw [rtA, if_neg hne]; split <;> split <;> omega))
            · (first | (exfalso; omega) | (intro _; rfl))
            · (first | (exfalso; omega) | (intro h; have h9 : ¬ 100 < ln := (by intro h8; rw [if_pos h8] at h; exact absurd h (by decide)); have e9 : ln = we B n i0 - i0 := (by have h7 := h2.2.2; split at h7 <;> omega); exact ⟨by rw [if_neg h9]; exact e9, e9, wd_of e9 h4⟩))
            · (first | (exfalso; omega) | (omega))
            · (first | (exfalso; omega) | (assumption))
          · refine s_aload_n X dX4_readText_44 rfl 3 rfl ?_
            refine s_aload_n X dX4_readText_45 rfl 2 rfl ?_
            refine s_get X dX4_readText_46 fl_X4_15 0 rfl rfl ?_
            refine s_iload X dX4_readText_49 0 rfl ?_
            refine s_callIV X lk_X4_24 [3, 4] [0, 1, 2] (wr := [oWd w b base, oTk k pl af wh re x ln i8 d8 ror rl, aB G x 401 tt]) rfl rfl (by decide) (by decide) (by decide) (c_X1_at (kl K) G b a n rd e B i (by assumption) (by assumption) (by omega)) rfl rfl dX4_readText_51 rfl rfl (Nat.le_of_ble_eq_true rfl) (by decide) (fun z9 w9 h9 => ?_)
            obtain ⟨rfl, rfl⟩ := h9
            show SW K G 6 0 0 54 [(5, .int (iI i)), (4, .int (iI (we B n i0))), (0, .ref w), (1, .ref k), (2, .int (iI kd)), (3, .int (iI i0))] [.int (iI (bA B n i)), .ref k] [oWd w b base, oTk k pl af wh re x ln i8 d8 ror rl, aB G x 401 tt, oBy b a n rd e, aB G a 3000 B]
            have q10 := bA_C n i (by assumption : ∀ j, B j < 256)
            refine s_callVV X lk_X4_54 [1, 2] [0, 3, 4] (wr := [oWd w b base, oBy b a n rd e, aB G a 3000 B]) rfl rfl (by decide) (by decide) (by decide) (c_X3_put (kl K) G k x i8 d8 pl af wh ln ror rl re tt (bA B n i) (by omega)) rfl rfl dX4_readText_54 rfl rfl (Nat.le_of_ble_eq_true rfl) (by decide) (fun w11 h11 => ?_)
            obtain rfl := h11
            show SW K G 6 0 0 57 [(5, .int (iI i)), (4, .int (iI (we B n i0))), (0, .ref w), (1, .ref k), (2, .int (iI kd)), (3, .int (iI i0))] [] [oWd w b base, oBy b a n rd e, aB G a 3000 B, oTk k pl af wh re x (putL ln) i8 d8 ror rl, aB G x 401 (putT tt ln (bA B n i))]
            have q12 := putL_R (len := ln) (by omega)
            refine s_iinc (z := i + 1) X dX4_readText_57 0 rfl (by first | rfl | omega) [(5, .int (iI (i + 1))), (4, .int (iI (we B n i0))), (0, .ref w), (1, .ref k), (2, .int (iI kd)), (3, .int (iI i0))] (by decide) rfl ?_
            refine s_goto X 37 dX4_readText_60 (by decide) ?_
            refine s_perm (ws' := [oWd w b base, oTk k pl af wh re x (putL ln) i8 d8 ror rl, aB G x 401 (putT tt ln (bA B n i)), oBy b a n rd e, aB G a 3000 B]) [0, 3, 4, 1, 2] (by decide) rfl rfl ?_
            exact ih9 (i + 1) (putL ln) (putT tt ln (bA B n i)) (by omega) (by omega) (by unfold putL; split <;> (refine ⟨by omega, by omega, ?_⟩) <;> split <;> omega) (putT_lt h3) (rt_step hBb ⟨by omega, by omega, by omega⟩ h2.2.2 h4) (by omega)
      exact lp _ i0 len t (by omega) (by omega) (by subst h0; refine ⟨by omega, by omega, ?_⟩; split <;> omega) (by assumption) (fun j _ _ => by omega) (Nat.lt_succ_self _)
    · refine s_iconst X dX4_readText_32 ?_
      refine s_perm (ws' := [oWd w b base, oBy b a n rd e, aB G a 3000 B, oTk k pl af wh re x len i8 d8 ror rl, aB G x 401 t]) [0, 3, 4, 1, 2] (by decide) rfl rfl ?_
      refine s_iret X Y dX4_readText_33 (rfl) ?_
      refine ⟨af, wh, len, t, rfl, ?_, ?_, ?_, ?_, ?_⟩
      · (first | (exfalso; omega) | (unfold rtA; rw [if_pos (by omega)]))
      · (first | (exfalso; omega) | (intro h; exact absurd rfl h))
      · (first | (exfalso; omega) | (intro h; exact absurd h (by decide)))
      · (first | (exfalso; omega) | (omega))
      · (first | (exfalso; omega) | (assumption))
set_option maxRecDepth 100000 in
set_option maxHeartbeats 4000000 in
theorem c_X4_readInteger (l : Launch) (G : GX) (b : Nat) (w : Nat) (base : Int) (k : Nat) (x : Nat) (i8 : Nat) (d8 : Nat) (pl : Int) (af : Int) (wh : Int) (len : Int) (ror : Int) (rl : Int) (re : UInt64) (t : Nat → Nat) (hlen : 0 ≤ len ∧ len ≤ 401) (htb : ∀ j, t j < 256) : CtI l G yX4_readInteger cX4_readInteger 7 (some .int) ({ frames := 2, cells := 0, slots := 0, locals := 49 } : Room) [.ref w, .ref k] [oWd w b base, oTk k pl af wh re x len i8 d8 ror rl, aB G x 401 t] (fun (z9 : Int) (w9 : va_W) => ∃ (base2 : Int), ∃ (wh2 : Int), ∃ (len2 : Int), z9 = (riA (bA t len) len) ∧ w9 = [oWd w b base2, oTk k pl af wh2 re x len2 i8 d8 ror rl, aB G x 401 t] ∧ (z9 = 1 → base2 = 10 ∧ wh2 = riV (bA t len) len ∧ len2 = 0) ∧ (z9 ≠ 1 → base2 = base ∧ wh2 = wh ∧ len2 = len)) := by
  intro sz
  refine met_of (fun wc sz => va_Qi (qI _) (posW G wc sz) (va_A wc sz)) (by decide) [(0, .ref w), (1, .ref k)] rfl (Nat.le_of_ble_eq_true rfl) (fun K hK9 hnm X Y => ?_)
  subst hK9
  replace Y : RI K G (some .int) 0 0 _ := Y
  have eS : riS (bA t len) len = vo (bA t len) 10 (bs (bA t len) 0) len 0 := rfl
  refine s_aload_n X dX4_readInteger_0 rfl 1 rfl ?_
  refine s_iconst X dX4_readInteger_1 ?_
  refine s_callIS X lk_X4_65 [1, 2] [0] (wr := [oWd w b base]) rfl rfl (by decide) (by decide) (by decide) (c_X4_behindSign (kl K) G k x i8 d8 pl af wh len ror rl re t 0 (by omega) (by assumption) (by omega)) dX4_readInteger_2 rfl rfl (Nat.le_of_ble_eq_true rfl) (by decide) (fun z1 w1 h1 => ?_)
  obtain ⟨rfl, rfl⟩ := h1
  show SW K G 7 0 0 5 [(0, .ref w), (1, .ref k)] [.int (iI (bs (bA t len) 0))] [oWd w b base, oTk k pl af wh re x len i8 d8 ror rl, aB G x 401 t]
  have q2 := bs_R (bA t len) 0
  refine s_istore_n X dX4_readInteger_5 rfl [(2, .int (iI (bs (bA t len) 0))), (0, .ref w), (1, .ref k)] (by decide) rfl ?_
  refine s_iload_n X dX4_readInteger_6 rfl 0 rfl ?_
  refine s_aload_n X dX4_readInteger_7 rfl 2 rfl ?_
  refine s_get X dX4_readInteger_8 fl_X4_69 1 rfl rfl ?_
  refine s_icmp_eq X 28 dX4_readInteger_11 (by decide) (by omega) (fun c11 => ?_) (fun c11 => ?_)
  · refine s_iconst X dX4_readInteger_28 ?_
    refine s_iret X Y dX4_readInteger_29 (rfl) ?_
    refine ⟨base, wh, len, ?_, rfl, ?_, ?_⟩
    · (first | (exfalso; omega) | (unfold riA; rw [if_neg (by omega)]))
    · (first | (exfalso; omega) | (intro h; exact absurd h (by decide)))
    · (first | (exfalso; omega) | (intro _; exact ⟨rfl, rfl, rfl⟩))
  · refine s_aload_n X dX4_readInteger_14 rfl 2 rfl ?_
    refine s_iload_n X dX4_readInteger_15 rfl 0 rfl ?_
    refine s_bipush 10 X dX4_readInteger_16 (by decide) ?_
    refine s_callIS X lk_X4_72 [1, 2] [0] (wr := [oWd w b base]) rfl rfl (by decide) (by decide) (by decide) (c_X4_digitsEnd (kl K) G k x i8 d8 pl af wh len ror rl re t (bs (bA t len) 0) 10 (by omega) (by assumption) (by omega) (by omega)) dX4_readInteger_18 rfl rfl (Nat.le_of_ble_eq_true rfl) (by decide) (fun z3 w3 h3 => ?_)
    obtain ⟨rfl, rfl⟩ := h3
    show SW K G 7 0 0 21 [(2, .int (iI (bs (bA t len) 0))), (0, .ref w), (1, .ref k)] [.int (iI (de (bA t len) len 10 (bs (bA t len) 0)))] [oWd w b base, oTk k pl af wh re x len i8 d8 ror rl, aB G x 401 t]
    have q4 := de_C (bA t len) len 10 (bs (bA t len) 0)
    refine s_aload_n X dX4_readInteger_21 rfl 2 rfl ?_
    refine s_get X dX4_readInteger_22 fl_X4_69 1 rfl rfl ?_
    refine s_icmp_eq X 30 dX4_readInteger_25 (by decide) (by omega) (fun c25 => ?_) (fun c25 => ?_)
    · refine s_aload_n X dX4_readInteger_30 rfl 2 rfl ?_
      refine s_iload_n X dX4_readInteger_31 rfl 0 rfl ?_
      refine s_aload_n X dX4_readInteger_32 rfl 2 rfl ?_
      refine s_get X dX4_readInteger_33 fl_X4_69 1 rfl rfl ?_
      refine s_bipush 10 X dX4_readInteger_36 (by decide) ?_
      refine s_callLS X lk_X4_75 [1, 2] [0] (wr := [oWd w b base]) rfl rfl (by decide) (by decide) (by decide) (c_X4_valueOf (kl K) G k x i8 d8 pl af wh len ror rl re t (bs (bA t len) 0) len 10 (by omega) (by assumption) (by omega) (by omega)) dX4_readInteger_38 rfl rfl (Nat.le_of_ble_eq_true rfl) (by decide) (fun z5 w5 h5 => ?_)
      obtain ⟨rfl, rfl⟩ := h5
      show SW K G 7 0 0 41 [(2, .int (iI (bs (bA t len) 0))), (0, .ref w), (1, .ref k)] [.long (lI (vo (bA t len) 10 (bs (bA t len) 0) len 0))] [oWd w b base, oTk k pl af wh re x len i8 d8 ror rl, aB G x 401 t]
      have q6 := vo_R (w := bA t len) (base := 10) (e := len) (by omega) _ (bs (bA t len) 0) 0 rfl (by omega)
      refine s_lstore_n X dX4_readInteger_41 rfl [(3, .long (lI (vo (bA t len) 10 (bs (bA t len) 0) len 0))), (2, .int (iI (bs (bA t len) 0))), (0, .ref w), (1, .ref k)] (by decide) rfl ?_
      refine s_aload_n X dX4_readInteger_42 rfl 3 rfl ?_
      refine s_iconst X dX4_readInteger_43 ?_
      refine s_callIV X lk_X4_79 [1, 2] [0] (wr := [oWd w b base]) rfl rfl (by decide) (by decide) (by decide) (c_X3_textAt (kl K) G k x i8 d8 pl af wh len ror rl re t 0 (by omega) (by assumption) (by omega)) rfl rfl dX4_readInteger_44 rfl rfl (Nat.le_of_ble_eq_true rfl) (by decide) (fun z7 w7 h7 => ?_)
      obtain ⟨rfl, rfl⟩ := h7
      show SW K G 7 0 0 47 [(3, .long (lI (vo (bA t len) 10 (bs (bA t len) 0) len 0))), (2, .int (iI (bs (bA t len) 0))), (0, .ref w), (1, .ref k)] [.int (iI (bA t len 0))] [oWd w b base, oTk k pl af wh re x len i8 d8 ror rl, aB G x 401 t]
      have q8 := bA_C len 0 (by assumption : ∀ j, t j < 256)
      refine s_bipush 45 X dX4_readInteger_47 (by decide) ?_
      have j58 : ∀ (y : Int) (hy : y = riV (bA t len) len), SW K G 7 0 0 58 [(3, .long (lI (vo (bA t len) 10 (bs (bA t len) 0) len 0))), (2, .int (iI (bs (bA t len) 0))), (0, .ref w), (1, .ref k)] [.long (lI y)] [oWd w b base, oTk k pl af wh re x len i8 d8 ror rl, aB G x 401 t] := by
        intro y hy
        have hy9 : riV (bA t len) len = riS (bA t len) len ∨ riV (bA t len) len = -riS (bA t len) len := by unfold riV; split <;> simp
        refine s_lstore X dX4_readInteger_58 [(5, .long (lI y)), (3, .long (lI (vo (bA t len) 10 (bs (bA t len) 0) len 0))), (2, .int (iI (bs (bA t len) 0))), (0, .ref w), (1, .ref k)] (by decide) rfl ?_
        refine s_lload X dX4_readInteger_60 0 rfl ?_
        refine s_ldc2 (-2147483648) X dX4_readInteger_62 tg492 (by decide) ?_
        refine s_lif_lt X 78 dX4_readInteger_65 dX4_readInteger_66 (by decide) (by omega) (fun c65 => ?_) (fun c65 => ?_)
        · refine s_iconst X dX4_readInteger_78 ?_
          refine s_iret X Y dX4_readInteger_79 (rfl) ?_
          refine ⟨base, wh, len, ?_, rfl, ?_, ?_⟩
          · (first | (exfalso; omega) | (unfold riA; rw [if_neg (by omega)]))
          · (first | (exfalso; omega) | (intro h; exact absurd h (by decide)))
          · (first | (exfalso; omega) | (intro _; exact ⟨rfl, rfl, rfl⟩))
        · refine s_lload X dX4_readInteger_69 0 rfl ?_
          refine s_ldc2 2147483647 X dX4_readInteger_71 tg493 (by decide) ?_
          refine s_lif_le X 80 dX4_readInteger_74 dX4_readInteger_75 (by decide) (by omega) (fun c74 => ?_) (fun c74 => ?_)
          · refine s_aload_n X dX4_readInteger_80 rfl 3 rfl ?_
            refine s_bipush 10 X dX4_readInteger_81 (by decide) ?_
            refine s_put X dX4_readInteger_83 fl_X4_9 tyX4_ok nmX4 0 rfl rfl (rfl) (rfl) (Nat.le_of_ble_eq_true rfl) [oWd w b 10, oTk k pl af wh re x len i8 d8 ror rl, aB G x 401 t] rfl ?_
            refine s_aload_n X dX4_readInteger_86 rfl 4 rfl ?_
            refine s_iconst X dX4_readInteger_87 ?_
            refine s_lload X dX4_readInteger_88 0 rfl ?_
            refine s_callIV X lk_X4_86 [1] [0, 2] (wr := [oWd w b 10, aB G x 401 t]) rfl rfl (by decide) (by decide) (by decide) (c_X3_asWhole (kl K) G k x i8 d8 pl af wh len ror rl re 1 y) rfl rfl dX4_readInteger_90 rfl rfl (Nat.le_of_ble_eq_true rfl) (by decide) (fun z9 w9 h9 => ?_)
            obtain ⟨rfl, rfl⟩ := h9
            show SW K G 7 0 0 93 [(5, .long (lI y)), (3, .long (lI (vo (bA t len) 10 (bs (bA t len) 0) len 0))), (2, .int (iI (bs (bA t len) 0))), (0, .ref w), (1, .ref k)] [.int (iI 1)] [oWd w b 10, aB G x 401 t, oTk k pl af y re x 0 i8 d8 ror rl]
            refine s_perm (ws' := [oWd w b 10, oTk k pl af y re x 0 i8 d8 ror rl, aB G x 401 t]) [0, 2, 1] (by decide) rfl rfl ?_
            refine s_iret X Y dX4_readInteger_93 (rfl) ?_
            refine ⟨10, y, 0, ?_, rfl, ?_, ?_⟩
            · (first | (exfalso; omega) | (unfold riA; rw [if_pos (by refine ⟨?_, ?_, ?_, ?_⟩ <;> omega)]))
            · (first | (exfalso; omega) | (intro _; exact ⟨rfl, hy, rfl⟩))
            · (first | (exfalso; omega) | (intro h; exact absurd rfl h))
          · refine s_iconst X dX4_readInteger_78 ?_
            refine s_iret X Y dX4_readInteger_79 (rfl) ?_
            refine ⟨base, wh, len, ?_, rfl, ?_, ?_⟩
            · (first | (exfalso; omega) | (unfold riA; rw [if_neg (by omega)]))
            · (first | (exfalso; omega) | (intro h; exact absurd h (by decide)))
            · (first | (exfalso; omega) | (intro _; exact ⟨rfl, rfl, rfl⟩))
      refine s_icmp_ne X 57 dX4_readInteger_49 (by decide) (by omega) (fun c49 => ?_) (fun c49 => ?_)
      · refine s_lload_n X dX4_readInteger_57 rfl 0 rfl ?_
        exact j58 (vo (bA t len) 10 (bs (bA t len) 0) len 0) (by unfold riV; first | rw [if_pos (by assumption), eS] | rw [if_neg (by assumption), eS])
      · refine s_lload_n X dX4_readInteger_52 rfl 0 rfl ?_
        refine s_lneg X dX4_readInteger_53 ?_
        refine s_goto X 58 dX4_readInteger_54 (by decide) ?_
        exact j58 (-(vo (bA t len) 10 (bs (bA t len) 0) len 0)) (by unfold riV; first | rw [if_pos (by assumption), eS] | rw [if_neg (by assumption), eS])
    · refine s_iconst X dX4_readInteger_28 ?_
      refine s_iret X Y dX4_readInteger_29 (rfl) ?_
      refine ⟨base, wh, len, ?_, rfl, ?_, ?_⟩
      · (first | (exfalso; omega) | (unfold riA; rw [if_neg (by omega)]))
      · (first | (exfalso; omega) | (intro h; exact absurd h (by decide)))
      · (first | (exfalso; omega) | (intro _; exact ⟨rfl, rfl, rfl⟩))
set_option maxRecDepth 100000 in
set_option maxHeartbeats 4000000 in
theorem c_X4_readWithBase (l : Launch) (G : GX) (b : Nat) (w : Nat) (base : Int) (k : Nat) (x : Nat) (i8 : Nat) (d8 : Nat) (pl : Int) (af : Int) (wh : Int) (len : Int) (ror : Int) (rl : Int) (re : UInt64) (t : Nat → Nat) (hlen : 0 ≤ len ∧ len ≤ 401) (htb : ∀ j, t j < 256) : CtI l G yX4_readWithBase cX4_readWithBase 7 (some .int) ({ frames := 2, cells := 0, slots := 0, locals := 49 } : Room) [.ref w, .ref k] [oWd w b base, oTk k pl af wh re x len i8 d8 ror rl, aB G x 401 t] (fun (z9 : Int) (w9 : va_W) => ∃ (base2 : Int), ∃ (wh2 : Int), ∃ (len2 : Int), z9 = (rbA (bA t len) len) ∧ w9 = [oWd w b base2, oTk k pl af wh2 re x len2 i8 d8 ror rl, aB G x 401 t] ∧ (z9 = 1 → base2 = rbB (bA t len) len ∧ wh2 = rbV (bA t len) len ∧ len2 = 0) ∧ (z9 ≠ 1 → base2 = base ∧ wh2 = wh ∧ len2 = len)) := by
  intro sz
  refine met_of (fun wc sz => va_Qi (qI _) (posW G wc sz) (va_A wc sz)) (by decide) [(0, .ref w), (1, .ref k)] rfl (Nat.le_of_ble_eq_true rfl) (fun K hK9 hnm X Y => ?_)
  subst hK9
  replace Y : RI K G (some .int) 0 0 _ := Y
  have eM : rbM (bA t len) len = de (bA t len) len 10 0 := rfl
  have eB : rbB (bA t len) len = vo (bA t len) 10 0 (de (bA t len) len 10 0) 0 := rfl
  have eS : rbS (bA t len) len = vo (bA t len) (vo (bA t len) 10 0 (de (bA t len) len 10 0) 0) (de (bA t len) len 10 0 + 1) len 0 := rfl
  have eC : rbC (bA t len) len ↔ (1 ≤ de (bA t len) len 10 0 ∧ de (bA t len) len 10 0 ≤ 2 ∧ bA t len (de (bA t len) len 10 0) = 35 ∧ 2 ≤ vo (bA t len) 10 0 (de (bA t len) len 10 0) 0 ∧ vo (bA t len) 10 0 (de (bA t len) len 10 0) 0 ≤ 36 ∧ de (bA t len) len 10 0 + 1 ≠ len ∧ de (bA t len) len (vo (bA t len) 10 0 (de (bA t len) len 10 0) 0) (de (bA t len) len 10 0 + 1) = len) := Iff.rfl
  refine s_aload_n X dX4_readWithBase_0 rfl 1 rfl ?_
  refine s_iconst X dX4_readWithBase_1 ?_
  refine s_bipush 10 X dX4_readWithBase_2 (by decide) ?_
  refine s_callIS X lk_X4_72 [1, 2] [0] (wr := [oWd w b base]) rfl rfl (by decide) (by decide) (by decide) (c_X4_digitsEnd (kl K) G k x i8 d8 pl af wh len ror rl re t 0 10 (by omega) (by assumption) (by omega) (by omega)) dX4_readWithBase_4 rfl rfl (Nat.le_of_ble_eq_true rfl) (by decide) (fun z1 w1 h1 => ?_)
  obtain ⟨rfl, rfl⟩ := h1
  show SW K G 7 0 0 7 [(0, .ref w), (1, .ref k)] [.int (iI (de (bA t len) len 10 0))] [oWd w b base, oTk k pl af wh re x len i8 d8 ror rl, aB G x 401 t]
  have q2 := de_C (bA t len) len 10 0
  refine s_istore_n X dX4_readWithBase_7 rfl [(2, .int (iI (de (bA t len) len 10 0))), (0, .ref w), (1, .ref k)] (by decide) rfl ?_
  refine s_iload_n X dX4_readWithBase_8 rfl 0 rfl ?_
  refine s_iconst X dX4_readWithBase_9 ?_
  refine s_icmp_lt X 28 dX4_readWithBase_10 (by decide) (by omega) (fun c10 => ?_) (fun c10 => ?_)
  · refine s_iconst X dX4_readWithBase_28 ?_
    refine s_iret X Y dX4_readWithBase_29 (rfl) ?_
    refine ⟨base, wh, len, ?_, rfl, ?_, ?_⟩
    · (first | (exfalso; omega) | (unfold rbA; rw [if_neg (by rw [eC]; omega)]))
    · (first | (exfalso; omega) | (intro h; exact absurd h (by decide)))
    · (first | (exfalso; omega) | (intro _; exact ⟨rfl, rfl, rfl⟩))
  · refine s_iload_n X dX4_readWithBase_13 rfl 0 rfl ?_
    refine s_iconst X dX4_readWithBase_14 ?_
    refine s_icmp_gt X 28 dX4_readWithBase_15 (by decide) (by omega) (fun c15 => ?_) (fun c15 => ?_)
    · refine s_iconst X dX4_readWithBase_28 ?_
      refine s_iret X Y dX4_readWithBase_29 (rfl) ?_
      refine ⟨base, wh, len, ?_, rfl, ?_, ?_⟩
      · (first | (exfalso; omega) | (unfold rbA; rw [if_neg (by rw [eC]; omega)]))
      · (first | (exfalso; omega) | (intro h; exact absurd h (by decide)))
      · (first | (exfalso; omega) | (intro _; exact ⟨rfl, rfl, rfl⟩))
    · refine s_aload_n X dX4_readWithBase_18 rfl 2 rfl ?_
      refine s_iload_n X dX4_readWithBase_19 rfl 0 rfl ?_
      refine s_callIV X lk_X4_79 [1, 2] [0] (wr := [oWd w b base]) rfl rfl (by decide) (by decide) (by decide) (c_X3_textAt (kl K) G k x i8 d8 pl af wh len ror rl re t (de (bA t len) len 10 0) (by omega) (by assumption) (by omega)) rfl rfl dX4_readWithBase_20 rfl rfl (Nat.le_of_ble_eq_true rfl) (by decide) (fun z3 w3 h3 => ?_)
      obtain ⟨rfl, rfl⟩ := h3
      show SW K G 7 0 0 23 [(2, .int (iI (de (bA t len) len 10 0))), (0, .ref w), (1, .ref k)] [.int (iI (bA t len (de (bA t len) len 10 0)))] [oWd w b base, oTk k pl af wh re x len i8 d8 ror rl, aB G x 401 t]
      have q4 := bA_C len (de (bA t len) len 10 0) (by assumption : ∀ j, t j < 256)
      refine s_bipush 35 X dX4_readWithBase_23 (by decide) ?_
      refine s_icmp_eq X 30 dX4_readWithBase_25 (by decide) (by omega) (fun c25 => ?_) (fun c25 => ?_)
      · refine s_iload_n X dX4_readWithBase_30 rfl 0 rfl ?_
        refine s_iconst X dX4_readWithBase_31 ?_
        refine s_iadd X dX4_readWithBase_32 ?_
        refine s_istore_n X dX4_readWithBase_33 rfl [(3, .int (iI ((de (bA t len) len 10 0) + 1))), (2, .int (iI (de (bA t len) len 10 0))), (0, .ref w), (1, .ref k)] (by decide) rfl ?_
        refine s_aload_n X dX4_readWithBase_34 rfl 3 rfl ?_
        refine s_iconst X dX4_readWithBase_35 ?_
        refine s_iload_n X dX4_readWithBase_36 rfl 1 rfl ?_
        refine s_bipush 10 X dX4_readWithBase_37 (by decide) ?_
        refine s_callLS X lk_X4_75 [1, 2] [0] (wr := [oWd w b base]) rfl rfl (by decide) (by decide) (by decide) (c_X4_valueOf (kl K) G k x i8 d8 pl af wh len ror rl re t 0 (de (bA t len) len 10 0) 10 (by omega) (by assumption) (by omega) (by omega)) dX4_readWithBase_39 rfl rfl (Nat.le_of_ble_eq_true rfl) (by decide) (fun z5 w5 h5 => ?_)
        obtain ⟨rfl, rfl⟩ := h5
        show SW K G 7 0 0 42 [(3, .int (iI ((de (bA t len) len 10 0) + 1))), (2, .int (iI (de (bA t len) len 10 0))), (0, .ref w), (1, .ref k)] [.long (lI (vo (bA t len) 10 0 (de (bA t len) len 10 0) 0))] [oWd w b base, oTk k pl af wh re x len i8 d8 ror rl, aB G x 401 t]
        have q6 := vo_R (w := bA t len) (base := 10) (e := (de (bA t len) len 10 0)) (by omega) _ 0 0 rfl (by omega)
        have v99 := vo_99 (w := (bA t len)) (len := len) (by omega) (by omega)
        refine s_l2i X dX4_readWithBase_42 ?_
        refine s_istore X dX4_readWithBase_43 [(4, .int (iI (vo (bA t len) 10 0 (de (bA t len) len 10 0) 0))), (3, .int (iI ((de (bA t len) len 10 0) + 1))), (2, .int (iI (de (bA t len) len 10 0))), (0, .ref w), (1, .ref k)] (by decide) rfl ?_
        refine s_iload X dX4_readWithBase_45 0 rfl ?_
        refine s_iconst X dX4_readWithBase_47 ?_
        refine s_icmp_lt X 80 dX4_readWithBase_48 (by decide) (by omega) (fun c48 => ?_) (fun c48 => ?_)
        · refine s_iconst X dX4_readWithBase_80 ?_
          refine s_iret X Y dX4_readWithBase_81 (rfl) ?_
          refine ⟨base, wh, len, ?_, rfl, ?_, ?_⟩
          · (first | (exfalso; omega) | (unfold rbA; rw [if_neg (by rw [eC]; omega)]))
          · (first | (exfalso; omega) | (intro h; exact absurd h (by decide)))
          · (first | (exfalso; omega) | (intro _; exact ⟨rfl, rfl, rfl⟩))
        · refine s_iload X dX4_readWithBase_51 0 rfl ?_
          refine s_bipush 36 X dX4_readWithBase_53 (by decide) ?_
          refine s_icmp_gt X 80 dX4_readWithBase_55 (by decide) (by omega) (fun c55 => ?_) (fun c55 => ?_)
          · refine s_iconst X dX4_readWithBase_80 ?_
            refine s_iret X Y dX4_readWithBase_81 (rfl) ?_
            refine ⟨base, wh, len, ?_, rfl, ?_, ?_⟩
            · (first | (exfalso; omega) | (unfold rbA; rw [if_neg (by rw [eC]; omega)]))
            · (first | (exfalso; omega) | (intro h; exact absurd h (by decide)))
            · (first | (exfalso; omega) | (intro _; exact ⟨rfl, rfl, rfl⟩))
          · refine s_iload_n X dX4_readWithBase_58 rfl 1 rfl ?_
            refine s_aload_n X dX4_readWithBase_59 rfl 4 rfl ?_
            refine s_get X dX4_readWithBase_60 fl_X4_69 1 rfl rfl ?_
            refine s_icmp_eq X 80 dX4_readWithBase_63 (by decide) (by omega) (fun c63 => ?_) (fun c63 => ?_)
            · refine s_iconst X dX4_readWithBase_80 ?_
              refine s_iret X Y dX4_readWithBase_81 (rfl) ?_
              refine ⟨base, wh, len, ?_, rfl, ?_, ?_⟩
              · (first | (exfalso; omega) | (unfold rbA; rw [if_neg (by rw [eC]; omega)]))
              · (first | (exfalso; omega) | (intro h; exact absurd h (by decide)))
              · (first | (exfalso; omega) | (intro _; exact ⟨rfl, rfl, rfl⟩))
            · refine s_aload_n X dX4_readWithBase_66 rfl 4 rfl ?_
              refine s_iload_n X dX4_readWithBase_67 rfl 1 rfl ?_
              refine s_iload X dX4_readWithBase_68 0 rfl ?_
              refine s_callIS X lk_X4_72 [1, 2] [0] (wr := [oWd w b base]) rfl rfl (by decide) (by decide) (by decide) (c_X4_digitsEnd (kl K) G k x i8 d8 pl af wh len ror rl re t ((de (bA t len) len 10 0) + 1) (vo (bA t len) 10 0 (de (bA t len) len 10 0) 0) (by omega) (by assumption) (by omega) (by omega)) dX4_readWithBase_70 rfl rfl (Nat.le_of_ble_eq_true rfl) (by decide) (fun z7 w7 h7 => ?_)
              obtain ⟨rfl, rfl⟩ := h7
              show SW K G 7 0 0 73 [(4, .int (iI (vo (bA t len) 10 0 (de (bA t len) len 10 0) 0))), (3, .int (iI ((de (bA t len) len 10 0) + 1))), (2, .int (iI (de (bA t len) len 10 0))), (0, .ref w), (1, .ref k)] [.int (iI (de (bA t len) len (vo (bA t len) 10 0 (de (bA t len) len 10 0) 0) ((de (bA t len) len 10 0) + 1)))] [oWd w b base, oTk k pl af wh re x len i8 d8 ror rl, aB G x 401 t]
              have q8 := de_C (bA t len) len (vo (bA t len) 10 0 (de (bA t len) len 10 0) 0) ((de (bA t len) len 10 0) + 1)
              refine s_aload_n X dX4_readWithBase_73 rfl 4 rfl ?_
              refine s_get X dX4_readWithBase_74 fl_X4_69 1 rfl rfl ?_
              refine s_icmp_eq X 82 dX4_readWithBase_77 (by decide) (by omega) (fun c77 => ?_) (fun c77 => ?_)
              · refine s_aload_n X dX4_readWithBase_82 rfl 4 rfl ?_
                refine s_iload_n X dX4_readWithBase_83 rfl 1 rfl ?_
                refine s_aload_n X dX4_readWithBase_84 rfl 4 rfl ?_
                refine s_get X dX4_readWithBase_85 fl_X4_69 1 rfl rfl ?_
                refine s_iload X dX4_readWithBase_88 0 rfl ?_
                refine s_callLS X lk_X4_75 [1, 2] [0] (wr := [oWd w b base]) rfl rfl (by decide) (by decide) (by decide) (c_X4_valueOf (kl K) G k x i8 d8 pl af wh len ror rl re t ((de (bA t len) len 10 0) + 1) len (vo (bA t len) 10 0 (de (bA t len) len 10 0) 0) (by omega) (by assumption) (by omega) (by omega)) dX4_readWithBase_90 rfl rfl (Nat.le_of_ble_eq_true rfl) (by decide) (fun z9 w9 h9 => ?_)
                obtain ⟨rfl, rfl⟩ := h9
                show SW K G 7 0 0 93 [(4, .int (iI (vo (bA t len) 10 0 (de (bA t len) len 10 0) 0))), (3, .int (iI ((de (bA t len) len 10 0) + 1))), (2, .int (iI (de (bA t len) len 10 0))), (0, .ref w), (1, .ref k)] [.long (lI (vo (bA t len) (vo (bA t len) 10 0 (de (bA t len) len 10 0) 0) ((de (bA t len) len 10 0) + 1) len 0))] [oWd w b base, oTk k pl af wh re x len i8 d8 ror rl, aB G x 401 t]
                have q10 := vo_R (w := bA t len) (base := (vo (bA t len) 10 0 (de (bA t len) len 10 0) 0)) (e := len) (by omega) _ ((de (bA t len) len 10 0) + 1) 0 rfl (by omega)
                refine s_lstore X dX4_readWithBase_93 [(5, .long (lI (vo (bA t len) (vo (bA t len) 10 0 (de (bA t len) len 10 0) 0) ((de (bA t len) len 10 0) + 1) len 0))), (4, .int (iI (vo (bA t len) 10 0 (de (bA t len) len 10 0) 0))), (3, .int (iI ((de (bA t len) len 10 0) + 1))), (2, .int (iI (de (bA t len) len 10 0))), (0, .ref w), (1, .ref k)] (by decide) rfl ?_
                refine s_lload X dX4_readWithBase_95 0 rfl ?_
                refine s_ldc2 4294967296 X dX4_readWithBase_97 tg488 (by decide) ?_
                refine s_lif_lt X 107 dX4_readWithBase_100 dX4_readWithBase_101 (by decide) (by omega) (fun c100 => ?_) (fun c100 => ?_)
                · refine s_aload_n X dX4_readWithBase_107 rfl 4 rfl ?_
                  refine s_iload X dX4_readWithBase_108 1 rfl ?_
                  refine s_put X dX4_readWithBase_110 fl_X4_9 tyX4_ok nmX4 0 rfl rfl (rfl) (rfl) (Nat.le_of_ble_eq_true rfl) [oWd w b (vo (bA t len) 10 0 (de (bA t len) len 10 0) 0), oTk k pl af wh re x len i8 d8 ror rl, aB G x 401 t] rfl ?_
                  refine s_aload_n X dX4_readWithBase_113 rfl 5 rfl ?_
                  refine s_iconst X dX4_readWithBase_114 ?_
                  refine s_lload X dX4_readWithBase_115 0 rfl ?_
                  refine s_ldc2 2147483647 X dX4_readWithBase_117 tg493 (by decide) ?_
                  have j135 : ∀ (y : Int) (hy : y = rbV (bA t len) len), SW K G 7 0 0 135 [(5, .long (lI (vo (bA t len) (vo (bA t len) 10 0 (de (bA t len) len 10 0) 0) ((de (bA t len) len 10 0) + 1) len 0))), (4, .int (iI (vo (bA t len) 10 0 (de (bA t len) len 10 0) 0))), (3, .int (iI ((de (bA t len) len 10 0) + 1))), (2, .int (iI (de (bA t len) len 10 0))), (0, .ref w), (1, .ref k)] [.long (lI y), .int (iI 1), .ref k] [oWd w b (vo (bA t len) 10 0 (de (bA t len) len 10 0) 0), oTk k pl af wh re x len i8 d8 ror rl, aB G x 401 t] := by
                    intro y hy
                    refine s_callIV X lk_X4_86 [1] [0, 2] (wr := [oWd w b (vo (bA t len) 10 0 (de (bA t len) len 10 0) 0), aB G x 401 t]) rfl rfl (by decide) (by decide) (by decide) (c_X3_asWhole (kl K) G k x i8 d8 pl af wh len ror rl re 1 y) rfl rfl dX4_readWithBase_135 rfl rfl (Nat.le_of_ble_eq_true rfl) (by decide) (fun z11 w11 h11 => ?_)
                    obtain ⟨rfl, rfl⟩ := h11
                    show SW K G 7 0 0 138 [(5, .long (lI (vo (bA t len) (vo (bA t len) 10 0 (de (bA t len) len 10 0) 0) ((de (bA t len) len 10 0) + 1) len 0))), (4, .int (iI (vo (bA t len) 10 0 (de (bA t len) len 10 0) 0))), (3, .int (iI ((de (bA t len) len 10 0) + 1))), (2, .int (iI (de (bA t len) len 10 0))), (0, .ref w), (1, .ref k)] [.int (iI 1)] [oWd w b (vo (bA t len) 10 0 (de (bA t len) len 10 0) 0), aB G x 401 t, oTk k pl af y re x 0 i8 d8 ror rl]
                    refine s_perm (ws' := [oWd w b (vo (bA t len) 10 0 (de (bA t len) len 10 0) 0), oTk k pl af y re x 0 i8 d8 ror rl, aB G x 401 t]) [0, 2, 1] (by decide) rfl rfl ?_
                    refine s_iret X Y dX4_readWithBase_138 (rfl) ?_
                    refine ⟨(vo (bA t len) 10 0 (de (bA t len) len 10 0) 0), y, 0, ?_, rfl, ?_, ?_⟩
                    · (first | (exfalso; omega) | (unfold rbA; rw [if_pos (by rw [eC]; omega), if_neg (by omega)]))
                    · (first | (exfalso; omega) | (intro _; exact ⟨rfl, hy, rfl⟩))
                    · (first | (exfalso; omega) | (intro h; exact absurd rfl h))
                  refine s_lif_le X 133 dX4_readWithBase_120 dX4_readWithBase_121 (by decide) (by omega) (fun c120 => ?_) (fun c120 => ?_)
                  · refine s_lload X dX4_readWithBase_133 0 rfl ?_
                    exact j135 (vo (bA t len) (vo (bA t len) 10 0 (de (bA t len) len 10 0) 0) ((de (bA t len) len 10 0) + 1) len 0) (by unfold rbV; first | rw [if_pos (by omega), eS] | rw [if_neg (by omega), eS])
                  · refine s_lload X dX4_readWithBase_124 0 rfl ?_
                    refine s_ldc2 4294967296 X dX4_readWithBase_126 tg488 (by decide) ?_
                    refine s_lsub X dX4_readWithBase_129 ?_
                    refine s_goto X 135 dX4_readWithBase_130 (by decide) ?_
                    exact j135 ((vo (bA t len) (vo (bA t len) 10 0 (de (bA t len) len 10 0) 0) ((de (bA t len) len 10 0) + 1) len 0) - 4294967296) (by unfold rbV; first | rw [if_pos (by omega), eS] | rw [if_neg (by omega), eS])
                · refine s_bipush (-6) X dX4_readWithBase_104 (by decide) ?_
                  refine s_iret X Y dX4_readWithBase_106 (rfl) ?_
                  refine ⟨base, wh, len, ?_, rfl, ?_, ?_⟩
                  · (first | (exfalso; omega) | (unfold rbA; rw [if_pos (by rw [eC]; omega), if_pos (by omega)]))
                  · (first | (exfalso; omega) | (intro h; exact absurd h (by decide)))
                  · (first | (exfalso; omega) | (intro _; exact ⟨rfl, rfl, rfl⟩))
              · refine s_iconst X dX4_readWithBase_80 ?_
                refine s_iret X Y dX4_readWithBase_81 (rfl) ?_
                refine ⟨base, wh, len, ?_, rfl, ?_, ?_⟩
                · (first | (exfalso; omega) | (unfold rbA; rw [if_neg (by rw [eC]; omega)]))
                · (first | (exfalso; omega) | (intro h; exact absurd h (by decide)))
                · (first | (exfalso; omega) | (intro _; exact ⟨rfl, rfl, rfl⟩))
      · refine s_iconst X dX4_readWithBase_28 ?_
        refine s_iret X Y dX4_readWithBase_29 (rfl) ?_
        refine ⟨base, wh, len, ?_, rfl, ?_, ?_⟩
        · (first | (exfalso; omega) | (unfold rbA; rw [if_neg (by rw [eC]; omega)]))
        · (first | (exfalso; omega) | (intro h; exact absurd h (by decide)))
        · (first | (exfalso; omega) | (intro _; exact ⟨rfl, rfl, rfl⟩))
set_option maxRecDepth 100000 in
set_option maxHeartbeats 4000000 in
theorem c_X4_readReal (l : Launch) (G : GX) (b : Nat) (w : Nat) (base : Int) (k : Nat) (x : Nat) (i8 : Nat) (d8 : Nat) (pl : Int) (af : Int) (wh : Int) (len : Int) (ror : Int) (rl : Int) (re : UInt64) (t : Nat → Nat) (hlen : 0 ≤ len ∧ len ≤ 401) (htb : ∀ j, t j < 256) : CtI l G yX4_readReal cX4_readReal 11 (some .int) ({ frames := 3, cells := 0, slots := 0, locals := 71 } : Room) [.ref w, .ref k] [oWd w b base, oTk k pl af wh re x len i8 d8 ror rl, aB G x 401 t] (fun (z9 : Int) (w9 : va_W) => ∃ (wh2 : Int), ∃ (len2 : Int), ∃ (re2 : UInt64), z9 = (rrA (bA t len) len) ∧ w9 = [oWd w b base, oTk k pl af wh2 re2 x len2 i8 d8 ror rl, aB G x 401 t] ∧ (z9 = 2 → re2 = rrV (bA t len) len ∧ wh2 = 0 ∧ len2 = 0) ∧ (z9 ≠ 2 → re2 = re ∧ wh2 = wh ∧ len2 = len)) := by
  intro sz
  refine met_of (fun wc sz => va_Qi (qI _) (posW G wc sz) (va_A wc sz)) (by decide) [(0, .ref w), (1, .ref k)] rfl (Nat.le_of_ble_eq_true rfl) (fun K hK9 hnm X Y => ?_)
  subst hK9
  replace Y : RI K G (some .int) 0 0 _ := Y
  have eP : rrP (bA t len) len = de (bA t len) len 10 (bs (bA t len) 0) := rfl
  refine s_aload_n X dX4_readReal_0 rfl 1 rfl ?_
  refine s_iconst X dX4_readReal_1 ?_
  refine s_callIS X lk_X4_65 [1, 2] [0] (wr := [oWd w b base]) rfl rfl (by decide) (by decide) (by decide) (c_X4_behindSign (kl K) G k x i8 d8 pl af wh len ror rl re t 0 (by omega) (by assumption) (by omega)) dX4_readReal_2 rfl rfl (Nat.le_of_ble_eq_true rfl) (by decide) (fun z1 w1 h1 => ?_)
  obtain ⟨rfl, rfl⟩ := h1
  show SW K G 11 0 0 5 [(0, .ref w), (1, .ref k)] [.int (iI (bs (bA t len) 0))] [oWd w b base, oTk k pl af wh re x len i8 d8 ror rl, aB G x 401 t]
  have q2 := bs_R (bA t len) 0
  refine s_istore_n X dX4_readReal_5 rfl [(2, .int (iI (bs (bA t len) 0))), (0, .ref w), (1, .ref k)] (by decide) rfl ?_
  refine s_aload_n X dX4_readReal_6 rfl 2 rfl ?_
  refine s_iload_n X dX4_readReal_7 rfl 0 rfl ?_
  refine s_bipush 10 X dX4_readReal_8 (by decide) ?_
  refine s_callIS X lk_X4_72 [1, 2] [0] (wr := [oWd w b base]) rfl rfl (by decide) (by decide) (by decide) (c_X4_digitsEnd (kl K) G k x i8 d8 pl af wh len ror rl re t (bs (bA t len) 0) 10 (by omega) (by assumption) (by omega) (by omega)) dX4_readReal_10 rfl rfl (Nat.le_of_ble_eq_true rfl) (by decide) (fun z3 w3 h3 => ?_)
  obtain ⟨rfl, rfl⟩ := h3
  show SW K G 11 0 0 13 [(2, .int (iI (bs (bA t len) 0))), (0, .ref w), (1, .ref k)] [.int (iI (de (bA t len) len 10 (bs (bA t len) 0)))] [oWd w b base, oTk k pl af wh re x len i8 d8 ror rl, aB G x 401 t]
  have q4 := de_C (bA t len) len 10 (bs (bA t len) 0)
  refine s_istore_n X dX4_readReal_13 rfl [(3, .int (iI (de (bA t len) len 10 (bs (bA t len) 0)))), (2, .int (iI (bs (bA t len) 0))), (0, .ref w), (1, .ref k)] (by decide) rfl ?_
  refine s_aload_n X dX4_readReal_14 rfl 3 rfl ?_
  refine s_iload_n X dX4_readReal_15 rfl 0 rfl ?_
  refine s_callIV X lk_X4_79 [1, 2] [0] (wr := [oWd w b base]) rfl rfl (by decide) (by decide) (by decide) (c_X3_textAt (kl K) G k x i8 d8 pl af wh len ror rl re t (de (bA t len) len 10 (bs (bA t len) 0)) (by omega) (by assumption) (by omega)) rfl rfl dX4_readReal_16 rfl rfl (Nat.le_of_ble_eq_true rfl) (by decide) (fun z5 w5 h5 => ?_)
  obtain ⟨rfl, rfl⟩ := h5
  show SW K G 11 0 0 19 [(3, .int (iI (de (bA t len) len 10 (bs (bA t len) 0)))), (2, .int (iI (bs (bA t len) 0))), (0, .ref w), (1, .ref k)] [.int (iI (bA t len (de (bA t len) len 10 (bs (bA t len) 0))))] [oWd w b base, oTk k pl af wh re x len i8 d8 ror rl, aB G x 401 t]
  have q6 := bA_C len (de (bA t len) len 10 (bs (bA t len) 0)) (by assumption : ∀ j, t j < 256)
  refine s_bipush 46 X dX4_readReal_19 (by decide) ?_
  have j29 : ∀ (y4 : Int) (hy4 : (y4 = 1 ∧ bA t len (de (bA t len) len 10 (bs (bA t len) 0)) = 46) ∨ (y4 = 0 ∧ ¬ bA t len (de (bA t len) len 10 (bs (bA t len) 0)) = 46)), SW K G 11 0 0 29 [(3, .int (iI (de (bA t len) len 10 (bs (bA t len) 0)))), (2, .int (iI (bs (bA t len) 0))), (0, .ref w), (1, .ref k)] [.int (iI y4)] [oWd w b base, oTk k pl af wh re x len i8 d8 ror rl, aB G x 401 t] := by
    intro y4 hy4
    refine s_istore X dX4_readReal_29 [(4, .int (iI y4)), (3, .int (iI (de (bA t len) len 10 (bs (bA t len) 0)))), (2, .int (iI (bs (bA t len) 0))), (0, .ref w), (1, .ref k)] (by decide) rfl ?_
    refine s_iload X dX4_readReal_31 0 rfl ?_
    have j49 : ∀ (y5 : Int) (hy5 : y5 = rrT (bA t len) len) (hz5 : de (bA t len) len 10 (bs (bA t len) 0) ≤ y5 ∧ y5 ≤ len ∧ (bA t len (de (bA t len) len 10 (bs (bA t len) 0)) = 46 → de (bA t len) len 10 (bs (bA t len) 0) + 1 ≤ y5)), SW K G 11 0 0 49 [(4, .int (iI y4)), (3, .int (iI (de (bA t len) len 10 (bs (bA t len) 0)))), (2, .int (iI (bs (bA t len) 0))), (0, .ref w), (1, .ref k)] [.int (iI y5)] [oWd w b base, oTk k pl af wh re x len i8 d8 ror rl, aB G x 401 t] := by
      intro y5 hy5 hz5
      refine s_istore X dX4_readReal_49 [(5, .int (iI y5)), (4, .int (iI y4)), (3, .int (iI (de (bA t len) len 10 (bs (bA t len) 0)))), (2, .int (iI (bs (bA t len) 0))), (0, .ref w), (1, .ref k)] (by decide) rfl ?_
      refine s_iload X dX4_readReal_51 1 rfl ?_
      have j66 : ∀ (y6 : Int) (hy6 : y6 = rrD (bA t len) len) (hz6 : 0 ≤ y6 ∧ y6 ≤ 401), SW K G 11 0 0 66 [(5, .int (iI y5)), (4, .int (iI y4)), (3, .int (iI (de (bA t len) len 10 (bs (bA t len) 0)))), (2, .int (iI (bs (bA t len) 0))), (0, .ref w), (1, .ref k)] [.int (iI y6)] [oWd w b base, oTk k pl af wh re x len i8 d8 ror rl, aB G x 401 t] := by
        intro y6 hy6 hz6
        refine s_istore X dX4_readReal_66 [(6, .int (iI y6)), (5, .int (iI y5)), (4, .int (iI y4)), (3, .int (iI (de (bA t len) len 10 (bs (bA t len) 0)))), (2, .int (iI (bs (bA t len) 0))), (0, .ref w), (1, .ref k)] (by decide) rfl ?_
        refine s_iload_n X dX4_readReal_68 rfl 3 rfl ?_
        refine s_iload_n X dX4_readReal_69 rfl 4 rfl ?_
        refine s_isub X dX4_readReal_70 ?_
        refine s_iload X dX4_readReal_71 0 rfl ?_
        refine s_iadd X dX4_readReal_73 ?_
        have j82 : ∀ (y7 : Int) (hy7 : (y7 = 1 ∧ 0 < de (bA t len) len 10 (bs (bA t len) 0) - bs (bA t len) 0 + y6) ∨ (y7 = 0 ∧ de (bA t len) len 10 (bs (bA t len) 0) - bs (bA t len) 0 + y6 ≤ 0)), SW K G 11 0 0 82 [(6, .int (iI y6)), (5, .int (iI y5)), (4, .int (iI y4)), (3, .int (iI (de (bA t len) len 10 (bs (bA t len) 0)))), (2, .int (iI (bs (bA t len) 0))), (0, .ref w), (1, .ref k)] [.int (iI y7)] [oWd w b base, oTk k pl af wh re x len i8 d8 ror rl, aB G x 401 t] := by
          intro y7 hy7
          have eC : rrC (bA t len) len ↔ (0 < de (bA t len) len 10 (bs (bA t len) 0) - bs (bA t len) 0 + y6 ∧ (y5 < len → isx (bA t len) len y5)) := by rw [hy6, hy5, ← eP]
          refine s_istore X dX4_readReal_82 [(7, .int (iI y7)), (6, .int (iI y6)), (5, .int (iI y5)), (4, .int (iI y4)), (3, .int (iI (de (bA t len) len 10 (bs (bA t len) 0)))), (2, .int (iI (bs (bA t len) 0))), (0, .ref w), (1, .ref k)] (by decide) rfl ?_
          refine s_iload X dX4_readReal_84 0 rfl ?_
          refine s_if_eq X 107 dX4_readReal_86 (by decide) (by omega) (fun c86 => ?_) (fun c86 => ?_)
          · refine s_iconst X dX4_readReal_107 ?_
            refine s_iret X Y dX4_readReal_108 (rfl) ?_
            refine ⟨wh, len, re, ?_, rfl, ?_, ?_⟩
            · (first | (exfalso; omega) | (unfold rrA; rw [if_neg (by rw [eC]; (first | omega | (intro h9; exact absurd (h9.2 (by omega)) (by assumption))))]))
            · (first | (exfalso; omega) | (intro h; exact absurd h (by decide)))
            · (first | (exfalso; omega) | (intro _; exact ⟨rfl, rfl, rfl⟩))
          · have j109 : ∀  (hx : y5 < len → isx (bA t len) len y5), SW K G 11 0 0 109 [(7, .int (iI y7)), (6, .int (iI y6)), (5, .int (iI y5)), (4, .int (iI y4)), (3, .int (iI (de (bA t len) len 10 (bs (bA t len) 0)))), (2, .int (iI (bs (bA t len) 0))), (0, .ref w), (1, .ref k)] [] [oWd w b base, oTk k pl af wh re x len i8 d8 ror rl, aB G x 401 t] := by
              intro hx
              refine s_iload X dX4_readReal_109 2 rfl ?_
              refine s_aload_n X dX4_readReal_111 rfl 7 rfl ?_
              refine s_get X dX4_readReal_112 fl_X4_69 1 rfl rfl ?_
              have j128 : ∀ (y8 : Int) (hy8 : y8 = rrE (bA t len) len) (hz8 : -999 ≤ y8 ∧ y8 ≤ 999), SW K G 11 0 0 128 [(7, .int (iI y7)), (6, .int (iI y6)), (5, .int (iI y5)), (4, .int (iI y4)), (3, .int (iI (de (bA t len) len 10 (bs (bA t len) 0)))), (2, .int (iI (bs (bA t len) 0))), (0, .ref w), (1, .ref k)] [.int (iI y8)] [oWd w b base, oTk k pl af wh re x len i8 d8 ror rl, aB G x 401 t] := by
                intro y8 hy8 hz8
                refine s_istore X dX4_readReal_128 [(8, .int (iI y8)), (7, .int (iI y7)), (6, .int (iI y6)), (5, .int (iI y5)), (4, .int (iI y4)), (3, .int (iI (de (bA t len) len 10 (bs (bA t len) 0)))), (2, .int (iI (bs (bA t len) 0))), (0, .ref w), (1, .ref k)] (by decide) rfl ?_
                refine s_aload_n X dX4_readReal_130 rfl 8 rfl ?_
                refine s_iload_n X dX4_readReal_131 rfl 6 rfl ?_
                refine s_iload X dX4_readReal_132 3 rfl ?_
                refine s_callDS X lk_X4_99 [1, 2] [0] (wr := [oWd w b base]) rfl rfl (by decide) (by decide) (by decide) (c_X4_digitsAsReal (kl K) G k x i8 d8 pl af wh len ror rl re t (bs (bA t len) 0) y5 (by omega) (by assumption) (by omega)) dX4_readReal_134 rfl rfl (Nat.le_of_ble_eq_true rfl) (by decide) (fun z7 w7 h7 => ?_)
                obtain ⟨rfl, rfl⟩ := h7
                show SW K G 11 0 0 137 [(8, .int (iI y8)), (7, .int (iI y7)), (6, .int (iI y6)), (5, .int (iI y5)), (4, .int (iI y4)), (3, .int (iI (de (bA t len) len 10 (bs (bA t len) 0)))), (2, .int (iI (bs (bA t len) 0))), (0, .ref w), (1, .ref k)] [.double (dr (bA t len) (bs (bA t len) 0) y5 FP.dconst0)] [oWd w b base, oTk k pl af wh re x len i8 d8 ror rl, aB G x 401 t]
                have q8 := NN_dr (w := bA t len) (e := y5) _ (bs (bA t len) 0) _ rfl NN_0
                refine s_ldc2d X dX4_readReal_137 tg512 ?_
                refine s_iload X dX4_readReal_140 0 rfl ?_
                refine s_iload X dX4_readReal_142 2 rfl ?_
                refine s_isub X dX4_readReal_144 ?_
                refine s_callDSN X lk_X4_105 [] [0, 1, 2] (wr := [oWd w b base, oTk k pl af wh re x len i8 d8 ror rl, aB G x 401 t]) rfl rfl (by decide) (by decide) (by decide) (c_X5_scaled (kl K) G (dr (bA t len) (bs (bA t len) 0) y5 FP.dconst0) 4621819117588971520 (y8 - y6) (by omega) (fun j _ => (NN_mul (NN_mulN (by assumption) j)).1) (fun j _ => (NN_div (NN_divN (by assumption) j)).1)) dX4_readReal_145 rfl rfl (Nat.le_of_ble_eq_true rfl) (by decide) (fun z9 w9 h9 => ?_)
                obtain ⟨rfl, rfl⟩ := h9
                show SW K G 11 0 0 148 [(8, .int (iI y8)), (7, .int (iI y7)), (6, .int (iI y6)), (5, .int (iI y5)), (4, .int (iI y4)), (3, .int (iI (de (bA t len) len 10 (bs (bA t len) 0)))), (2, .int (iI (bs (bA t len) 0))), (0, .ref w), (1, .ref k)] [.double (scl (dr (bA t len) (bs (bA t len) 0) y5 FP.dconst0) 4621819117588971520 (y8 - y6))] [oWd w b base, oTk k pl af wh re x len i8 d8 ror rl, aB G x 401 t]
                have hrS : scl (dr (bA t len) (bs (bA t len) 0) y5 FP.dconst0) 4621819117588971520 (y8 - y6) = rrS (bA t len) len := by unfold rrS; rw [← hy5, ← hy8, ← hy6]
                refine s_dstore X dX4_readReal_148 [(9, .double (scl (dr (bA t len) (bs (bA t len) 0) y5 FP.dconst0) 4621819117588971520 (y8 - y6))), (8, .int (iI y8)), (7, .int (iI y7)), (6, .int (iI y6)), (5, .int (iI y5)), (4, .int (iI y4)), (3, .int (iI (de (bA t len) len 10 (bs (bA t len) 0)))), (2, .int (iI (bs (bA t len) 0))), (0, .ref w), (1, .ref k)] (by decide) rfl ?_
                refine s_dload X dX4_readReal_150 0 rfl ?_
                refine s_ldc2d X dX4_readReal_152 tg514 ?_
                refine s_dbig X 162 dX4_readReal_155 dX4_readReal_156 (by decide) (fun c155 => ?_) (fun c155 => ?_)
                · refine s_aload_n X dX4_readReal_162 rfl 9 rfl ?_
                  refine s_aload_n X dX4_readReal_163 rfl 9 rfl ?_
                  refine s_iconst X dX4_readReal_164 ?_
                  refine s_callIV X lk_X4_79 [1, 2] [0] (wr := [oWd w b base]) rfl rfl (by decide) (by decide) (by decide) (c_X3_textAt (kl K) G k x i8 d8 pl af wh len ror rl re t 0 (by omega) (by assumption) (by omega)) rfl rfl dX4_readReal_165 rfl rfl (Nat.le_of_ble_eq_true rfl) (by decide) (fun z10 w10 h10 => ?_)
                  obtain ⟨rfl, rfl⟩ := h10
                  show SW K G 11 0 0 168 [(9, .double (scl (dr (bA t len) (bs (bA t len) 0) y5 FP.dconst0) 4621819117588971520 (y8 - y6))), (8, .int (iI y8)), (7, .int (iI y7)), (6, .int (iI y6)), (5, .int (iI y5)), (4, .int (iI y4)), (3, .int (iI (de (bA t len) len 10 (bs (bA t len) 0)))), (2, .int (iI (bs (bA t len) 0))), (0, .ref w), (1, .ref k)] [.int (iI (bA t len 0)), .ref k] [oWd w b base, oTk k pl af wh re x len i8 d8 ror rl, aB G x 401 t]
                  have q11 := bA_C len 0 (by assumption : ∀ j, t j < 256)
                  refine s_bipush 45 X dX4_readReal_168 (by decide) ?_
                  have j182 : ∀ (yv : UInt64) (hyv : yv = rrV (bA t len) len), SW K G 11 0 0 182 [(9, .double (scl (dr (bA t len) (bs (bA t len) 0) y5 FP.dconst0) 4621819117588971520 (y8 - y6))), (8, .int (iI y8)), (7, .int (iI y7)), (6, .int (iI y6)), (5, .int (iI y5)), (4, .int (iI y4)), (3, .int (iI (de (bA t len) len 10 (bs (bA t len) 0)))), (2, .int (iI (bs (bA t len) 0))), (0, .ref w), (1, .ref k)] [.double yv, .ref k] [oWd w b base, oTk k pl af wh re x len i8 d8 ror rl, aB G x 401 t] := by
                    intro yv hyv
                    refine s_callIV X lk_X4_111 [1] [0, 2] (wr := [oWd w b base, aB G x 401 t]) rfl rfl (by decide) (by decide) (by decide) (c_X3_asReal (kl K) G k x i8 d8 pl af wh len ror rl re yv) rfl rfl dX4_readReal_182 rfl rfl (Nat.le_of_ble_eq_true rfl) (by decide) (fun z12 w12 h12 => ?_)
                    obtain ⟨rfl, rfl⟩ := h12
                    show SW K G 11 0 0 185 [(9, .double (scl (dr (bA t len) (bs (bA t len) 0) y5 FP.dconst0) 4621819117588971520 (y8 - y6))), (8, .int (iI y8)), (7, .int (iI y7)), (6, .int (iI y6)), (5, .int (iI y5)), (4, .int (iI y4)), (3, .int (iI (de (bA t len) len 10 (bs (bA t len) 0)))), (2, .int (iI (bs (bA t len) 0))), (0, .ref w), (1, .ref k)] [.int (iI 2)] [oWd w b base, aB G x 401 t, oTk k pl af 0 yv x 0 i8 d8 ror rl]
                    refine s_perm (ws' := [oWd w b base, oTk k pl af 0 yv x 0 i8 d8 ror rl, aB G x 401 t]) [0, 2, 1] (by decide) rfl rfl ?_
                    refine s_iret X Y dX4_readReal_185 (rfl) ?_
                    refine ⟨0, 0, yv, ?_, rfl, ?_, ?_⟩
                    · (first | (exfalso; omega) | (unfold rrA; rw [if_pos (by rw [eC]; exact ⟨by omega, hx⟩), if_neg (by rw [← hrS]; assumption)]))
                    · (first | (exfalso; omega) | (intro _; exact ⟨hyv, rfl, rfl⟩))
                    · (first | (exfalso; omega) | (intro h; exact absurd rfl h))
                  refine s_icmp_ne X 180 dX4_readReal_170 (by decide) (by omega) (fun c170 => ?_) (fun c170 => ?_)
                  · refine s_dload X dX4_readReal_180 0 rfl ?_
                    exact j182 (scl (dr (bA t len) (bs (bA t len) 0) y5 FP.dconst0) 4621819117588971520 (y8 - y6)) (by unfold rrV; rw [← hrS]; first | rw [if_pos (by assumption)] | rw [if_neg (by assumption)])
                  · refine s_dconst0 X dX4_readReal_173 ?_
                    refine s_dload X dX4_readReal_174 0 rfl ?_
                    refine s_dsub X dX4_readReal_176 (NN_sub (NN_scl (by assumption) _)) ?_
                    refine s_goto X 182 dX4_readReal_177 (by decide) ?_
                    exact j182 (FP.dsub FP.dconst0 (scl (dr (bA t len) (bs (bA t len) 0) y5 FP.dconst0) 4621819117588971520 (y8 - y6))) (by unfold rrV; rw [← hrS]; first | rw [if_pos (by assumption)] | rw [if_neg (by assumption)])
                · refine s_bipush (-6) X dX4_readReal_159 (by decide) ?_
                  refine s_iret X Y dX4_readReal_161 (rfl) ?_
                  refine ⟨wh, len, re, ?_, rfl, ?_, ?_⟩
                  · (first | (exfalso; omega) | (unfold rrA; rw [if_pos (by rw [eC]; exact ⟨by omega, hx⟩), if_pos (by rw [← hrS]; assumption)]))
                  · (first | (exfalso; omega) | (intro h; exact absurd h (by decide)))
                  · (first | (exfalso; omega) | (intro _; exact ⟨rfl, rfl, rfl⟩))
              refine s_icmp_ge X 127 dX4_readReal_115 (by decide) (by omega) (fun c115 => ?_) (fun c115 => ?_)
              · refine s_iconst X dX4_readReal_127 ?_
                exact j128 0 (by unfold rrE; rw [← hy5]; first | rw [if_pos (by omega)] | rw [if_neg (by omega)]) (by omega)
              · refine s_aload_n X dX4_readReal_118 rfl 7 rfl ?_
                refine s_iload X dX4_readReal_119 2 rfl ?_
                have hx9 := hx (by assumption)
                refine s_callIS X lk_X4_96 [1, 2] [0] (wr := [oWd w b base]) rfl rfl (by decide) (by decide) (by decide) (c_X4_exponentAt (kl K) G k x i8 d8 pl af wh len ror rl re t y5 (by omega) (by assumption) (by omega) (hx9)) dX4_readReal_121 rfl rfl (Nat.le_of_ble_eq_true rfl) (by decide) (fun z13 w13 h13 => ?_)
                obtain ⟨rfl, rfl⟩ := h13
                show SW K G 11 0 0 124 [(7, .int (iI y7)), (6, .int (iI y6)), (5, .int (iI y5)), (4, .int (iI y4)), (3, .int (iI (de (bA t len) len 10 (bs (bA t len) 0)))), (2, .int (iI (bs (bA t len) 0))), (0, .ref w), (1, .ref k)] [.int (iI (exv (bA t len) len y5))] [oWd w b base, oTk k pl af wh re x len i8 d8 ror rl, aB G x 401 t]
                have q14 := exv_R (w := bA t len) (len := len) (i := y5) (by assumption)
                refine s_goto X 128 dX4_readReal_124 (by decide) ?_
                exact j128 (exv (bA t len) len y5) (by unfold rrE; rw [← hy5]; first | rw [if_pos (by omega)] | rw [if_neg (by omega)]) (by omega)
            refine s_iload X dX4_readReal_89 2 rfl ?_
            refine s_aload_n X dX4_readReal_91 rfl 7 rfl ?_
            refine s_get X dX4_readReal_92 fl_X4_69 1 rfl rfl ?_
            refine s_icmp_ge X 109 dX4_readReal_95 (by decide) (by omega) (fun c95 => ?_) (fun c95 => ?_)
            · exact j109  (by first | (intro _; assumption) | (intro h9; omega))
            · refine s_aload_n X dX4_readReal_98 rfl 7 rfl ?_
              refine s_iload X dX4_readReal_99 2 rfl ?_
              refine s_callIS X lk_X4_92 [1, 2] [0] (wr := [oWd w b base]) rfl rfl (by decide) (by decide) (by decide) (c_X4_isExponent (kl K) G k x i8 d8 pl af wh len ror rl re t y5 (by omega) (by assumption) (by omega)) dX4_readReal_101 rfl rfl (Nat.le_of_ble_eq_true rfl) (by decide) (fun z15 w15 h15 => ?_)
              obtain ⟨rfl, rfl⟩ := h15
              show SW K G 11 0 0 104 [(7, .int (iI y7)), (6, .int (iI y6)), (5, .int (iI y5)), (4, .int (iI y4)), (3, .int (iI (de (bA t len) len 10 (bs (bA t len) 0)))), (2, .int (iI (bs (bA t len) 0))), (0, .ref w), (1, .ref k)] [.int (iI (tf (isx (bA t len) len y5)))] [oWd w b base, oTk k pl af wh re x len i8 d8 ror rl, aB G x 401 t]
              refine s_tf_ne X 109 dX4_readReal_104 (by decide) (fun c104 => ?_) (fun c104 => ?_)
              · exact j109  (by first | (intro _; assumption) | (intro h9; omega))
              · refine s_iconst X dX4_readReal_107 ?_
                refine s_iret X Y dX4_readReal_108 (rfl) ?_
                refine ⟨wh, len, re, ?_, rfl, ?_, ?_⟩
                · (first | (exfalso; omega) | (unfold rrA; rw [if_neg (by rw [eC]; (first | omega | (intro h9; exact absurd (h9.2 (by omega)) (by assumption))))]))
                · (first | (exfalso; omega) | (intro h; exact absurd h (by decide)))
                · (first | (exfalso; omega) | (intro _; exact ⟨rfl, rfl, rfl⟩))
        refine s_if_le X 81 dX4_readReal_74 (by decide) (by omega) (fun c74 => ?_) (fun c74 => ?_)
        · refine s_iconst X dX4_readReal_81 ?_
          exact j82 0 (by omega)
        · refine s_iconst X dX4_readReal_77 ?_
          refine s_goto X 82 dX4_readReal_78 (by decide) ?_
          exact j82 1 (by omega)
      refine s_if_eq X 65 dX4_readReal_53 (by decide) (by omega) (fun c53 => ?_) (fun c53 => ?_)
      · refine s_iconst X dX4_readReal_65 ?_
        exact j66 0 (by unfold rrD; rw [← hy5, eP]; first | rw [if_pos (by omega)] | rw [if_neg (by omega)]) (by omega)
      · refine s_iload X dX4_readReal_56 0 rfl ?_
        refine s_iload_n X dX4_readReal_58 rfl 2 rfl ?_
        refine s_isub X dX4_readReal_59 ?_
        refine s_iconst X dX4_readReal_60 ?_
        refine s_isub X dX4_readReal_61 ?_
        refine s_goto X 66 dX4_readReal_62 (by decide) ?_
        exact j66 ((y5 - (de (bA t len) len 10 (bs (bA t len) 0))) - 1) (by unfold rrD; rw [← hy5, eP]; first | rw [if_pos (by omega)] | rw [if_neg (by omega)]) (by omega)
    refine s_if_eq X 48 dX4_readReal_33 (by decide) (by omega) (fun c33 => ?_) (fun c33 => ?_)
    · refine s_iload_n X dX4_readReal_48 rfl 1 rfl ?_
      exact j49 (de (bA t len) len 10 (bs (bA t len) 0)) (by unfold rrT; rw [eP]; first | rw [if_pos (by omega)] | rw [if_neg (by omega)]) (by omega)
    · refine s_aload_n X dX4_readReal_36 rfl 4 rfl ?_
      refine s_iload_n X dX4_readReal_37 rfl 1 rfl ?_
      refine s_iconst X dX4_readReal_38 ?_
      refine s_iadd X dX4_readReal_39 ?_
      refine s_bipush 10 X dX4_readReal_40 (by decide) ?_
      refine s_callIS X lk_X4_72 [1, 2] [0] (wr := [oWd w b base]) rfl rfl (by decide) (by decide) (by decide) (c_X4_digitsEnd (kl K) G k x i8 d8 pl af wh len ror rl re t ((de (bA t len) len 10 (bs (bA t len) 0)) + 1) 10 (by omega) (by assumption) (by omega) (by omega)) dX4_readReal_42 rfl rfl (Nat.le_of_ble_eq_true rfl) (by decide) (fun z16 w16 h16 => ?_)
      obtain ⟨rfl, rfl⟩ := h16
      show SW K G 11 0 0 45 [(4, .int (iI y4)), (3, .int (iI (de (bA t len) len 10 (bs (bA t len) 0)))), (2, .int (iI (bs (bA t len) 0))), (0, .ref w), (1, .ref k)] [.int (iI (de (bA t len) len 10 ((de (bA t len) len 10 (bs (bA t len) 0)) + 1)))] [oWd w b base, oTk k pl af wh re x len i8 d8 ror rl, aB G x 401 t]
      have q17 := de_C (bA t len) len 10 ((de (bA t len) len 10 (bs (bA t len) 0)) + 1)
      refine s_goto X 49 dX4_readReal_45 (by decide) ?_
      exact j49 (de (bA t len) len 10 ((de (bA t len) len 10 (bs (bA t len) 0)) + 1)) (by unfold rrT; rw [eP]; first | rw [if_pos (by omega)] | rw [if_neg (by omega)]) (by omega)
  refine s_icmp_ne X 28 dX4_readReal_21 (by decide) (by omega) (fun c21 => ?_) (fun c21 => ?_)
  · refine s_iconst X dX4_readReal_28 ?_
    exact j29 0 (by omega)
  · refine s_iconst X dX4_readReal_24 ?_
    refine s_goto X 29 dX4_readReal_25 (by decide) ?_
    exact j29 1 (by omega)
