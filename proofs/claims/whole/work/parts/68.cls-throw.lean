set_option maxRecDepth 100000 in
set_option maxHeartbeats 4000000 in
theorem c_X5_add (l : Launch) (hfl : l.stackTraces = false) (G : GX) (o : Nat) (b : Nat) (w : Nat) (s2 : Nat) (i2 : Nat) (p9 : Nat) (lt : Nat) (br : Int) (lp : Int) (k : Nat) (a : Nat) (n : Int) (rd : Int) (e : Int) (B : Nat → Nat) (v : Int) (hn : 0 ≤ n ∧ n ≤ 3000) (he : e = 0 ∨ e = 1) : CtXI l G yX5_add (.code yX5_add cX5_add 2 (some .int)) ({ frames := 6, cells := 1, slots := 6, locals := 82 } : Room) [.ref o, .int (iI v)] [oTR o b w s2 i2 p9 br lt k lp, oBy b a n rd e, aB G a 3000 B] (fun (z9 : Int) (w9 : va_W) => z9 = (n + 1) ∧ w9 = [oTR o b w s2 i2 p9 br lt k lp, oBy b a (n + 1) rd e, aB G a 3000 (uB B n.toNat (by8 v))] ∧ (e = 0 ∧ n < 3000)) (fun (E9 : String) (w9 : va_W) => (E9 = tISE ∧ w9 = [oTR o b w s2 i2 p9 br lt k lp, oBy b a n rd e, aB G a 3000 B] ∧ (e = 1)) ∨ (E9 = tUOE ∧ w9 = [oTR o b w s2 i2 p9 br lt k lp, oBy b a n rd e, aB G a 3000 B] ∧ (e = 0 ∧ n = 3000))) := by
  intro sz
  refine metX_of hfl (fun wc sz => va_Qi (qI _) (posW G wc sz) (va_A wc sz)) _ (by decide) [(0, .ref o), (1, .int (iI v))] rfl (Nat.le_of_ble_eq_true rfl) (fun K hK9 N X Y => ?_)
  subst hK9
  replace Y : RXI K G (some .int) 1 6 _ _ := Y
  have hZ := Y.2.2.2.1
  refine s_aload_n X dX5_add_0 rfl 0 rfl ?_
  refine s_get X dX5_add_1 fl_X5_10 0 rfl rfl ?_
  refine s_get X dX5_add_4 fl_X5_53 1 rfl rfl ?_
  refine s_if_eq X 20 dX5_add_7 (by decide) (by omega) (fun c7 => ?_) (fun c7 => ?_)
  · refine s_aload_n X dX5_add_20 rfl 0 rfl ?_
    refine s_get X dX5_add_21 fl_X5_10 0 rfl rfl ?_
    refine s_iload_n X dX5_add_24 rfl 1 rfl ?_
    refine s_callIV X lk_X5_64 [1, 2] [0] (wr := [oTR o b w s2 i2 p9 br lt k lp]) rfl rfl (by decide) (by decide) (by decide) (c_X1_append (kl K) G b a n rd e B v (by assumption)) rfl rfl dX5_add_25 rfl rfl (Nat.le_of_ble_eq_true rfl) (by decide) (fun z1 w1 h1 => ?_)
    obtain ⟨rfl, rfl⟩ := h1
    show SW K G 2 0 0 28 [(0, .ref o), (1, .int (iI v))] [.int (iI (tf (n < 3000)))] [oTR o b w s2 i2 p9 br lt k lp, oBy b a (if n < 3000 then n + 1 else n) rd e, aB G a 3000 (if n < 3000 then uB B n.toNat (by8 v) else B)]
    refine s_tf_ne X 41 dX5_add_28 (by decide) (fun c28 => ?_) (fun c28 => ?_)
    · refine s_cast (ws' := [oTR o b w s2 i2 p9 br lt k lp, oBy b a (n + 1) rd e, aB G a 3000 (uB B n.toNat (by8 v))]) rfl (by rw [if_pos (by omega), if_pos (by omega)]) rfl ?_
      refine s_aload_n X dX5_add_41 rfl 0 rfl ?_
      refine s_get X dX5_add_42 fl_X5_10 0 rfl rfl ?_
      refine s_get X dX5_add_45 fl_X5_73 1 rfl rfl ?_
      refine s_iretX X Y ⟨Nat.le_of_ble_eq_true rfl, Nat.le_of_ble_eq_true rfl⟩ dX5_add_48 (rfl) ?_
      refine ⟨?_, rfl, ?_⟩
      · (first | (exfalso; omega) | (rfl))
      · (first | (exfalso; omega) | (omega))
    · refine s_cast (ws' := [oTR o b w s2 i2 p9 br lt k lp, oBy b a n rd e, aB G a 3000 B]) rfl (by rw [if_neg (by omega), if_neg (by omega)]) rfl ?_
      refine s_throw X N Y tl_uoe hZ.2.2.2.1 dX5_add_31 dX5_add_34 dX5_add_35 dX5_add_37 dX5_add_40 ⟨Nat.le_of_ble_eq_true rfl, Nat.le_of_ble_eq_true rfl, Nat.le_of_ble_eq_true rfl, Nat.le_of_ble_eq_true rfl, Nat.le_of_ble_eq_true rfl, Nat.le_of_ble_eq_true rfl⟩ ?_
      refine (Or.inr ⟨rfl, rfl, ?_⟩)
      · omega
  · refine s_throw X N Y tl_ise hZ.2.2.1 dX5_add_10 dX5_add_13 dX5_add_14 dX5_add_16 dX5_add_19 ⟨Nat.le_of_ble_eq_true rfl, Nat.le_of_ble_eq_true rfl, Nat.le_of_ble_eq_true rfl, Nat.le_of_ble_eq_true rfl, Nat.le_of_ble_eq_true rfl, Nat.le_of_ble_eq_true rfl⟩ ?_
    refine (Or.inl ⟨rfl, rfl, ?_⟩)
    · omega
set_option maxRecDepth 100000 in
set_option maxHeartbeats 4000000 in
theorem c_X5_binary (l : Launch) (hfl : l.stackTraces = false) (G : GX) (o : Nat) (b : Nat) (w : Nat) (s2 : Nat) (i2 : Nat) (p9 : Nat) (lt : Nat) (br : Int) (lp : Int) (k : Nat) (lx : Nat) (li8 : Nat) (ld8 : Nat) (lpl : Int) (laf : Int) (lwh : Int) (llen : Int) (lror : Int) (lrl : Int) (lre : UInt64) (lrn : Nat → Int) (i : Int) (wt : Int) (hlr : 0 ≤ lrl ∧ lrl ≤ 60) (hi : R32 i ∧ R32 wt) (hlo : lror = 0 ∨ lror = 1) : CtXI l G yX5_binary (.code yX5_binary cX5_binary 3 (some .int)) ({ frames := 6, cells := 1, slots := 6, locals := 82 } : Room) [.ref o, .int (iI i), .int (iI wt)] [oTR o b w s2 i2 p9 br lt k lp, oTk lt lpl laf lwh lre lx llen li8 ld8 lror lrl, aI G li8 60 lrn] (fun (z9 : Int) (w9 : va_W) => w9 = [oTR o b w s2 i2 p9 br lt k lp, oTk lt lpl laf lwh lre lx llen li8 ld8 lror lrl, aI G li8 60 lrn] ∧ ((0 ≤ i ∧ i < lrl ∧ 0 ≤ wt ∧ wt ≤ 1) ∧ z9 = (if wt = 0 then (if lror = 0 then 0 else 1) else lrn i.toNat))) (fun (E9 : String) (w9 : va_W) => (E9 = tIOB ∧ w9 = [oTR o b w s2 i2 p9 br lt k lp, oTk lt lpl laf lwh lre lx llen li8 ld8 lror lrl, aI G li8 60 lrn] ∧ (¬ (0 ≤ i ∧ i < lrl ∧ 0 ≤ wt ∧ wt ≤ 1)))) := by
  intro sz
  refine metX_of hfl (fun wc sz => va_Qi (qI _) (posW G wc sz) (va_A wc sz)) _ (by decide) [(0, .ref o), (1, .int (iI i)), (2, .int (iI wt))] rfl (Nat.le_of_ble_eq_true rfl) (fun K hK9 N X Y => ?_)
  subst hK9
  replace Y : RXI K G (some .int) 1 6 _ _ := Y
  have hZ := Y.2.2.2.1
  refine s_aload_n X dX5_binary_0 rfl 0 rfl ?_
  refine s_get X dX5_binary_1 fl_X5_46 0 rfl rfl ?_
  refine s_iload_n X dX5_binary_4 rfl 1 rfl ?_
  refine s_callIV X lk_X5_121 [1] [0, 2] (wr := [oTR o b w s2 i2 p9 br lt k lp, aI G li8 60 lrn]) rfl rfl (by decide) (by decide) (by decide) (c_X3_hasInRow (kl K) G lt lx li8 ld8 lpl laf lwh llen lror lrl lre i (by omega) (by omega)) rfl rfl dX5_binary_5 rfl rfl (Nat.le_of_ble_eq_true rfl) (by decide) (fun z1 w1 h1 => ?_)
  obtain ⟨rfl, rfl⟩ := h1
  show SW K G 3 0 0 8 [(0, .ref o), (1, .int (iI i)), (2, .int (iI wt))] [.int (iI (tf (0 ≤ i ∧ i < lrl)))] [oTR o b w s2 i2 p9 br lt k lp, aI G li8 60 lrn, oTk lt lpl laf lwh lre lx llen li8 ld8 lror lrl]
  refine s_tf_eq X 20 dX5_binary_8 (by decide) (fun c8 => ?_) (fun c8 => ?_)
  · refine s_perm (ws' := [oTR o b w s2 i2 p9 br lt k lp, oTk lt lpl laf lwh lre lx llen li8 ld8 lror lrl, aI G li8 60 lrn]) [0, 2, 1] (by decide) rfl rfl ?_
    refine s_throw X N Y tl_iob hZ.2.2.2.2.1 dX5_binary_20 dX5_binary_23 dX5_binary_24 dX5_binary_26 dX5_binary_29 ⟨Nat.le_of_ble_eq_true rfl, Nat.le_of_ble_eq_true rfl, Nat.le_of_ble_eq_true rfl, Nat.le_of_ble_eq_true rfl, Nat.le_of_ble_eq_true rfl, Nat.le_of_ble_eq_true rfl⟩ ?_
    refine ⟨rfl, rfl, ?_⟩
    · omega
  · refine s_iload_n X dX5_binary_11 rfl 2 rfl ?_
    refine s_if_lt X 20 dX5_binary_12 (by decide) (by omega) (fun c12 => ?_) (fun c12 => ?_)
    · refine s_perm (ws' := [oTR o b w s2 i2 p9 br lt k lp, oTk lt lpl laf lwh lre lx llen li8 ld8 lror lrl, aI G li8 60 lrn]) [0, 2, 1] (by decide) rfl rfl ?_
      refine s_throw X N Y tl_iob hZ.2.2.2.2.1 dX5_binary_20 dX5_binary_23 dX5_binary_24 dX5_binary_26 dX5_binary_29 ⟨Nat.le_of_ble_eq_true rfl, Nat.le_of_ble_eq_true rfl, Nat.le_of_ble_eq_true rfl, Nat.le_of_ble_eq_true rfl, Nat.le_of_ble_eq_true rfl, Nat.le_of_ble_eq_true rfl⟩ ?_
      refine ⟨rfl, rfl, ?_⟩
      · omega
    · refine s_iload_n X dX5_binary_15 rfl 2 rfl ?_
      refine s_iconst X dX5_binary_16 ?_
      refine s_icmp_le X 30 dX5_binary_17 (by decide) (by omega) (fun c17 => ?_) (fun c17 => ?_)
      · refine s_iload_n X dX5_binary_30 rfl 2 rfl ?_
        refine s_if_ne X 50 dX5_binary_31 (by decide) (by omega) (fun c31 => ?_) (fun c31 => ?_)
        · refine s_aload_n X dX5_binary_50 rfl 0 rfl ?_
          refine s_get X dX5_binary_51 fl_X5_46 0 rfl rfl ?_
          refine s_get X dX5_binary_54 fl_X5_133 2 rfl rfl ?_
          refine s_iload_n X dX5_binary_57 rfl 1 rfl ?_
          refine s_iald X dX5_binary_58 1 rfl (by omega) ?_
          refine s_perm (ws' := [oTR o b w s2 i2 p9 br lt k lp, oTk lt lpl laf lwh lre lx llen li8 ld8 lror lrl, aI G li8 60 lrn]) [0, 2, 1] (by decide) rfl rfl ?_
          refine s_iretX X Y ⟨Nat.le_of_ble_eq_true rfl, Nat.le_of_ble_eq_true rfl⟩ dX5_binary_59 (rfl) ?_
          refine ⟨rfl, ?_⟩
          · (first | (exfalso; omega) | (refine ⟨by omega, ?_⟩; first | rw [if_pos (by omega), if_pos (by omega)] | rw [if_pos (by omega), if_neg (by omega)] | rw [if_neg (by omega)]))
        · refine s_aload_n X dX5_binary_34 rfl 0 rfl ?_
          refine s_get X dX5_binary_35 fl_X5_46 0 rfl rfl ?_
          refine s_get X dX5_binary_38 fl_X5_130 2 rfl rfl ?_
          refine s_if_eq X 48 dX5_binary_41 (by decide) (by omega) (fun c41 => ?_) (fun c41 => ?_)
          · refine s_iconst X dX5_binary_48 ?_
            refine s_perm (ws' := [oTR o b w s2 i2 p9 br lt k lp, oTk lt lpl laf lwh lre lx llen li8 ld8 lror lrl, aI G li8 60 lrn]) [0, 2, 1] (by decide) rfl rfl ?_
            refine s_iretX X Y ⟨Nat.le_of_ble_eq_true rfl, Nat.le_of_ble_eq_true rfl⟩ dX5_binary_49 (rfl) ?_
            refine ⟨rfl, ?_⟩
            · (first | (exfalso; omega) | (refine ⟨by omega, ?_⟩; first | rw [if_pos (by omega), if_pos (by omega)] | rw [if_pos (by omega), if_neg (by omega)] | rw [if_neg (by omega)]))
          · refine s_iconst X dX5_binary_44 ?_
            refine s_goto X 49 dX5_binary_45 (by decide) ?_
            refine s_perm (ws' := [oTR o b w s2 i2 p9 br lt k lp, oTk lt lpl laf lwh lre lx llen li8 ld8 lror lrl, aI G li8 60 lrn]) [0, 2, 1] (by decide) rfl rfl ?_
            refine s_iretX X Y ⟨Nat.le_of_ble_eq_true rfl, Nat.le_of_ble_eq_true rfl⟩ dX5_binary_49 (rfl) ?_
            refine ⟨rfl, ?_⟩
            · (first | (exfalso; omega) | (refine ⟨by omega, ?_⟩; first | rw [if_pos (by omega), if_pos (by omega)] | rw [if_pos (by omega), if_neg (by omega)] | rw [if_neg (by omega)]))
      · refine s_perm (ws' := [oTR o b w s2 i2 p9 br lt k lp, oTk lt lpl laf lwh lre lx llen li8 ld8 lror lrl, aI G li8 60 lrn]) [0, 2, 1] (by decide) rfl rfl ?_
        refine s_throw X N Y tl_iob hZ.2.2.2.2.1 dX5_binary_20 dX5_binary_23 dX5_binary_24 dX5_binary_26 dX5_binary_29 ⟨Nat.le_of_ble_eq_true rfl, Nat.le_of_ble_eq_true rfl, Nat.le_of_ble_eq_true rfl, Nat.le_of_ble_eq_true rfl, Nat.le_of_ble_eq_true rfl, Nat.le_of_ble_eq_true rfl⟩ ?_
        refine ⟨rfl, rfl, ?_⟩
        · omega
set_option maxRecDepth 100000 in
set_option maxHeartbeats 4000000 in
theorem c_X5_binaryReal (l : Launch) (hfl : l.stackTraces = false) (G : GX) (o : Nat) (b : Nat) (w : Nat) (s2 : Nat) (i2 : Nat) (p9 : Nat) (lt : Nat) (br : Int) (lp : Int) (k : Nat) (lx : Nat) (li8 : Nat) (ld8 : Nat) (lpl : Int) (laf : Int) (lwh : Int) (llen : Int) (lror : Int) (lrl : Int) (lre : UInt64) (lrr : Nat → UInt64) (i : Int) (hlr : 0 ≤ lrl ∧ lrl ≤ 60) (hi : R32 i) : CtXD l G yX5_binaryReal (.code yX5_binaryReal cX5_binaryReal 2 (some .double)) ({ frames := 6, cells := 1, slots := 6, locals := 82 } : Room) [.ref o, .int (iI i)] [oTR o b w s2 i2 p9 br lt k lp, oTk lt lpl laf lwh lre lx llen li8 ld8 lror lrl, aF G ld8 60 lrr] (fun (z9 : UInt64) (w9 : va_W) => z9 = (lrr i.toNat) ∧ w9 = [oTR o b w s2 i2 p9 br lt k lp, oTk lt lpl laf lwh lre lx llen li8 ld8 lror lrl, aF G ld8 60 lrr] ∧ (0 ≤ i ∧ i < lrl)) (fun (E9 : String) (w9 : va_W) => (E9 = tIOB ∧ w9 = [oTR o b w s2 i2 p9 br lt k lp, oTk lt lpl laf lwh lre lx llen li8 ld8 lror lrl, aF G ld8 60 lrr] ∧ (¬ (0 ≤ i ∧ i < lrl)))) := by
  intro sz
  refine metX_of hfl (fun wc sz => va_Qd _ (posW G wc sz) (va_A wc sz)) _ (by decide) [(0, .ref o), (1, .int (iI i))] rfl (Nat.le_of_ble_eq_true rfl) (fun K hK9 N X Y => ?_)
  subst hK9
  replace Y : RXD K G (some .double) 1 6 _ _ := Y
  have hZ := Y.2.2.2.1
  refine s_aload_n X dX5_binaryReal_0 rfl 0 rfl ?_
  refine s_get X dX5_binaryReal_1 fl_X5_46 0 rfl rfl ?_
  refine s_iload_n X dX5_binaryReal_4 rfl 1 rfl ?_
  refine s_callIV X lk_X5_121 [1] [0, 2] (wr := [oTR o b w s2 i2 p9 br lt k lp, aF G ld8 60 lrr]) rfl rfl (by decide) (by decide) (by decide) (c_X3_hasInRow (kl K) G lt lx li8 ld8 lpl laf lwh llen lror lrl lre i (by omega) (by omega)) rfl rfl dX5_binaryReal_5 rfl rfl (Nat.le_of_ble_eq_true rfl) (by decide) (fun z1 w1 h1 => ?_)
  obtain ⟨rfl, rfl⟩ := h1
  show SW K G 2 0 0 8 [(0, .ref o), (1, .int (iI i))] [.int (iI (tf (0 ≤ i ∧ i < lrl)))] [oTR o b w s2 i2 p9 br lt k lp, aF G ld8 60 lrr, oTk lt lpl laf lwh lre lx llen li8 ld8 lror lrl]
  refine s_tf_ne X 21 dX5_binaryReal_8 (by decide) (fun c8 => ?_) (fun c8 => ?_)
  · refine s_aload_n X dX5_binaryReal_21 rfl 0 rfl ?_
    refine s_get X dX5_binaryReal_22 fl_X5_46 0 rfl rfl ?_
    refine s_get X dX5_binaryReal_25 fl_X5_136 2 rfl rfl ?_
    refine s_iload_n X dX5_binaryReal_28 rfl 1 rfl ?_
    refine s_dald X dX5_binaryReal_29 1 rfl (by omega) ?_
    refine s_perm (ws' := [oTR o b w s2 i2 p9 br lt k lp, oTk lt lpl laf lwh lre lx llen li8 ld8 lror lrl, aF G ld8 60 lrr]) [0, 2, 1] (by decide) rfl rfl ?_
    refine s_dretX X Y ⟨Nat.le_of_ble_eq_true rfl, Nat.le_of_ble_eq_true rfl⟩ dX5_binaryReal_30 ?_
    refine ⟨?_, rfl, ?_⟩
    · (first | (exfalso; omega) | (rfl))
    · (first | (exfalso; omega) | (omega))
  · refine s_perm (ws' := [oTR o b w s2 i2 p9 br lt k lp, oTk lt lpl laf lwh lre lx llen li8 ld8 lror lrl, aF G ld8 60 lrr]) [0, 2, 1] (by decide) rfl rfl ?_
    refine s_throw X N Y tl_iob hZ.2.2.2.2.1 dX5_binaryReal_11 dX5_binaryReal_14 dX5_binaryReal_15 dX5_binaryReal_17 dX5_binaryReal_20 ⟨Nat.le_of_ble_eq_true rfl, Nat.le_of_ble_eq_true rfl, Nat.le_of_ble_eq_true rfl, Nat.le_of_ble_eq_true rfl, Nat.le_of_ble_eq_true rfl, Nat.le_of_ble_eq_true rfl⟩ ?_
    refine ⟨rfl, rfl, ?_⟩
    · omega
set_option maxRecDepth 100000 in
set_option maxHeartbeats 4000000 in
theorem c_X5_octet (l : Launch) (hfl : l.stackTraces = false) (G : GX) (o : Nat) (b : Nat) (w : Nat) (s2 : Nat) (i2 : Nat) (p9 : Nat) (lt : Nat) (br : Int) (lp : Int) (k : Nat) (a : Nat) (n : Int) (rd : Int) (e : Int) (B : Nat → Nat) (i : Int) (hn : 0 ≤ n ∧ n ≤ 3000) (hBb : ∀ j, B j < 256) (hi : R32 i) : CtXI l G yX5_octet (.code yX5_octet cX5_octet 2 (some .byte)) ({ frames := 7, cells := 1, slots := 6, locals := 95 } : Room) [.ref o, .int (iI i)] [oTR o b w s2 i2 p9 br lt k lp, oBy b a n rd e, aB G a 3000 B] (fun (z9 : Int) (w9 : va_W) => z9 = (sg8 (B i.toNat)) ∧ w9 = [oTR o b w s2 i2 p9 br lt k lp, oBy b a n rd e, aB G a 3000 B] ∧ (0 ≤ i ∧ i < n)) (fun (E9 : String) (w9 : va_W) => (E9 = tAIO ∧ w9 = [oTR o b w s2 i2 p9 br lt k lp, oBy b a n rd e, aB G a 3000 B] ∧ (¬ (0 ≤ i ∧ i < n)))) := by
  intro sz
  refine metX_of hfl (fun wc sz => va_Qi (qI _) (posW G wc sz) (va_A wc sz)) _ (by decide) [(0, .ref o), (1, .int (iI i))] rfl (Nat.le_of_ble_eq_true rfl) (fun K hK9 N X Y => ?_)
  subst hK9
  replace Y : RXI K G (some .byte) 1 6 _ _ := Y
  have hZ := Y.2.2.2.1
  refine s_aload_n X dX5_octet_0 rfl 0 rfl ?_
  refine s_get X dX5_octet_1 fl_X5_10 0 rfl rfl ?_
  refine s_iload_n X dX5_octet_4 rfl 1 rfl ?_
  refine s_callIV X lk_X5_146 [1] [0, 2] (wr := [oTR o b w s2 i2 p9 br lt k lp, aB G a 3000 B]) rfl rfl (by decide) (by decide) (by decide) (c_X1_has (kl K) G b a n rd e i (by assumption) (by omega)) rfl rfl dX5_octet_5 rfl rfl (Nat.le_of_ble_eq_true rfl) (by decide) (fun z1 w1 h1 => ?_)
  obtain ⟨rfl, rfl⟩ := h1
  show SW K G 2 0 0 8 [(0, .ref o), (1, .int (iI i))] [.int (iI (tf (0 ≤ i ∧ i < n)))] [oTR o b w s2 i2 p9 br lt k lp, aB G a 3000 B, oBy b a n rd e]
  refine s_tf_ne X 21 dX5_octet_8 (by decide) (fun c8 => ?_) (fun c8 => ?_)
  · refine s_aload_n X dX5_octet_21 rfl 0 rfl ?_
    refine s_get X dX5_octet_22 fl_X5_10 0 rfl rfl ?_
    refine s_iload_n X dX5_octet_25 rfl 1 rfl ?_
    refine s_callIV X lk_X5_91 [2, 1] [0] (wr := [oTR o b w s2 i2 p9 br lt k lp]) rfl rfl (by decide) (by decide) (by decide) (c_X1_at (kl K) G b a n rd e B i (by assumption) (by assumption) (by omega)) rfl rfl dX5_octet_26 rfl rfl (Nat.le_of_ble_eq_true rfl) (by decide) (fun z2 w2 h2 => ?_)
    obtain ⟨rfl, rfl⟩ := h2
    show SW K G 2 0 0 29 [(0, .ref o), (1, .int (iI i))] [.int (iI (bA B n i))] [oTR o b w s2 i2 p9 br lt k lp, oBy b a n rd e, aB G a 3000 B]
    have q3 := bA_C n i (by assumption : ∀ j, B j < 256)
    refine s_i2b X dX5_octet_29 ?_
    refine s_cast (st' := [.int (iI (sg8 (B i.toNat)))]) (by rw [bA_in (by omega), by8_B hBb, sb_sg (hBb _)]) rfl rfl ?_
    refine s_iretX X Y ⟨Nat.le_of_ble_eq_true rfl, Nat.le_of_ble_eq_true rfl⟩ dX5_octet_30 (sg8_nar (hBb _)) ?_
    refine ⟨?_, rfl, ?_⟩
    · (first | (exfalso; omega) | (rfl))
    · (first | (exfalso; omega) | (omega))
  · refine s_perm (ws' := [oTR o b w s2 i2 p9 br lt k lp, oBy b a n rd e, aB G a 3000 B]) [0, 2, 1] (by decide) rfl rfl ?_
    refine s_throw X N Y tl_aio hZ.2.2.2.2.2.1 dX5_octet_11 dX5_octet_14 dX5_octet_15 dX5_octet_17 dX5_octet_20 ⟨Nat.le_of_ble_eq_true rfl, Nat.le_of_ble_eq_true rfl, Nat.le_of_ble_eq_true rfl, Nat.le_of_ble_eq_true rfl, Nat.le_of_ble_eq_true rfl, Nat.le_of_ble_eq_true rfl⟩ ?_
    refine ⟨rfl, rfl, ?_⟩
    · omega
