set_option maxRecDepth 100000 in
set_option maxHeartbeats 4000000 in
theorem c_X5_end (l : Launch) (G : GX) (o : Nat) (b : Nat) (w : Nat) (s2 : Nat) (i2 : Nat) (p9 : Nat) (lt : Nat) (br : Int) (lp : Int) (k : Nat) (a : Nat) (n : Int) (rd : Int) (e : Int) (he : e = 0 ∨ e = 1) : CtI l G yX5_end cX5_end 1 (some .int) ({ frames := 0, cells := 0, slots := 0, locals := 0 } : Room) [.ref o] [oTR o b w s2 i2 p9 br lt k lp, oBy b a n rd e] (fun (z9 : Int) (w9 : va_W) => z9 = (if e = 0 then n - rd else -1) ∧ w9 = [oTR o b w s2 i2 p9 br lt k lp, oBy b a n rd 1]) := by
  intro sz
  refine met_of (fun wc sz => va_Qi (qI _) (posW G wc sz) (va_A wc sz)) (by decide) [(0, .ref o)] rfl (Nat.le_of_ble_eq_true rfl) (fun K hK9 hnm X Y => ?_)
  subst hK9
  replace Y : RI K G (some .int) 0 0 _ := Y
  refine s_aload_n X dX5_end_0 rfl 0 rfl ?_
  refine s_get X dX5_end_1 fl_X5_10 0 rfl rfl ?_
  refine s_get X dX5_end_4 fl_X5_53 1 rfl rfl ?_
  refine s_if_eq X 12 dX5_end_7 (by decide) (by omega) (fun c7 => ?_) (fun c7 => ?_)
  · refine s_aload_n X dX5_end_12 rfl 0 rfl ?_
    refine s_get X dX5_end_13 fl_X5_10 0 rfl rfl ?_
    refine s_iconst X dX5_end_16 ?_
    refine s_put X dX5_end_17 fl_X5_53 tyX1_ok nmX1 1 rfl rfl (rfl) (rfl) (Nat.le_of_ble_eq_true rfl) [oTR o b w s2 i2 p9 br lt k lp, oBy b a n rd 1] rfl ?_
    refine s_aload_n X dX5_end_20 rfl 0 rfl ?_
    refine s_get X dX5_end_21 fl_X5_10 0 rfl rfl ?_
    refine s_get X dX5_end_24 fl_X5_73 1 rfl rfl ?_
    refine s_aload_n X dX5_end_27 rfl 0 rfl ?_
    refine s_get X dX5_end_28 fl_X5_10 0 rfl rfl ?_
    refine s_get X dX5_end_31 fl_X5_77 1 rfl rfl ?_
    refine s_isub X dX5_end_34 ?_
    refine s_iret X Y dX5_end_35 (rfl) ?_
    refine ⟨?_, rfl⟩
    · (first | (exfalso; omega) | (first | exact (if_neg (by omega)).symm | exact (if_pos (by omega)).symm))
  · refine s_iconst X dX5_end_10 ?_
    refine s_iret X Y dX5_end_11 (rfl) ?_
    refine ⟨?_, ?_⟩
    · (first | (exfalso; omega) | (first | exact (if_neg (by omega)).symm | exact (if_pos (by omega)).symm))
    · (first | (exfalso; omega) | (have e1 : e = 1 := (by omega); rw [e1]))
set_option maxRecDepth 100000 in
set_option maxHeartbeats 4000000 in
theorem c_X5_whole (l : Launch) (G : GX) (o : Nat) (b : Nat) (w : Nat) (s2 : Nat) (i2 : Nat) (p9 : Nat) (lt : Nat) (br : Int) (lp : Int) (k : Nat) (lx : Nat) (li8 : Nat) (ld8 : Nat) (lpl : Int) (laf : Int) (lwh : Int) (llen : Int) (lror : Int) (lrl : Int) (lre : UInt64)  : CtL l G yX5_whole cX5_whole 1 (some .long) ({ frames := 0, cells := 0, slots := 0, locals := 0 } : Room) [.ref o] [oTR o b w s2 i2 p9 br lt k lp, oTk lt lpl laf lwh lre lx llen li8 ld8 lror lrl] (fun (z9 : Int) (w9 : va_W) => z9 = lwh ∧ w9 = [oTR o b w s2 i2 p9 br lt k lp, oTk lt lpl laf lwh lre lx llen li8 ld8 lror lrl]) := by
  intro sz
  refine met_of (fun wc sz => va_Ql (qL _) (posW G wc sz) (va_A wc sz)) (by decide) [(0, .ref o)] rfl (Nat.le_of_ble_eq_true rfl) (fun K hK9 hnm X Y => ?_)
  subst hK9
  replace Y : RLg K G (some .long) 0 0 _ := Y
  refine s_aload_n X dX5_whole_0 rfl 0 rfl ?_
  refine s_get X dX5_whole_1 fl_X5_46 0 rfl rfl ?_
  refine s_get X dX5_whole_4 fl_X5_110 1 rfl rfl ?_
  refine s_lret X Y dX5_whole_7 ?_
  refine ⟨?_, rfl⟩
  · (first | (exfalso; omega) | (first | rfl | omega | (simp [*]; done)))
set_option maxRecDepth 100000 in
set_option maxHeartbeats 4000000 in
theorem c_X5_real (l : Launch) (G : GX) (o : Nat) (b : Nat) (w : Nat) (s2 : Nat) (i2 : Nat) (p9 : Nat) (lt : Nat) (br : Int) (lp : Int) (k : Nat) (lx : Nat) (li8 : Nat) (ld8 : Nat) (lpl : Int) (laf : Int) (lwh : Int) (llen : Int) (lror : Int) (lrl : Int) (lre : UInt64)  : CtD l G yX5_real cX5_real 1 (some .double) ({ frames := 0, cells := 0, slots := 0, locals := 0 } : Room) [.ref o] [oTR o b w s2 i2 p9 br lt k lp, oTk lt lpl laf lwh lre lx llen li8 ld8 lror lrl] (fun (z9 : UInt64) (w9 : va_W) => z9 = lre ∧ w9 = [oTR o b w s2 i2 p9 br lt k lp, oTk lt lpl laf lwh lre lx llen li8 ld8 lror lrl]) := by
  intro sz
  refine met_of (fun wc sz => va_Qd _ (posW G wc sz) (va_A wc sz)) (by decide) [(0, .ref o)] rfl (Nat.le_of_ble_eq_true rfl) (fun K hK9 hnm X Y => ?_)
  subst hK9
  replace Y : RD K G (some .double) 0 0 _ := Y
  refine s_aload_n X dX5_real_0 rfl 0 rfl ?_
  refine s_get X dX5_real_1 fl_X5_46 0 rfl rfl ?_
  refine s_get X dX5_real_4 fl_X5_114 1 rfl rfl ?_
  refine s_dret X Y dX5_real_7 ?_
  refine ⟨?_, rfl⟩
  · (first | (exfalso; omega) | (first | rfl | omega | (simp [*]; done)))
set_option maxRecDepth 100000 in
set_option maxHeartbeats 4000000 in
theorem c_X5_place (l : Launch) (G : GX) (o : Nat) (b : Nat) (w : Nat) (s2 : Nat) (i2 : Nat) (p9 : Nat) (lt : Nat) (br : Int) (lp : Int) (k : Nat)  : CtI l G yX5_place cX5_place 1 (some .int) ({ frames := 0, cells := 0, slots := 0, locals := 0 } : Room) [.ref o] [oTR o b w s2 i2 p9 br lt k lp] (fun (z9 : Int) (w9 : va_W) => z9 = lp ∧ w9 = [oTR o b w s2 i2 p9 br lt k lp]) := by
  intro sz
  refine met_of (fun wc sz => va_Qi (qI _) (posW G wc sz) (va_A wc sz)) (by decide) [(0, .ref o)] rfl (Nat.le_of_ble_eq_true rfl) (fun K hK9 hnm X Y => ?_)
  subst hK9
  replace Y : RI K G (some .int) 0 0 _ := Y
  refine s_aload_n X dX5_place_0 rfl 0 rfl ?_
  refine s_get X dX5_place_1 fl_X5_104 0 rfl rfl ?_
  refine s_iret X Y dX5_place_4 (rfl) ?_
  refine ⟨?_, rfl⟩
  · (first | (exfalso; omega) | (first | rfl | omega | (simp [*]; done)))
set_option maxRecDepth 100000 in
set_option maxHeartbeats 4000000 in
theorem c_X5_depth (l : Launch) (G : GX) (o : Nat) (b : Nat) (w : Nat) (s2 : Nat) (i2 : Nat) (p9 : Nat) (lt : Nat) (br : Int) (lp : Int) (k : Nat)  : CtI l G yX5_depth cX5_depth 1 (some .int) ({ frames := 0, cells := 0, slots := 0, locals := 0 } : Room) [.ref o] [oTR o b w s2 i2 p9 br lt k lp] (fun (z9 : Int) (w9 : va_W) => z9 = br ∧ w9 = [oTR o b w s2 i2 p9 br lt k lp]) := by
  intro sz
  refine met_of (fun wc sz => va_Qi (qI _) (posW G wc sz) (va_A wc sz)) (by decide) [(0, .ref o)] rfl (Nat.le_of_ble_eq_true rfl) (fun K hK9 hnm X Y => ?_)
  subst hK9
  replace Y : RI K G (some .int) 0 0 _ := Y
  refine s_aload_n X dX5_depth_0 rfl 0 rfl ?_
  refine s_get X dX5_depth_1 fl_X5_143 0 rfl rfl ?_
  refine s_iret X Y dX5_depth_4 (rfl) ?_
  refine ⟨?_, rfl⟩
  · (first | (exfalso; omega) | (first | rfl | omega | (simp [*]; done)))
set_option maxRecDepth 100000 in
set_option maxHeartbeats 4000000 in
theorem c_X5_base (l : Launch) (G : GX) (o : Nat) (b : Nat) (w : Nat) (s2 : Nat) (i2 : Nat) (p9 : Nat) (lt : Nat) (br : Int) (lp : Int) (k : Nat) (base : Int)  : CtI l G yX5_base cX5_base 1 (some .int) ({ frames := 0, cells := 0, slots := 0, locals := 0 } : Room) [.ref o] [oTR o b w s2 i2 p9 br lt k lp, oWd w b base] (fun (z9 : Int) (w9 : va_W) => z9 = base ∧ w9 = [oTR o b w s2 i2 p9 br lt k lp, oWd w b base]) := by
  intro sz
  refine met_of (fun wc sz => va_Qi (qI _) (posW G wc sz) (va_A wc sz)) (by decide) [(0, .ref o)] rfl (Nat.le_of_ble_eq_true rfl) (fun K hK9 hnm X Y => ?_)
  subst hK9
  replace Y : RI K G (some .int) 0 0 _ := Y
  refine s_aload_n X dX5_base_0 rfl 0 rfl ?_
  refine s_get X dX5_base_1 fl_X5_21 0 rfl rfl ?_
  refine s_get X dX5_base_4 fl_X5_140 1 rfl rfl ?_
  refine s_iret X Y dX5_base_7 (rfl) ?_
  refine ⟨?_, rfl⟩
  · (first | (exfalso; omega) | (first | rfl | omega | (simp [*]; done)))
set_option maxRecDepth 100000 in
set_option maxHeartbeats 4000000 in
theorem c_X5_sign (l : Launch) (G : GX) (o : Nat) (b : Nat) (w : Nat) (s2 : Nat) (i2 : Nat) (p9 : Nat) (lt : Nat) (br : Int) (lp : Int) (k : Nat) (lx : Nat) (li8 : Nat) (ld8 : Nat) (lpl : Int) (laf : Int) (lwh : Int) (llen : Int) (lror : Int) (lrl : Int) (lre : UInt64) (lt9 : Nat → Nat) (i : Int) (hll : 0 ≤ llen ∧ llen ≤ 401) (hlb : ∀ j, lt9 j < 256) (hi : R32 i) : CtI l G yX5_sign cX5_sign 2 (some .int) ({ frames := 1, cells := 0, slots := 0, locals := 21 } : Room) [.ref o, .int (iI i)] [oTR o b w s2 i2 p9 br lt k lp, oTk lt lpl laf lwh lre lx llen li8 ld8 lror lrl, aB G lx 401 lt9] (fun (z9 : Int) (w9 : va_W) => z9 = (bA lt9 llen i) ∧ w9 = [oTR o b w s2 i2 p9 br lt k lp, oTk lt lpl laf lwh lre lx llen li8 ld8 lror lrl, aB G lx 401 lt9]) := by
  intro sz
  refine met_of (fun wc sz => va_Qi (qI _) (posW G wc sz) (va_A wc sz)) (by decide) [(0, .ref o), (1, .int (iI i))] rfl (Nat.le_of_ble_eq_true rfl) (fun K hK9 hnm X Y => ?_)
  subst hK9
  replace Y : RI K G (some .int) 0 0 _ := Y
  refine s_aload_n X dX5_sign_0 rfl 0 rfl ?_
  refine s_get X dX5_sign_1 fl_X5_46 0 rfl rfl ?_
  refine s_iload_n X dX5_sign_4 rfl 1 rfl ?_
  refine s_callIV X lk_X5_118 [1, 2] [0] (wr := [oTR o b w s2 i2 p9 br lt k lp]) rfl rfl (by decide) (by decide) (by decide) (c_X3_textAt (kl K) G lt lx li8 ld8 lpl laf lwh llen lror lrl lre lt9 i (by omega) (by assumption) (by omega)) rfl rfl dX5_sign_5 rfl rfl (Nat.le_of_ble_eq_true rfl) (by decide) (fun z1 w1 h1 => ?_)
  obtain ⟨rfl, rfl⟩ := h1
  show SW K G 2 0 0 8 [(0, .ref o), (1, .int (iI i))] [.int (iI (bA lt9 llen i))] [oTR o b w s2 i2 p9 br lt k lp, oTk lt lpl laf lwh lre lx llen li8 ld8 lror lrl, aB G lx 401 lt9]
  have q2 := bA_C llen i (by assumption : ∀ j, lt9 j < 256)
  refine s_iret X Y dX5_sign_8 (rfl) ?_
  refine ⟨?_, rfl⟩
  · (first | (exfalso; omega) | (first | rfl | omega | (simp [*]; done)))
set_option maxRecDepth 100000 in
set_option maxHeartbeats 4000000 in
theorem c_X5_clear (l : Launch) (G : GX) (o : Nat) (b : Nat) (w : Nat) (s2 : Nat) (i2 : Nat) (p9 : Nat) (lt : Nat) (br : Int) (lp : Int) (k : Nat) (lx : Nat) (li8 : Nat) (ld8 : Nat) (lpl : Int) (laf : Int) (lwh : Int) (llen : Int) (lror : Int) (lrl : Int) (lre : UInt64) (a : Nat) (n : Int) (rd : Int) (e : Int) (base : Int)  : CtV l G yX5_clear cX5_clear 1 none ({ frames := 1, cells := 0, slots := 0, locals := 21 } : Room) [.ref o] [oTR o b w s2 i2 p9 br lt k lp, oBy b a n rd e, oWd w b base, oTk lt lpl laf lwh lre lx llen li8 ld8 lror lrl] (fun (w9 : va_W) => w9 = [oTR o b w s2 i2 p9 0 lt k 0, oBy b a 0 0 0, oWd w b 10, oTk lt 0 (0 + 1) 0 FP.dconst0 lx 0 li8 ld8 lror 0]) := by
  intro sz
  refine met_of (fun wc sz => va_Qv _ (posW G wc sz) (va_A wc sz)) (by decide) [(0, .ref o)] rfl (Nat.le_of_ble_eq_true rfl) (fun K hK9 hnm X Y => ?_)
  subst hK9
  replace Y : RV K G none 0 0 _ := Y
  refine s_aload_n X dX5_clear_0 rfl 0 rfl ?_
  refine s_get X dX5_clear_1 fl_X5_10 0 rfl rfl ?_
  refine s_callVV X lk_X5_154 [1] [0, 2, 3] (wr := [oTR o b w s2 i2 p9 br lt k lp, oWd w b base, oTk lt lpl laf lwh lre lx llen li8 ld8 lror lrl]) rfl rfl (by decide) (by decide) (by decide) (c_X1_forget (kl K) G b a n rd e) rfl rfl dX5_clear_4 rfl rfl (Nat.le_of_ble_eq_true rfl) (by decide) (fun w1 h1 => ?_)
  obtain rfl := h1
  show SW K G 1 0 0 7 [(0, .ref o)] [] [oTR o b w s2 i2 p9 br lt k lp, oWd w b base, oTk lt lpl laf lwh lre lx llen li8 ld8 lror lrl, oBy b a 0 0 0]
  refine s_aload_n X dX5_clear_7 rfl 0 rfl ?_
  refine s_get X dX5_clear_8 fl_X5_21 0 rfl rfl ?_
  refine s_bipush 10 X dX5_clear_11 (by decide) ?_
  refine s_put X dX5_clear_13 fl_X5_140 tyX4_ok nmX4 1 rfl rfl (rfl) (rfl) (Nat.le_of_ble_eq_true rfl) [oTR o b w s2 i2 p9 br lt k lp, oWd w b 10, oTk lt lpl laf lwh lre lx llen li8 ld8 lror lrl, oBy b a 0 0 0] rfl ?_
  refine s_aload_n X dX5_clear_16 rfl 0 rfl ?_
  refine s_iconst X dX5_clear_17 ?_
  refine s_put X dX5_clear_18 fl_X5_143 tyX5_ok nmX5 0 rfl rfl (rfl) (rfl) (Nat.le_of_ble_eq_true rfl) [oTR o b w s2 i2 p9 0 lt k lp, oWd w b 10, oTk lt lpl laf lwh lre lx llen li8 ld8 lror lrl, oBy b a 0 0 0] rfl ?_
  refine s_aload_n X dX5_clear_21 rfl 0 rfl ?_
  refine s_get X dX5_clear_22 fl_X5_46 0 rfl rfl ?_
  refine s_iconst X dX5_clear_25 ?_
  refine s_callVV X lk_X5_87 [2] [0, 1, 3] (wr := [oTR o b w s2 i2 p9 0 lt k lp, oWd w b 10, oBy b a 0 0 0]) rfl rfl (by decide) (by decide) (by decide) (c_X3_startAt (kl K) G lt lx li8 ld8 lpl laf lwh llen lror lrl lre 0) rfl rfl dX5_clear_26 rfl rfl (Nat.le_of_ble_eq_true rfl) (by decide) (fun w2 h2 => ?_)
  obtain rfl := h2
  show SW K G 1 0 0 29 [(0, .ref o)] [] [oTR o b w s2 i2 p9 0 lt k lp, oWd w b 10, oBy b a 0 0 0, oTk lt 0 (0 + 1) 0 FP.dconst0 lx 0 li8 ld8 lror 0]
  refine s_aload_n X dX5_clear_29 rfl 0 rfl ?_
  refine s_iconst X dX5_clear_30 ?_
  refine s_put X dX5_clear_31 fl_X5_104 tyX5_ok nmX5 0 rfl rfl (rfl) (rfl) (Nat.le_of_ble_eq_true rfl) [oTR o b w s2 i2 p9 0 lt k 0, oWd w b 10, oBy b a 0 0 0, oTk lt 0 (0 + 1) 0 FP.dconst0 lx 0 li8 ld8 lror 0] rfl ?_
  refine s_perm (ws' := [oTR o b w s2 i2 p9 0 lt k 0, oBy b a 0 0 0, oWd w b 10, oTk lt 0 (0 + 1) 0 FP.dconst0 lx 0 li8 ld8 lror 0]) [0, 2, 1, 3] (by decide) rfl rfl ?_
  refine s_vret X Y dX5_clear_34 ?_
  exact rfl
