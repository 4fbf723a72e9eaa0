set_option maxRecDepth 100000 in
set_option maxHeartbeats 4000000 in
theorem c_X1_init (l : Launch) (G : GX) (b : Nat)  : CtV l G yX1_init cX1_init 1 none ({ frames := 1, cells := 1, slots := 3000, locals := 12 } : Room) [.ref b] [(b, .inr (2, [.null, .int (iI 0), .int (iI 0), .int (iI 0)]))] (fun (w9 : va_W) => ∃ (ya : Nat), w9 = [oBy b ya 0 0 0, aB G ya 3000 (fun _ => 0)]) := by
  intro sz
  refine met_of (fun wc sz => va_Qv _ (posW G wc sz) (va_A wc sz)) (by decide) [(0, .ref b)] rfl (Nat.le_of_ble_eq_true rfl) (fun K hK9 hnm X Y => ?_)
  subst hK9
  replace Y : RV K G none 1 3000 _ := Y
  refine s_aload_n X dX1_init_0 rfl 0 rfl ?_
  refine s_oinit X dX1_init_1 to_X1 to_i to_c ⟨Nat.le_of_ble_eq_true rfl, Nat.le_of_ble_eq_true rfl⟩ ?_
  refine s_aload_n X dX1_init_4 rfl 0 rfl ?_
  refine s_sipush 3000 X dX1_init_5 (by decide) ?_
  refine s_newaB (N' := 3000) X dX1_init_8 tw_arrB ⟨by decide, by decide, rfl⟩ (Nat.le_of_ble_eq_true rfl) ⟨Nat.le_of_ble_eq_true rfl, Nat.le_of_ble_eq_true rfl⟩ (fun a1 => ?_)
  show SW K G 1 1 3000 10 [(0, .ref b)] [.ref a1, .ref b] [(b, .inr (2, [.null, .int (iI 0), .int (iI 0), .int (iI 0)])), aB G a1 3000 (fun _ => 0)]
  refine s_putF X hnm dX1_init_10 fl_X1_9 tyX1_ok nmX1 0 rfl rfl rfl (rfl) (rfl) (Nat.le_of_ble_eq_true rfl) [(b, .inr (2, [.ref a1, .int (iI 0), .int (iI 0), .int (iI 0)])), aB G a1 3000 (fun _ => 0)] rfl ?_
  refine s_vret X Y dX1_init_13 ?_
  refine ⟨a1, ?_⟩
  · (first | (exfalso; omega) | (rfl))
set_option maxRecDepth 100000 in
set_option maxHeartbeats 4000000 in
theorem c_X4_init (l : Launch) (G : GX) (w : Nat) (b : Nat)  : CtV l G yX4_init cX4_init 2 none ({ frames := 1, cells := 0, slots := 0, locals := 12 } : Room) [.ref w, .ref b] [(w, .inr (5, [.null, .int (iI 0)]))] (fun (w9 : va_W) => w9 = [oWd w b 10]) := by
  intro sz
  refine met_of (fun wc sz => va_Qv _ (posW G wc sz) (va_A wc sz)) (by decide) [(0, .ref w), (1, .ref b)] rfl (Nat.le_of_ble_eq_true rfl) (fun K hK9 hnm X Y => ?_)
  subst hK9
  replace Y : RV K G none 0 0 _ := Y
  refine s_aload_n X dX4_init_0 rfl 0 rfl ?_
  refine s_oinit X dX4_init_1 to_X4 to_i to_c ⟨Nat.le_of_ble_eq_true rfl, Nat.le_of_ble_eq_true rfl⟩ ?_
  refine s_aload_n X dX4_init_4 rfl 0 rfl ?_
  refine s_bipush 10 X dX4_init_5 (by decide) ?_
  refine s_put X dX4_init_7 fl_X4_9 tyX4_ok nmX4 0 rfl rfl (rfl) (rfl) (Nat.le_of_ble_eq_true rfl) [(w, .inr (5, [.null, .int (iI 10)]))] rfl ?_
  refine s_aload_n X dX4_init_10 rfl 0 rfl ?_
  refine s_aload_n X dX4_init_11 rfl 1 rfl ?_
  refine s_putF X hnm dX4_init_12 fl_X4_15 tyX4_ok nmX4 0 rfl rfl rfl (rfl) (rfl) (Nat.le_of_ble_eq_true rfl) [(w, .inr (5, [.ref b, .int (iI 10)]))] rfl ?_
  refine s_vret X Y dX4_init_15 ?_
  · (first | (exfalso; omega) | (rfl))
set_option maxRecDepth 100000 in
set_option maxHeartbeats 4000000 in
theorem c_X2_init (l : Launch) (G : GX) (s : Nat) (b : Nat)  : CtV l G yX2_init cX2_init 2 none ({ frames := 1, cells := 0, slots := 0, locals := 12 } : Room) [.ref s, .ref b] [(s, .inr (3, [.null]))] (fun (w9 : va_W) => w9 = [oSt s b]) := by
  intro sz
  refine met_of (fun wc sz => va_Qv _ (posW G wc sz) (va_A wc sz)) (by decide) [(0, .ref s), (1, .ref b)] rfl (Nat.le_of_ble_eq_true rfl) (fun K hK9 hnm X Y => ?_)
  subst hK9
  replace Y : RV K G none 0 0 _ := Y
  refine s_aload_n X dX2_init_0 rfl 0 rfl ?_
  refine s_oinit X dX2_init_1 to_X2 to_i to_c ⟨Nat.le_of_ble_eq_true rfl, Nat.le_of_ble_eq_true rfl⟩ ?_
  refine s_aload_n X dX2_init_4 rfl 0 rfl ?_
  refine s_aload_n X dX2_init_5 rfl 1 rfl ?_
  refine s_putF X hnm dX2_init_6 fl_X2_9 tyX2_ok nmX2 0 rfl rfl rfl (rfl) (rfl) (Nat.le_of_ble_eq_true rfl) [(s, .inr (3, [.ref b]))] rfl ?_
  refine s_vret X Y dX2_init_9 ?_
  · (first | (exfalso; omega) | (rfl))
set_option maxRecDepth 100000 in
set_option maxHeartbeats 4000000 in
theorem c_X0_init (l : Launch) (G : GX) (s : Nat) (b : Nat)  : CtV l G yX0_init cX0_init 2 none ({ frames := 1, cells := 0, slots := 0, locals := 12 } : Room) [.ref s, .ref b] [(s, .inr (1, [.null]))] (fun (w9 : va_W) => w9 = [oBi s b]) := by
  intro sz
  refine met_of (fun wc sz => va_Qv _ (posW G wc sz) (va_A wc sz)) (by decide) [(0, .ref s), (1, .ref b)] rfl (Nat.le_of_ble_eq_true rfl) (fun K hK9 hnm X Y => ?_)
  subst hK9
  replace Y : RV K G none 0 0 _ := Y
  refine s_aload_n X dX0_init_0 rfl 0 rfl ?_
  refine s_oinit X dX0_init_1 to_X0 to_i to_c ⟨Nat.le_of_ble_eq_true rfl, Nat.le_of_ble_eq_true rfl⟩ ?_
  refine s_aload_n X dX0_init_4 rfl 0 rfl ?_
  refine s_aload_n X dX0_init_5 rfl 1 rfl ?_
  refine s_putF X hnm dX0_init_6 fl_X0_9 tyX0_ok nmX0 0 rfl rfl rfl (rfl) (rfl) (Nat.le_of_ble_eq_true rfl) [(s, .inr (1, [.ref b]))] rfl ?_
  refine s_vret X Y dX0_init_9 ?_
  · (first | (exfalso; omega) | (rfl))
set_option maxRecDepth 100000 in
set_option maxHeartbeats 4000000 in
theorem c_X3_init (l : Launch) (G : GX) (k : Nat)  : CtV l G yX3_init cX3_init 1 none ({ frames := 1, cells := 3, slots := 521, locals := 12 } : Room) [.ref k] [(k, .inr (4, [.int (iI 0), .int (iI 0), .long (lI 0), .double FP.dconst0, .null, .int (iI 0), .null, .null, .int (iI 0), .int (iI 0)]))] (fun (w9 : va_W) => ∃ (yx : Nat), ∃ (yi : Nat), ∃ (yd : Nat), w9 = [oTk k 0 0 0 FP.dconst0 yx 0 yi yd 0 0, aB G yx 401 (fun _ => 0), aI G yi 60 (fun _ => 0), aF G yd 60 (fun _ => FP.dconst0)]) := by
  intro sz
  refine met_of (fun wc sz => va_Qv _ (posW G wc sz) (va_A wc sz)) (by decide) [(0, .ref k)] rfl (Nat.le_of_ble_eq_true rfl) (fun K hK9 hnm X Y => ?_)
  subst hK9
  replace Y : RV K G none 3 521 _ := Y
  refine s_aload_n X dX3_init_0 rfl 0 rfl ?_
  refine s_oinit X dX3_init_1 to_X3 to_i to_c ⟨Nat.le_of_ble_eq_true rfl, Nat.le_of_ble_eq_true rfl⟩ ?_
  refine s_aload_n X dX3_init_4 rfl 0 rfl ?_
  refine s_sipush 401 X dX3_init_5 (by decide) ?_
  refine s_newaB (N' := 401) X dX3_init_8 tw_arrB ⟨by decide, by decide, rfl⟩ (Nat.le_of_ble_eq_true rfl) ⟨Nat.le_of_ble_eq_true rfl, Nat.le_of_ble_eq_true rfl⟩ (fun a1 => ?_)
  show SW K G 1 1 401 10 [(0, .ref k)] [.ref a1, .ref k] [(k, .inr (4, [.int (iI 0), .int (iI 0), .long (lI 0), .double FP.dconst0, .null, .int (iI 0), .null, .null, .int (iI 0), .int (iI 0)])), aB G a1 401 (fun _ => 0)]
  refine s_putF X hnm dX3_init_10 fl_X3_9 tyX3_ok nmX3 0 rfl rfl rfl (rfl) (rfl) (Nat.le_of_ble_eq_true rfl) [(k, .inr (4, [.int (iI 0), .int (iI 0), .long (lI 0), .double FP.dconst0, .ref a1, .int (iI 0), .null, .null, .int (iI 0), .int (iI 0)])), aB G a1 401 (fun _ => 0)] rfl ?_
  refine s_aload_n X dX3_init_13 rfl 0 rfl ?_
  refine s_bipush 60 X dX3_init_14 (by decide) ?_
  refine s_newaI (N' := 60) X dX3_init_16 tw_arrI ⟨by decide, by decide, rfl⟩ (Nat.le_of_ble_eq_true rfl) ⟨Nat.le_of_ble_eq_true rfl, Nat.le_of_ble_eq_true rfl⟩ (fun a2 => ?_)
  show SW K G 1 2 461 18 [(0, .ref k)] [.ref a2, .ref k] [(k, .inr (4, [.int (iI 0), .int (iI 0), .long (lI 0), .double FP.dconst0, .ref a1, .int (iI 0), .null, .null, .int (iI 0), .int (iI 0)])), aB G a1 401 (fun _ => 0), aI G a2 60 (fun _ => 0)]
  refine s_putF X hnm dX3_init_18 fl_X3_15 tyX3_ok nmX3 0 rfl rfl rfl (rfl) (rfl) (Nat.le_of_ble_eq_true rfl) [(k, .inr (4, [.int (iI 0), .int (iI 0), .long (lI 0), .double FP.dconst0, .ref a1, .int (iI 0), .ref a2, .null, .int (iI 0), .int (iI 0)])), aB G a1 401 (fun _ => 0), aI G a2 60 (fun _ => 0)] rfl ?_
  refine s_aload_n X dX3_init_21 rfl 0 rfl ?_
  refine s_bipush 60 X dX3_init_22 (by decide) ?_
  refine s_newaF (N' := 60) X dX3_init_24 tw_arrF ⟨by decide, by decide, rfl⟩ (Nat.le_of_ble_eq_true rfl) ⟨Nat.le_of_ble_eq_true rfl, Nat.le_of_ble_eq_true rfl⟩ (fun a3 => ?_)
  show SW K G 1 3 521 26 [(0, .ref k)] [.ref a3, .ref k] [(k, .inr (4, [.int (iI 0), .int (iI 0), .long (lI 0), .double FP.dconst0, .ref a1, .int (iI 0), .ref a2, .null, .int (iI 0), .int (iI 0)])), aB G a1 401 (fun _ => 0), aI G a2 60 (fun _ => 0), aF G a3 60 (fun _ => FP.dconst0)]
  refine s_putF X hnm dX3_init_26 fl_X3_19 tyX3_ok nmX3 0 rfl rfl rfl (rfl) (rfl) (Nat.le_of_ble_eq_true rfl) [(k, .inr (4, [.int (iI 0), .int (iI 0), .long (lI 0), .double FP.dconst0, .ref a1, .int (iI 0), .ref a2, .ref a3, .int (iI 0), .int (iI 0)])), aB G a1 401 (fun _ => 0), aI G a2 60 (fun _ => 0), aF G a3 60 (fun _ => FP.dconst0)] rfl ?_
  refine s_vret X Y dX3_init_29 ?_
  refine ⟨a1, a2, a3, ?_⟩
  · (first | (exfalso; omega) | (rfl))
set_option maxRecDepth 100000 in
set_option maxHeartbeats 4000000 in
theorem c_X5_init (l : Launch) (G : GX) (o : Nat)  : CtV l G yX5_init cX5_init 1 none ({ frames := 2, cells := 14, slots := 4090, locals := 33 } : Room) [.ref o] [(o, .inr (6, [.null, .null, .null, .null, .null, .int (iI 0), .null, .null, .int (iI 0)]))] (fun (w9 : va_W) => ∃ (yb : Nat), ∃ (yw : Nat), ∃ (ys : Nat), ∃ (yi : Nat), ∃ (yp : Nat), ∃ (yl : Nat), ∃ (yk : Nat), ∃ (ya : Nat), ∃ (ylx : Nat), ∃ (yli : Nat), ∃ (yld : Nat), ∃ (ykx : Nat), ∃ (yki : Nat), ∃ (ykd : Nat), w9 = [oTR o yb yw ys yi yp 0 yl yk 0, oBy yb ya 0 0 0, aB G ya 3000 (fun _ => 0), oWd yw yb 10, oSt ys yb, oBi yi yb, aI G yp 20 (fun _ => 0), oTk yl 0 0 0 FP.dconst0 ylx 0 yli yld 0 0, aB G ylx 401 (fun _ => 0), aI G yli 60 (fun _ => 0), aF G yld 60 (fun _ => FP.dconst0), oTk yk 0 0 0 FP.dconst0 ykx 0 yki ykd 0 0, aB G ykx 401 (fun _ => 0), aI G yki 60 (fun _ => 0), aF G ykd 60 (fun _ => FP.dconst0)]) := by
  intro sz
  refine met_of (fun wc sz => va_Qv _ (posW G wc sz) (va_A wc sz)) (by decide) [(0, .ref o)] rfl (Nat.le_of_ble_eq_true rfl) (fun K hK9 hnm X Y => ?_)
  subst hK9
  replace Y : RV K G none 14 4090 _ := Y
  refine s_aload_n X dX5_init_0 rfl 0 rfl ?_
  refine s_oinit X dX5_init_1 to_X5 to_i to_c ⟨Nat.le_of_ble_eq_true rfl, Nat.le_of_ble_eq_true rfl⟩ ?_
  refine s_aload_n X dX5_init_4 rfl 0 rfl ?_
  refine s_new (fs := [.null, .int (iI 0), .int (iI 0), .int (iI 0)]) X dX5_init_5 nl_X5_7 tyX1_ok ndX1 ⟨Nat.le_of_ble_eq_true rfl, Nat.le_of_ble_eq_true rfl⟩ (fun a1 => ?_)
  show SW K G 1 1 4 8 [(0, .ref o)] [.ref a1, .ref o] [(o, .inr (6, [.null, .null, .null, .null, .null, .int (iI 0), .null, .null, .int (iI 0)])), (a1, .inr (2, [.null, .int (iI 0), .int (iI 0), .int (iI 0)]))]
  refine s_dup X dX5_init_8 rfl ?_
  refine s_callVIN X lk_X5_9 [1] [0] (wr := [(o, .inr (6, [.null, .null, .null, .null, .null, .int (iI 0), .null, .null, .int (iI 0)]))]) rfl rfl (by decide) (by decide) (by decide) (c_X1_init (kl K) G a1) rfl dX5_init_9 rfl rfl (Nat.le_of_ble_eq_true rfl) ⟨⟨Nat.le_of_ble_eq_true rfl, Nat.le_of_ble_eq_true rfl⟩, Nat.le_of_ble_eq_true rfl, Nat.le_of_ble_eq_true rfl⟩ (fun w2 h2 => ?_)
  obtain ⟨ya2, rfl⟩ := h2
  show SW K G 1 2 3004 12 [(0, .ref o)] [.ref a1, .ref o] [(o, .inr (6, [.null, .null, .null, .null, .null, .int (iI 0), .null, .null, .int (iI 0)])), oBy a1 ya2 0 0 0, aB G ya2 3000 (fun _ => 0)]
  refine s_putF X hnm dX5_init_12 fl_X5_10 tyX5_ok nmX5 0 rfl rfl rfl (rfl) (rfl) (Nat.le_of_ble_eq_true rfl) [(o, .inr (6, [.ref a1, .null, .null, .null, .null, .int (iI 0), .null, .null, .int (iI 0)])), oBy a1 ya2 0 0 0, aB G ya2 3000 (fun _ => 0)] rfl ?_
  refine s_aload_n X dX5_init_15 rfl 0 rfl ?_
  refine s_new (fs := [.null, .int (iI 0)]) X dX5_init_16 nl_X5_16 tyX4_ok ndX4 ⟨Nat.le_of_ble_eq_true rfl, Nat.le_of_ble_eq_true rfl⟩ (fun a3 => ?_)
  show SW K G 1 3 3006 19 [(0, .ref o)] [.ref a3, .ref o] [(o, .inr (6, [.ref a1, .null, .null, .null, .null, .int (iI 0), .null, .null, .int (iI 0)])), oBy a1 ya2 0 0 0, aB G ya2 3000 (fun _ => 0), (a3, .inr (5, [.null, .int (iI 0)]))]
  refine s_dup X dX5_init_19 rfl ?_
  refine s_aload_n X dX5_init_20 rfl 0 rfl ?_
  refine s_get X dX5_init_21 fl_X5_10 0 rfl rfl ?_
  refine s_callVI X lk_X5_18 [3] [0, 1, 2] (wr := [(o, .inr (6, [.ref a1, .null, .null, .null, .null, .int (iI 0), .null, .null, .int (iI 0)])), oBy a1 ya2 0 0 0, aB G ya2 3000 (fun _ => 0)]) rfl rfl (by decide) (by decide) (by decide) (c_X4_init (kl K) G a3 a1) rfl dX5_init_24 rfl rfl (Nat.le_of_ble_eq_true rfl) ⟨⟨Nat.le_of_ble_eq_true rfl, Nat.le_of_ble_eq_true rfl⟩, Nat.le_of_ble_eq_true rfl, Nat.le_of_ble_eq_true rfl⟩ (fun w4 h4 => ?_)
  obtain rfl := h4
  show SW K G 1 3 3006 27 [(0, .ref o)] [.ref a3, .ref o] [(o, .inr (6, [.ref a1, .null, .null, .null, .null, .int (iI 0), .null, .null, .int (iI 0)])), oBy a1 ya2 0 0 0, aB G ya2 3000 (fun _ => 0), oWd a3 a1 10]
  refine s_putF X hnm dX5_init_27 fl_X5_21 tyX5_ok nmX5 0 rfl rfl rfl (rfl) (rfl) (Nat.le_of_ble_eq_true rfl) [(o, .inr (6, [.ref a1, .ref a3, .null, .null, .null, .int (iI 0), .null, .null, .int (iI 0)])), oBy a1 ya2 0 0 0, aB G ya2 3000 (fun _ => 0), oWd a3 a1 10] rfl ?_
  refine s_aload_n X dX5_init_30 rfl 0 rfl ?_
  refine s_new (fs := [.null]) X dX5_init_31 nl_X5_25 tyX2_ok ndX2 ⟨Nat.le_of_ble_eq_true rfl, Nat.le_of_ble_eq_true rfl⟩ (fun a5 => ?_)
  show SW K G 1 4 3007 34 [(0, .ref o)] [.ref a5, .ref o] [(o, .inr (6, [.ref a1, .ref a3, .null, .null, .null, .int (iI 0), .null, .null, .int (iI 0)])), oBy a1 ya2 0 0 0, aB G ya2 3000 (fun _ => 0), oWd a3 a1 10, (a5, .inr (3, [.null]))]
  refine s_dup X dX5_init_34 rfl ?_
  refine s_aload_n X dX5_init_35 rfl 0 rfl ?_
  refine s_get X dX5_init_36 fl_X5_10 0 rfl rfl ?_
  refine s_callVI X lk_X5_27 [4] [0, 1, 2, 3] (wr := [(o, .inr (6, [.ref a1, .ref a3, .null, .null, .null, .int (iI 0), .null, .null, .int (iI 0)])), oBy a1 ya2 0 0 0, aB G ya2 3000 (fun _ => 0), oWd a3 a1 10]) rfl rfl (by decide) (by decide) (by decide) (c_X2_init (kl K) G a5 a1) rfl dX5_init_39 rfl rfl (Nat.le_of_ble_eq_true rfl) ⟨⟨Nat.le_of_ble_eq_true rfl, Nat.le_of_ble_eq_true rfl⟩, Nat.le_of_ble_eq_true rfl, Nat.le_of_ble_eq_true rfl⟩ (fun w6 h6 => ?_)
  obtain rfl := h6
  show SW K G 1 4 3007 42 [(0, .ref o)] [.ref a5, .ref o] [(o, .inr (6, [.ref a1, .ref a3, .null, .null, .null, .int (iI 0), .null, .null, .int (iI 0)])), oBy a1 ya2 0 0 0, aB G ya2 3000 (fun _ => 0), oWd a3 a1 10, oSt a5 a1]
  refine s_putF X hnm dX5_init_42 fl_X5_28 tyX5_ok nmX5 0 rfl rfl rfl (rfl) (rfl) (Nat.le_of_ble_eq_true rfl) [(o, .inr (6, [.ref a1, .ref a3, .ref a5, .null, .null, .int (iI 0), .null, .null, .int (iI 0)])), oBy a1 ya2 0 0 0, aB G ya2 3000 (fun _ => 0), oWd a3 a1 10, oSt a5 a1] rfl ?_
  refine s_aload_n X dX5_init_45 rfl 0 rfl ?_
  refine s_new (fs := [.null]) X dX5_init_46 nl_X5_32 tyX0_ok ndX0 ⟨Nat.le_of_ble_eq_true rfl, Nat.le_of_ble_eq_true rfl⟩ (fun a7 => ?_)
  show SW K G 1 5 3008 49 [(0, .ref o)] [.ref a7, .ref o] [(o, .inr (6, [.ref a1, .ref a3, .ref a5, .null, .null, .int (iI 0), .null, .null, .int (iI 0)])), oBy a1 ya2 0 0 0, aB G ya2 3000 (fun _ => 0), oWd a3 a1 10, oSt a5 a1, (a7, .inr (1, [.null]))]
  refine s_dup X dX5_init_49 rfl ?_
  refine s_aload_n X dX5_init_50 rfl 0 rfl ?_
  refine s_get X dX5_init_51 fl_X5_10 0 rfl rfl ?_
  refine s_callVI X lk_X5_34 [5] [0, 1, 2, 3, 4] (wr := [(o, .inr (6, [.ref a1, .ref a3, .ref a5, .null, .null, .int (iI 0), .null, .null, .int (iI 0)])), oBy a1 ya2 0 0 0, aB G ya2 3000 (fun _ => 0), oWd a3 a1 10, oSt a5 a1]) rfl rfl (by decide) (by decide) (by decide) (c_X0_init (kl K) G a7 a1) rfl dX5_init_54 rfl rfl (Nat.le_of_ble_eq_true rfl) ⟨⟨Nat.le_of_ble_eq_true rfl, Nat.le_of_ble_eq_true rfl⟩, Nat.le_of_ble_eq_true rfl, Nat.le_of_ble_eq_true rfl⟩ (fun w8 h8 => ?_)
  obtain rfl := h8
  show SW K G 1 5 3008 57 [(0, .ref o)] [.ref a7, .ref o] [(o, .inr (6, [.ref a1, .ref a3, .ref a5, .null, .null, .int (iI 0), .null, .null, .int (iI 0)])), oBy a1 ya2 0 0 0, aB G ya2 3000 (fun _ => 0), oWd a3 a1 10, oSt a5 a1, oBi a7 a1]
  refine s_putF X hnm dX5_init_57 fl_X5_35 tyX5_ok nmX5 0 rfl rfl rfl (rfl) (rfl) (Nat.le_of_ble_eq_true rfl) [(o, .inr (6, [.ref a1, .ref a3, .ref a5, .ref a7, .null, .int (iI 0), .null, .null, .int (iI 0)])), oBy a1 ya2 0 0 0, aB G ya2 3000 (fun _ => 0), oWd a3 a1 10, oSt a5 a1, oBi a7 a1] rfl ?_
  refine s_aload_n X dX5_init_60 rfl 0 rfl ?_
  refine s_bipush 20 X dX5_init_61 (by decide) ?_
  refine s_newaI (N' := 20) X dX5_init_63 tw_arrI ⟨by decide, by decide, rfl⟩ (Nat.le_of_ble_eq_true rfl) ⟨Nat.le_of_ble_eq_true rfl, Nat.le_of_ble_eq_true rfl⟩ (fun a9 => ?_)
  show SW K G 1 6 3028 65 [(0, .ref o)] [.ref a9, .ref o] [(o, .inr (6, [.ref a1, .ref a3, .ref a5, .ref a7, .null, .int (iI 0), .null, .null, .int (iI 0)])), oBy a1 ya2 0 0 0, aB G ya2 3000 (fun _ => 0), oWd a3 a1 10, oSt a5 a1, oBi a7 a1, aI G a9 20 (fun _ => 0)]
  refine s_putF X hnm dX5_init_65 fl_X5_39 tyX5_ok nmX5 0 rfl rfl rfl (rfl) (rfl) (Nat.le_of_ble_eq_true rfl) [(o, .inr (6, [.ref a1, .ref a3, .ref a5, .ref a7, .ref a9, .int (iI 0), .null, .null, .int (iI 0)])), oBy a1 ya2 0 0 0, aB G ya2 3000 (fun _ => 0), oWd a3 a1 10, oSt a5 a1, oBi a7 a1, aI G a9 20 (fun _ => 0)] rfl ?_
  refine s_aload_n X dX5_init_68 rfl 0 rfl ?_
  refine s_new (fs := [.int (iI 0), .int (iI 0), .long (lI 0), .double FP.dconst0, .null, .int (iI 0), .null, .null, .int (iI 0), .int (iI 0)]) X dX5_init_69 nl_X5_43 tyX3_ok ndX3 ⟨Nat.le_of_ble_eq_true rfl, Nat.le_of_ble_eq_true rfl⟩ (fun a10 => ?_)
  show SW K G 1 7 3038 72 [(0, .ref o)] [.ref a10, .ref o] [(o, .inr (6, [.ref a1, .ref a3, .ref a5, .ref a7, .ref a9, .int (iI 0), .null, .null, .int (iI 0)])), oBy a1 ya2 0 0 0, aB G ya2 3000 (fun _ => 0), oWd a3 a1 10, oSt a5 a1, oBi a7 a1, aI G a9 20 (fun _ => 0), (a10, .inr (4, [.int (iI 0), .int (iI 0), .long (lI 0), .double FP.dconst0, .null, .int (iI 0), .null, .null, .int (iI 0), .int (iI 0)]))]
  refine s_dup X dX5_init_72 rfl ?_
  refine s_callVIN X lk_X5_45 [7] [0, 1, 2, 3, 4, 5, 6] (wr := [(o, .inr (6, [.ref a1, .ref a3, .ref a5, .ref a7, .ref a9, .int (iI 0), .null, .null, .int (iI 0)])), oBy a1 ya2 0 0 0, aB G ya2 3000 (fun _ => 0), oWd a3 a1 10, oSt a5 a1, oBi a7 a1, aI G a9 20 (fun _ => 0)]) rfl rfl (by decide) (by decide) (by decide) (c_X3_init (kl K) G a10) rfl dX5_init_73 rfl rfl (Nat.le_of_ble_eq_true rfl) ⟨⟨Nat.le_of_ble_eq_true rfl, Nat.le_of_ble_eq_true rfl⟩, Nat.le_of_ble_eq_true rfl, Nat.le_of_ble_eq_true rfl⟩ (fun w11 h11 => ?_)
  obtain ⟨yx11, yi11, yd11, rfl⟩ := h11
  show SW K G 1 10 3559 76 [(0, .ref o)] [.ref a10, .ref o] [(o, .inr (6, [.ref a1, .ref a3, .ref a5, .ref a7, .ref a9, .int (iI 0), .null, .null, .int (iI 0)])), oBy a1 ya2 0 0 0, aB G ya2 3000 (fun _ => 0), oWd a3 a1 10, oSt a5 a1, oBi a7 a1, aI G a9 20 (fun _ => 0), oTk a10 0 0 0 FP.dconst0 yx11 0 yi11 yd11 0 0, aB G yx11 401 (fun _ => 0), aI G yi11 60 (fun _ => 0), aF G yd11 60 (fun _ => FP.dconst0)]
  refine s_put X dX5_init_76 fl_X5_46 tyX5_ok nmX5 0 rfl rfl (rfl) (rfl) (Nat.le_of_ble_eq_true rfl) [(o, .inr (6, [.ref a1, .ref a3, .ref a5, .ref a7, .ref a9, .int (iI 0), .ref a10, .null, .int (iI 0)])), oBy a1 ya2 0 0 0, aB G ya2 3000 (fun _ => 0), oWd a3 a1 10, oSt a5 a1, oBi a7 a1, aI G a9 20 (fun _ => 0), oTk a10 0 0 0 FP.dconst0 yx11 0 yi11 yd11 0 0, aB G yx11 401 (fun _ => 0), aI G yi11 60 (fun _ => 0), aF G yd11 60 (fun _ => FP.dconst0)] rfl ?_
  refine s_aload_n X dX5_init_79 rfl 0 rfl ?_
  refine s_new (fs := [.int (iI 0), .int (iI 0), .long (lI 0), .double FP.dconst0, .null, .int (iI 0), .null, .null, .int (iI 0), .int (iI 0)]) X dX5_init_80 nl_X5_43 tyX3_ok ndX3 ⟨Nat.le_of_ble_eq_true rfl, Nat.le_of_ble_eq_true rfl⟩ (fun a12 => ?_)
  show SW K G 1 11 3569 83 [(0, .ref o)] [.ref a12, .ref o] [(o, .inr (6, [.ref a1, .ref a3, .ref a5, .ref a7, .ref a9, .int (iI 0), .ref a10, .null, .int (iI 0)])), oBy a1 ya2 0 0 0, aB G ya2 3000 (fun _ => 0), oWd a3 a1 10, oSt a5 a1, oBi a7 a1, aI G a9 20 (fun _ => 0), oTk a10 0 0 0 FP.dconst0 yx11 0 yi11 yd11 0 0, aB G yx11 401 (fun _ => 0), aI G yi11 60 (fun _ => 0), aF G yd11 60 (fun _ => FP.dconst0), (a12, .inr (4, [.int (iI 0), .int (iI 0), .long (lI 0), .double FP.dconst0, .null, .int (iI 0), .null, .null, .int (iI 0), .int (iI 0)]))]
  refine s_dup X dX5_init_83 rfl ?_
  refine s_callVIN X lk_X5_45 [11] [0, 1, 2, 3, 4, 5, 6, 7, 8, 9, 10] (wr := [(o, .inr (6, [.ref a1, .ref a3, .ref a5, .ref a7, .ref a9, .int (iI 0), .ref a10, .null, .int (iI 0)])), oBy a1 ya2 0 0 0, aB G ya2 3000 (fun _ => 0), oWd a3 a1 10, oSt a5 a1, oBi a7 a1, aI G a9 20 (fun _ => 0), oTk a10 0 0 0 FP.dconst0 yx11 0 yi11 yd11 0 0, aB G yx11 401 (fun _ => 0), aI G yi11 60 (fun _ => 0), aF G yd11 60 (fun _ => FP.dconst0)]) rfl rfl (by decide) (by decide) (by decide) (c_X3_init (kl K) G a12) rfl dX5_init_84 rfl rfl (Nat.le_of_ble_eq_true rfl) ⟨⟨Nat.le_of_ble_eq_true rfl, Nat.le_of_ble_eq_true rfl⟩, Nat.le_of_ble_eq_true rfl, Nat.le_of_ble_eq_true rfl⟩ (fun w13 h13 => ?_)
  obtain ⟨yx13, yi13, yd13, rfl⟩ := h13
  show SW K G 1 14 4090 87 [(0, .ref o)] [.ref a12, .ref o] [(o, .inr (6, [.ref a1, .ref a3, .ref a5, .ref a7, .ref a9, .int (iI 0), .ref a10, .null, .int (iI 0)])), oBy a1 ya2 0 0 0, aB G ya2 3000 (fun _ => 0), oWd a3 a1 10, oSt a5 a1, oBi a7 a1, aI G a9 20 (fun _ => 0), oTk a10 0 0 0 FP.dconst0 yx11 0 yi11 yd11 0 0, aB G yx11 401 (fun _ => 0), aI G yi11 60 (fun _ => 0), aF G yd11 60 (fun _ => FP.dconst0), oTk a12 0 0 0 FP.dconst0 yx13 0 yi13 yd13 0 0, aB G yx13 401 (fun _ => 0), aI G yi13 60 (fun _ => 0), aF G yd13 60 (fun _ => FP.dconst0)]
  refine s_put X dX5_init_87 fl_X5_50 tyX5_ok nmX5 0 rfl rfl (rfl) (rfl) (Nat.le_of_ble_eq_true rfl) [(o, .inr (6, [.ref a1, .ref a3, .ref a5, .ref a7, .ref a9, .int (iI 0), .ref a10, .ref a12, .int (iI 0)])), oBy a1 ya2 0 0 0, aB G ya2 3000 (fun _ => 0), oWd a3 a1 10, oSt a5 a1, oBi a7 a1, aI G a9 20 (fun _ => 0), oTk a10 0 0 0 FP.dconst0 yx11 0 yi11 yd11 0 0, aB G yx11 401 (fun _ => 0), aI G yi11 60 (fun _ => 0), aF G yd11 60 (fun _ => FP.dconst0), oTk a12 0 0 0 FP.dconst0 yx13 0 yi13 yd13 0 0, aB G yx13 401 (fun _ => 0), aI G yi13 60 (fun _ => 0), aF G yd13 60 (fun _ => FP.dconst0)] rfl ?_
  refine s_vret X Y dX5_init_90 ?_
  refine ⟨a1, a3, a5, a7, a9, a10, a12, ya2, yx11, yi11, yd11, yx13, yi13, yd13, ?_⟩
  · (first | (exfalso; omega) | (rfl))
set_option maxRecDepth 100000 in
set_option maxHeartbeats 4000000 in
theorem c_X6_init (l : Launch) (G : GX) (o : Nat)  : CtV l G yX6_init cX6_init 1 none ({ frames := 1, cells := 8, slots := 4060, locals := 12 } : Room) [.ref o] [(o, .inr (7, [.int (iI 0), .int (iI 0), .null, .int (iI 0), .int (iI 0), .int (iI 0), .int (iI 0), .null, .int (iI 0), .long (lI 0), .double FP.dconst0, .int (iI 0), .int (iI 0), .int (iI 0), .null, .int (iI 0), .int (iI 0), .null, .null, .int (iI 0), .long (lI 0), .double FP.dconst0, .int (iI 0), .int (iI 0), .null, .int (iI 0), .int (iI 0), .null, .null, .int (iI 0)]))] (fun (w9 : va_W) => ∃ (qa : Nat), ∃ (qp : Nat), ∃ (qt : Nat), ∃ (qx : Nat), ∃ (qz : Nat), ∃ (qu : Nat), ∃ (qv : Nat), ∃ (qw : Nat), w9 = [oMo o 0 0 qa 0 0 0 0 qp 0 0 FP.dconst0 0 10 0 qt 0 0 qx qz 0 0 FP.dconst0 0 0 qu 0 0 qv qw 0, aB G qa 3000 (fun _ => 0), aI G qp 20 (fun _ => 0), aB G qt 400 (fun _ => 0), aI G qx 60 (fun _ => 0), aF G qz 60 (fun _ => FP.dconst0), aB G qu 400 (fun _ => 0), aI G qv 60 (fun _ => 0), aF G qw 60 (fun _ => FP.dconst0)]) := by
  intro sz
  refine met_of (fun wc sz => va_Qv _ (posW G wc sz) (va_A wc sz)) (by decide) [(0, .ref o)] rfl (Nat.le_of_ble_eq_true rfl) (fun K hK9 hnm X Y => ?_)
  subst hK9
  replace Y : RV K G none 8 4060 _ := Y
  refine s_aload_n X dX6_init_0 rfl 0 rfl ?_
  refine s_oinit X dX6_init_1 to_X6 to_i to_c ⟨Nat.le_of_ble_eq_true rfl, Nat.le_of_ble_eq_true rfl⟩ ?_
  refine s_aload_n X dX6_init_4 rfl 0 rfl ?_
  refine s_sipush 3000 X dX6_init_5 (by decide) ?_
  refine s_newaB (N' := 3000) X dX6_init_8 tw_arrB ⟨by decide, by decide, rfl⟩ (Nat.le_of_ble_eq_true rfl) ⟨Nat.le_of_ble_eq_true rfl, Nat.le_of_ble_eq_true rfl⟩ (fun a1 => ?_)
  show SW K G 1 1 3000 10 [(0, .ref o)] [.ref a1, .ref o] [(o, .inr (7, [.int (iI 0), .int (iI 0), .null, .int (iI 0), .int (iI 0), .int (iI 0), .int (iI 0), .null, .int (iI 0), .long (lI 0), .double FP.dconst0, .int (iI 0), .int (iI 0), .int (iI 0), .null, .int (iI 0), .int (iI 0), .null, .null, .int (iI 0), .long (lI 0), .double FP.dconst0, .int (iI 0), .int (iI 0), .null, .int (iI 0), .int (iI 0), .null, .null, .int (iI 0)])), aB G a1 3000 (fun _ => 0)]
  refine s_putF X hnm dX6_init_10 fl_X6_7 tyX6_ok nmX6 0 rfl rfl rfl (rfl) (rfl) (Nat.le_of_ble_eq_true rfl) [(o, .inr (7, [.int (iI 0), .int (iI 0), .ref a1, .int (iI 0), .int (iI 0), .int (iI 0), .int (iI 0), .null, .int (iI 0), .long (lI 0), .double FP.dconst0, .int (iI 0), .int (iI 0), .int (iI 0), .null, .int (iI 0), .int (iI 0), .null, .null, .int (iI 0), .long (lI 0), .double FP.dconst0, .int (iI 0), .int (iI 0), .null, .int (iI 0), .int (iI 0), .null, .null, .int (iI 0)])), aB G a1 3000 (fun _ => 0)] rfl ?_
  refine s_aload_n X dX6_init_13 rfl 0 rfl ?_
  refine s_bipush 20 X dX6_init_14 (by decide) ?_
  refine s_newaI (N' := 20) X dX6_init_16 tw_arrI ⟨by decide, by decide, rfl⟩ (Nat.le_of_ble_eq_true rfl) ⟨Nat.le_of_ble_eq_true rfl, Nat.le_of_ble_eq_true rfl⟩ (fun a2 => ?_)
  show SW K G 1 2 3020 18 [(0, .ref o)] [.ref a2, .ref o] [(o, .inr (7, [.int (iI 0), .int (iI 0), .ref a1, .int (iI 0), .int (iI 0), .int (iI 0), .int (iI 0), .null, .int (iI 0), .long (lI 0), .double FP.dconst0, .int (iI 0), .int (iI 0), .int (iI 0), .null, .int (iI 0), .int (iI 0), .null, .null, .int (iI 0), .long (lI 0), .double FP.dconst0, .int (iI 0), .int (iI 0), .null, .int (iI 0), .int (iI 0), .null, .null, .int (iI 0)])), aB G a1 3000 (fun _ => 0), aI G a2 20 (fun _ => 0)]
  refine s_putF X hnm dX6_init_18 fl_X6_13 tyX6_ok nmX6 0 rfl rfl rfl (rfl) (rfl) (Nat.le_of_ble_eq_true rfl) [(o, .inr (7, [.int (iI 0), .int (iI 0), .ref a1, .int (iI 0), .int (iI 0), .int (iI 0), .int (iI 0), .ref a2, .int (iI 0), .long (lI 0), .double FP.dconst0, .int (iI 0), .int (iI 0), .int (iI 0), .null, .int (iI 0), .int (iI 0), .null, .null, .int (iI 0), .long (lI 0), .double FP.dconst0, .int (iI 0), .int (iI 0), .null, .int (iI 0), .int (iI 0), .null, .null, .int (iI 0)])), aB G a1 3000 (fun _ => 0), aI G a2 20 (fun _ => 0)] rfl ?_
  refine s_aload_n X dX6_init_21 rfl 0 rfl ?_
  refine s_bipush 10 X dX6_init_22 (by decide) ?_
  refine s_put X dX6_init_24 fl_X6_17 tyX6_ok nmX6 0 rfl rfl (rfl) (rfl) (Nat.le_of_ble_eq_true rfl) [(o, .inr (7, [.int (iI 0), .int (iI 0), .ref a1, .int (iI 0), .int (iI 0), .int (iI 0), .int (iI 0), .ref a2, .int (iI 0), .long (lI 0), .double FP.dconst0, .int (iI 0), .int (iI 10), .int (iI 0), .null, .int (iI 0), .int (iI 0), .null, .null, .int (iI 0), .long (lI 0), .double FP.dconst0, .int (iI 0), .int (iI 0), .null, .int (iI 0), .int (iI 0), .null, .null, .int (iI 0)])), aB G a1 3000 (fun _ => 0), aI G a2 20 (fun _ => 0)] rfl ?_
  refine s_aload_n X dX6_init_27 rfl 0 rfl ?_
  refine s_sipush 400 X dX6_init_28 (by decide) ?_
  refine s_newaB (N' := 400) X dX6_init_31 tw_arrB ⟨by decide, by decide, rfl⟩ (Nat.le_of_ble_eq_true rfl) ⟨Nat.le_of_ble_eq_true rfl, Nat.le_of_ble_eq_true rfl⟩ (fun a3 => ?_)
  show SW K G 1 3 3420 33 [(0, .ref o)] [.ref a3, .ref o] [(o, .inr (7, [.int (iI 0), .int (iI 0), .ref a1, .int (iI 0), .int (iI 0), .int (iI 0), .int (iI 0), .ref a2, .int (iI 0), .long (lI 0), .double FP.dconst0, .int (iI 0), .int (iI 10), .int (iI 0), .null, .int (iI 0), .int (iI 0), .null, .null, .int (iI 0), .long (lI 0), .double FP.dconst0, .int (iI 0), .int (iI 0), .null, .int (iI 0), .int (iI 0), .null, .null, .int (iI 0)])), aB G a1 3000 (fun _ => 0), aI G a2 20 (fun _ => 0), aB G a3 400 (fun _ => 0)]
  refine s_putF X hnm dX6_init_33 fl_X6_21 tyX6_ok nmX6 0 rfl rfl rfl (rfl) (rfl) (Nat.le_of_ble_eq_true rfl) [(o, .inr (7, [.int (iI 0), .int (iI 0), .ref a1, .int (iI 0), .int (iI 0), .int (iI 0), .int (iI 0), .ref a2, .int (iI 0), .long (lI 0), .double FP.dconst0, .int (iI 0), .int (iI 10), .int (iI 0), .ref a3, .int (iI 0), .int (iI 0), .null, .null, .int (iI 0), .long (lI 0), .double FP.dconst0, .int (iI 0), .int (iI 0), .null, .int (iI 0), .int (iI 0), .null, .null, .int (iI 0)])), aB G a1 3000 (fun _ => 0), aI G a2 20 (fun _ => 0), aB G a3 400 (fun _ => 0)] rfl ?_
  refine s_aload_n X dX6_init_36 rfl 0 rfl ?_
  refine s_bipush 60 X dX6_init_37 (by decide) ?_
  refine s_newaI (N' := 60) X dX6_init_39 tw_arrI ⟨by decide, by decide, rfl⟩ (Nat.le_of_ble_eq_true rfl) ⟨Nat.le_of_ble_eq_true rfl, Nat.le_of_ble_eq_true rfl⟩ (fun a4 => ?_)
  show SW K G 1 4 3480 41 [(0, .ref o)] [.ref a4, .ref o] [(o, .inr (7, [.int (iI 0), .int (iI 0), .ref a1, .int (iI 0), .int (iI 0), .int (iI 0), .int (iI 0), .ref a2, .int (iI 0), .long (lI 0), .double FP.dconst0, .int (iI 0), .int (iI 10), .int (iI 0), .ref a3, .int (iI 0), .int (iI 0), .null, .null, .int (iI 0), .long (lI 0), .double FP.dconst0, .int (iI 0), .int (iI 0), .null, .int (iI 0), .int (iI 0), .null, .null, .int (iI 0)])), aB G a1 3000 (fun _ => 0), aI G a2 20 (fun _ => 0), aB G a3 400 (fun _ => 0), aI G a4 60 (fun _ => 0)]
  refine s_putF X hnm dX6_init_41 fl_X6_24 tyX6_ok nmX6 0 rfl rfl rfl (rfl) (rfl) (Nat.le_of_ble_eq_true rfl) [(o, .inr (7, [.int (iI 0), .int (iI 0), .ref a1, .int (iI 0), .int (iI 0), .int (iI 0), .int (iI 0), .ref a2, .int (iI 0), .long (lI 0), .double FP.dconst0, .int (iI 0), .int (iI 10), .int (iI 0), .ref a3, .int (iI 0), .int (iI 0), .ref a4, .null, .int (iI 0), .long (lI 0), .double FP.dconst0, .int (iI 0), .int (iI 0), .null, .int (iI 0), .int (iI 0), .null, .null, .int (iI 0)])), aB G a1 3000 (fun _ => 0), aI G a2 20 (fun _ => 0), aB G a3 400 (fun _ => 0), aI G a4 60 (fun _ => 0)] rfl ?_
  refine s_aload_n X dX6_init_44 rfl 0 rfl ?_
  refine s_bipush 60 X dX6_init_45 (by decide) ?_
  refine s_newaF (N' := 60) X dX6_init_47 tw_arrF ⟨by decide, by decide, rfl⟩ (Nat.le_of_ble_eq_true rfl) ⟨Nat.le_of_ble_eq_true rfl, Nat.le_of_ble_eq_true rfl⟩ (fun a5 => ?_)
  show SW K G 1 5 3540 49 [(0, .ref o)] [.ref a5, .ref o] [(o, .inr (7, [.int (iI 0), .int (iI 0), .ref a1, .int (iI 0), .int (iI 0), .int (iI 0), .int (iI 0), .ref a2, .int (iI 0), .long (lI 0), .double FP.dconst0, .int (iI 0), .int (iI 10), .int (iI 0), .ref a3, .int (iI 0), .int (iI 0), .ref a4, .null, .int (iI 0), .long (lI 0), .double FP.dconst0, .int (iI 0), .int (iI 0), .null, .int (iI 0), .int (iI 0), .null, .null, .int (iI 0)])), aB G a1 3000 (fun _ => 0), aI G a2 20 (fun _ => 0), aB G a3 400 (fun _ => 0), aI G a4 60 (fun _ => 0), aF G a5 60 (fun _ => FP.dconst0)]
  refine s_putF X hnm dX6_init_49 fl_X6_27 tyX6_ok nmX6 0 rfl rfl rfl (rfl) (rfl) (Nat.le_of_ble_eq_true rfl) [(o, .inr (7, [.int (iI 0), .int (iI 0), .ref a1, .int (iI 0), .int (iI 0), .int (iI 0), .int (iI 0), .ref a2, .int (iI 0), .long (lI 0), .double FP.dconst0, .int (iI 0), .int (iI 10), .int (iI 0), .ref a3, .int (iI 0), .int (iI 0), .ref a4, .ref a5, .int (iI 0), .long (lI 0), .double FP.dconst0, .int (iI 0), .int (iI 0), .null, .int (iI 0), .int (iI 0), .null, .null, .int (iI 0)])), aB G a1 3000 (fun _ => 0), aI G a2 20 (fun _ => 0), aB G a3 400 (fun _ => 0), aI G a4 60 (fun _ => 0), aF G a5 60 (fun _ => FP.dconst0)] rfl ?_
  refine s_aload_n X dX6_init_52 rfl 0 rfl ?_
  refine s_sipush 400 X dX6_init_53 (by decide) ?_
  refine s_newaB (N' := 400) X dX6_init_56 tw_arrB ⟨by decide, by decide, rfl⟩ (Nat.le_of_ble_eq_true rfl) ⟨Nat.le_of_ble_eq_true rfl, Nat.le_of_ble_eq_true rfl⟩ (fun a6 => ?_)
  show SW K G 1 6 3940 58 [(0, .ref o)] [.ref a6, .ref o] [(o, .inr (7, [.int (iI 0), .int (iI 0), .ref a1, .int (iI 0), .int (iI 0), .int (iI 0), .int (iI 0), .ref a2, .int (iI 0), .long (lI 0), .double FP.dconst0, .int (iI 0), .int (iI 10), .int (iI 0), .ref a3, .int (iI 0), .int (iI 0), .ref a4, .ref a5, .int (iI 0), .long (lI 0), .double FP.dconst0, .int (iI 0), .int (iI 0), .null, .int (iI 0), .int (iI 0), .null, .null, .int (iI 0)])), aB G a1 3000 (fun _ => 0), aI G a2 20 (fun _ => 0), aB G a3 400 (fun _ => 0), aI G a4 60 (fun _ => 0), aF G a5 60 (fun _ => FP.dconst0), aB G a6 400 (fun _ => 0)]
  refine s_putF X hnm dX6_init_58 fl_X6_31 tyX6_ok nmX6 0 rfl rfl rfl (rfl) (rfl) (Nat.le_of_ble_eq_true rfl) [(o, .inr (7, [.int (iI 0), .int (iI 0), .ref a1, .int (iI 0), .int (iI 0), .int (iI 0), .int (iI 0), .ref a2, .int (iI 0), .long (lI 0), .double FP.dconst0, .int (iI 0), .int (iI 10), .int (iI 0), .ref a3, .int (iI 0), .int (iI 0), .ref a4, .ref a5, .int (iI 0), .long (lI 0), .double FP.dconst0, .int (iI 0), .int (iI 0), .ref a6, .int (iI 0), .int (iI 0), .null, .null, .int (iI 0)])), aB G a1 3000 (fun _ => 0), aI G a2 20 (fun _ => 0), aB G a3 400 (fun _ => 0), aI G a4 60 (fun _ => 0), aF G a5 60 (fun _ => FP.dconst0), aB G a6 400 (fun _ => 0)] rfl ?_
  refine s_aload_n X dX6_init_61 rfl 0 rfl ?_
  refine s_bipush 60 X dX6_init_62 (by decide) ?_
  refine s_newaI (N' := 60) X dX6_init_64 tw_arrI ⟨by decide, by decide, rfl⟩ (Nat.le_of_ble_eq_true rfl) ⟨Nat.le_of_ble_eq_true rfl, Nat.le_of_ble_eq_true rfl⟩ (fun a7 => ?_)
  show SW K G 1 7 4000 66 [(0, .ref o)] [.ref a7, .ref o] [(o, .inr (7, [.int (iI 0), .int (iI 0), .ref a1, .int (iI 0), .int (iI 0), .int (iI 0), .int (iI 0), .ref a2, .int (iI 0), .long (lI 0), .double FP.dconst0, .int (iI 0), .int (iI 10), .int (iI 0), .ref a3, .int (iI 0), .int (iI 0), .ref a4, .ref a5, .int (iI 0), .long (lI 0), .double FP.dconst0, .int (iI 0), .int (iI 0), .ref a6, .int (iI 0), .int (iI 0), .null, .null, .int (iI 0)])), aB G a1 3000 (fun _ => 0), aI G a2 20 (fun _ => 0), aB G a3 400 (fun _ => 0), aI G a4 60 (fun _ => 0), aF G a5 60 (fun _ => FP.dconst0), aB G a6 400 (fun _ => 0), aI G a7 60 (fun _ => 0)]
  refine s_putF X hnm dX6_init_66 fl_X6_34 tyX6_ok nmX6 0 rfl rfl rfl (rfl) (rfl) (Nat.le_of_ble_eq_true rfl) [(o, .inr (7, [.int (iI 0), .int (iI 0), .ref a1, .int (iI 0), .int (iI 0), .int (iI 0), .int (iI 0), .ref a2, .int (iI 0), .long (lI 0), .double FP.dconst0, .int (iI 0), .int (iI 10), .int (iI 0), .ref a3, .int (iI 0), .int (iI 0), .ref a4, .ref a5, .int (iI 0), .long (lI 0), .double FP.dconst0, .int (iI 0), .int (iI 0), .ref a6, .int (iI 0), .int (iI 0), .ref a7, .null, .int (iI 0)])), aB G a1 3000 (fun _ => 0), aI G a2 20 (fun _ => 0), aB G a3 400 (fun _ => 0), aI G a4 60 (fun _ => 0), aF G a5 60 (fun _ => FP.dconst0), aB G a6 400 (fun _ => 0), aI G a7 60 (fun _ => 0)] rfl ?_
  refine s_aload_n X dX6_init_69 rfl 0 rfl ?_
  refine s_bipush 60 X dX6_init_70 (by decide) ?_
  refine s_newaF (N' := 60) X dX6_init_72 tw_arrF ⟨by decide, by decide, rfl⟩ (Nat.le_of_ble_eq_true rfl) ⟨Nat.le_of_ble_eq_true rfl, Nat.le_of_ble_eq_true rfl⟩ (fun a8 => ?_)
  show SW K G 1 8 4060 74 [(0, .ref o)] [.ref a8, .ref o] [(o, .inr (7, [.int (iI 0), .int (iI 0), .ref a1, .int (iI 0), .int (iI 0), .int (iI 0), .int (iI 0), .ref a2, .int (iI 0), .long (lI 0), .double FP.dconst0, .int (iI 0), .int (iI 10), .int (iI 0), .ref a3, .int (iI 0), .int (iI 0), .ref a4, .ref a5, .int (iI 0), .long (lI 0), .double FP.dconst0, .int (iI 0), .int (iI 0), .ref a6, .int (iI 0), .int (iI 0), .ref a7, .null, .int (iI 0)])), aB G a1 3000 (fun _ => 0), aI G a2 20 (fun _ => 0), aB G a3 400 (fun _ => 0), aI G a4 60 (fun _ => 0), aF G a5 60 (fun _ => FP.dconst0), aB G a6 400 (fun _ => 0), aI G a7 60 (fun _ => 0), aF G a8 60 (fun _ => FP.dconst0)]
  refine s_putF X hnm dX6_init_74 fl_X6_37 tyX6_ok nmX6 0 rfl rfl rfl (rfl) (rfl) (Nat.le_of_ble_eq_true rfl) [(o, .inr (7, [.int (iI 0), .int (iI 0), .ref a1, .int (iI 0), .int (iI 0), .int (iI 0), .int (iI 0), .ref a2, .int (iI 0), .long (lI 0), .double FP.dconst0, .int (iI 0), .int (iI 10), .int (iI 0), .ref a3, .int (iI 0), .int (iI 0), .ref a4, .ref a5, .int (iI 0), .long (lI 0), .double FP.dconst0, .int (iI 0), .int (iI 0), .ref a6, .int (iI 0), .int (iI 0), .ref a7, .ref a8, .int (iI 0)])), aB G a1 3000 (fun _ => 0), aI G a2 20 (fun _ => 0), aB G a3 400 (fun _ => 0), aI G a4 60 (fun _ => 0), aF G a5 60 (fun _ => FP.dconst0), aB G a6 400 (fun _ => 0), aI G a7 60 (fun _ => 0), aF G a8 60 (fun _ => FP.dconst0)] rfl ?_
  refine s_aload_n X dX6_init_77 rfl 0 rfl ?_
  refine s_iconst X dX6_init_78 ?_
  refine s_put X dX6_init_79 fl_X6_40 tyX6_ok nmX6 0 rfl rfl (rfl) (rfl) (Nat.le_of_ble_eq_true rfl) [(o, .inr (7, [.int (iI 0), .int (iI 0), .ref a1, .int (iI 0), .int (iI 0), .int (iI 0), .int (iI 0), .ref a2, .int (iI 0), .long (lI 0), .double FP.dconst0, .int (iI 0), .int (iI 10), .int (iI 0), .ref a3, .int (iI 0), .int (iI 0), .ref a4, .ref a5, .int (iI 0), .long (lI 0), .double FP.dconst0, .int (iI 0), .int (iI 0), .ref a6, .int (iI 0), .int (iI 0), .ref a7, .ref a8, .int (iI 0)])), aB G a1 3000 (fun _ => 0), aI G a2 20 (fun _ => 0), aB G a3 400 (fun _ => 0), aI G a4 60 (fun _ => 0), aF G a5 60 (fun _ => FP.dconst0), aB G a6 400 (fun _ => 0), aI G a7 60 (fun _ => 0), aF G a8 60 (fun _ => FP.dconst0)] rfl ?_
  refine s_vret X Y dX6_init_82 ?_
  refine ⟨a1, a2, a3, a4, a5, a6, a7, a8, ?_⟩
  · (first | (exfalso; omega) | (rfl))
