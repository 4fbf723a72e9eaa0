set_option maxRecDepth 100000 in
set_option maxHeartbeats 4000000 in
theorem c_X6_thrown (l : Launch) (G : GX) (o : Nat) (a : Nat) (po : Nat) (xt : Nat) (xi : Nat) (xd : Nat) (yt : Nat) (yi : Nat) (yd : Nat) (th : Int) (n : Int) (e : Int) (dn : Int) (at9 : Int) (dp : Int) (kd : Int) (wh : Int) (pl : Int) (base : Int) (sg : Int) (row : Int) (ror : Int) (np : Int) (nw : Int) (nb : Int) (ns : Int) (nrw : Int) (nir : Int) (inf9 : Int) (re : UInt64) (nr : UInt64)  : CtI l G yX6_thrown cX6_thrown 1 (some .int) ({ frames := 0, cells := 0, slots := 0, locals := 0 } : Room) [.ref o] [oMo o th n a e dn at9 dp po kd wh re pl base sg xt row ror xi xd np nw nr nb ns yt nrw nir yi yd inf9] (fun (z9 : Int) (w9 : va_W) => z9 = th ∧ w9 = [oMo o th n a e dn at9 dp po kd wh re pl base sg xt row ror xi xd np nw nr nb ns yt nrw nir yi yd inf9]) := by
  intro sz
  refine met_of (fun wc sz => va_Qi (qI _) (posW G wc sz) (va_A wc sz)) (by decide) [(0, .ref o)] rfl (Nat.le_of_ble_eq_true rfl) (fun K hK9 hnm X Y => ?_)
  subst hK9
  replace Y : RI K G (some .int) 0 0 _ := Y
  refine s_aload_n X dX6_thrown_0 rfl 0 rfl ?_
  refine s_get X dX6_thrown_1 fl_X6_43 0 rfl rfl ?_
  refine s_iret X Y dX6_thrown_4 (rfl) ?_
  refine ⟨?_, rfl⟩
  · (first | (exfalso; omega) | (first | rfl | omega | (simp [*]; done)))
set_option maxRecDepth 100000 in
set_option maxHeartbeats 4000000 in
theorem c_X6_whole (l : Launch) (G : GX) (o : Nat) (a : Nat) (po : Nat) (xt : Nat) (xi : Nat) (xd : Nat) (yt : Nat) (yi : Nat) (yd : Nat) (th : Int) (n : Int) (e : Int) (dn : Int) (at9 : Int) (dp : Int) (kd : Int) (wh : Int) (pl : Int) (base : Int) (sg : Int) (row : Int) (ror : Int) (np : Int) (nw : Int) (nb : Int) (ns : Int) (nrw : Int) (nir : Int) (inf9 : Int) (re : UInt64) (nr : UInt64)  : CtL l G yX6_whole cX6_whole 1 (some .long) ({ frames := 0, cells := 0, slots := 0, locals := 0 } : Room) [.ref o] [oMo o th n a e dn at9 dp po kd wh re pl base sg xt row ror xi xd np nw nr nb ns yt nrw nir yi yd inf9] (fun (z9 : Int) (w9 : va_W) => z9 = wh ∧ w9 = [oMo o 0 n a e dn at9 dp po kd wh re pl base sg xt row ror xi xd np nw nr nb ns yt nrw nir yi yd inf9]) := by
  intro sz
  refine met_of (fun wc sz => va_Ql (qL _) (posW G wc sz) (va_A wc sz)) (by decide) [(0, .ref o)] rfl (Nat.le_of_ble_eq_true rfl) (fun K hK9 hnm X Y => ?_)
  subst hK9
  replace Y : RLg K G (some .long) 0 0 _ := Y
  refine s_aload_n X dX6_whole_0 rfl 0 rfl ?_
  refine s_iconst X dX6_whole_1 ?_
  refine s_put X dX6_whole_2 fl_X6_43 tyX6_ok nmX6 0 rfl rfl (rfl) (rfl) (Nat.le_of_ble_eq_true rfl) [oMo o 0 n a e dn at9 dp po kd wh re pl base sg xt row ror xi xd np nw nr nb ns yt nrw nir yi yd inf9] rfl ?_
  refine s_aload_n X dX6_whole_5 rfl 0 rfl ?_
  refine s_get X dX6_whole_6 fl_X6_236 0 rfl rfl ?_
  refine s_lret X Y dX6_whole_9 ?_
  refine ⟨?_, rfl⟩
  · (first | (exfalso; omega) | (first | rfl | omega | (simp [*]; done)))
set_option maxRecDepth 100000 in
set_option maxHeartbeats 4000000 in
theorem c_X6_real (l : Launch) (G : GX) (o : Nat) (a : Nat) (po : Nat) (xt : Nat) (xi : Nat) (xd : Nat) (yt : Nat) (yi : Nat) (yd : Nat) (th : Int) (n : Int) (e : Int) (dn : Int) (at9 : Int) (dp : Int) (kd : Int) (wh : Int) (pl : Int) (base : Int) (sg : Int) (row : Int) (ror : Int) (np : Int) (nw : Int) (nb : Int) (ns : Int) (nrw : Int) (nir : Int) (inf9 : Int) (re : UInt64) (nr : UInt64)  : CtD l G yX6_real cX6_real 1 (some .double) ({ frames := 0, cells := 0, slots := 0, locals := 0 } : Room) [.ref o] [oMo o th n a e dn at9 dp po kd wh re pl base sg xt row ror xi xd np nw nr nb ns yt nrw nir yi yd inf9] (fun (z9 : UInt64) (w9 : va_W) => z9 = re ∧ w9 = [oMo o 0 n a e dn at9 dp po kd wh re pl base sg xt row ror xi xd np nw nr nb ns yt nrw nir yi yd inf9]) := by
  intro sz
  refine met_of (fun wc sz => va_Qd _ (posW G wc sz) (va_A wc sz)) (by decide) [(0, .ref o)] rfl (Nat.le_of_ble_eq_true rfl) (fun K hK9 hnm X Y => ?_)
  subst hK9
  replace Y : RD K G (some .double) 0 0 _ := Y
  refine s_aload_n X dX6_real_0 rfl 0 rfl ?_
  refine s_iconst X dX6_real_1 ?_
  refine s_put X dX6_real_2 fl_X6_43 tyX6_ok nmX6 0 rfl rfl (rfl) (rfl) (Nat.le_of_ble_eq_true rfl) [oMo o 0 n a e dn at9 dp po kd wh re pl base sg xt row ror xi xd np nw nr nb ns yt nrw nir yi yd inf9] rfl ?_
  refine s_aload_n X dX6_real_5 rfl 0 rfl ?_
  refine s_get X dX6_real_6 fl_X6_239 0 rfl rfl ?_
  refine s_dret X Y dX6_real_9 ?_
  refine ⟨?_, rfl⟩
  · (first | (exfalso; omega) | (first | rfl | omega | (simp [*]; done)))
set_option maxRecDepth 100000 in
set_option maxHeartbeats 4000000 in
theorem c_X6_place (l : Launch) (G : GX) (o : Nat) (a : Nat) (po : Nat) (xt : Nat) (xi : Nat) (xd : Nat) (yt : Nat) (yi : Nat) (yd : Nat) (th : Int) (n : Int) (e : Int) (dn : Int) (at9 : Int) (dp : Int) (kd : Int) (wh : Int) (pl : Int) (base : Int) (sg : Int) (row : Int) (ror : Int) (np : Int) (nw : Int) (nb : Int) (ns : Int) (nrw : Int) (nir : Int) (inf9 : Int) (re : UInt64) (nr : UInt64)  : CtI l G yX6_place cX6_place 1 (some .int) ({ frames := 0, cells := 0, slots := 0, locals := 0 } : Room) [.ref o] [oMo o th n a e dn at9 dp po kd wh re pl base sg xt row ror xi xd np nw nr nb ns yt nrw nir yi yd inf9] (fun (z9 : Int) (w9 : va_W) => z9 = pl ∧ w9 = [oMo o 0 n a e dn at9 dp po kd wh re pl base sg xt row ror xi xd np nw nr nb ns yt nrw nir yi yd inf9]) := by
  intro sz
  refine met_of (fun wc sz => va_Qi (qI _) (posW G wc sz) (va_A wc sz)) (by decide) [(0, .ref o)] rfl (Nat.le_of_ble_eq_true rfl) (fun K hK9 hnm X Y => ?_)
  subst hK9
  replace Y : RI K G (some .int) 0 0 _ := Y
  refine s_aload_n X dX6_place_0 rfl 0 rfl ?_
  refine s_iconst X dX6_place_1 ?_
  refine s_put X dX6_place_2 fl_X6_43 tyX6_ok nmX6 0 rfl rfl (rfl) (rfl) (Nat.le_of_ble_eq_true rfl) [oMo o 0 n a e dn at9 dp po kd wh re pl base sg xt row ror xi xd np nw nr nb ns yt nrw nir yi yd inf9] rfl ?_
  refine s_aload_n X dX6_place_5 rfl 0 rfl ?_
  refine s_get X dX6_place_6 fl_X6_254 0 rfl rfl ?_
  refine s_iret X Y dX6_place_9 (rfl) ?_
  refine ⟨?_, rfl⟩
  · (first | (exfalso; omega) | (first | rfl | omega | (simp [*]; done)))
set_option maxRecDepth 100000 in
set_option maxHeartbeats 4000000 in
theorem c_X6_base (l : Launch) (G : GX) (o : Nat) (a : Nat) (po : Nat) (xt : Nat) (xi : Nat) (xd : Nat) (yt : Nat) (yi : Nat) (yd : Nat) (th : Int) (n : Int) (e : Int) (dn : Int) (at9 : Int) (dp : Int) (kd : Int) (wh : Int) (pl : Int) (base : Int) (sg : Int) (row : Int) (ror : Int) (np : Int) (nw : Int) (nb : Int) (ns : Int) (nrw : Int) (nir : Int) (inf9 : Int) (re : UInt64) (nr : UInt64)  : CtI l G yX6_base cX6_base 1 (some .int) ({ frames := 0, cells := 0, slots := 0, locals := 0 } : Room) [.ref o] [oMo o th n a e dn at9 dp po kd wh re pl base sg xt row ror xi xd np nw nr nb ns yt nrw nir yi yd inf9] (fun (z9 : Int) (w9 : va_W) => z9 = base ∧ w9 = [oMo o 0 n a e dn at9 dp po kd wh re pl base sg xt row ror xi xd np nw nr nb ns yt nrw nir yi yd inf9]) := by
  intro sz
  refine met_of (fun wc sz => va_Qi (qI _) (posW G wc sz) (va_A wc sz)) (by decide) [(0, .ref o)] rfl (Nat.le_of_ble_eq_true rfl) (fun K hK9 hnm X Y => ?_)
  subst hK9
  replace Y : RI K G (some .int) 0 0 _ := Y
  refine s_aload_n X dX6_base_0 rfl 0 rfl ?_
  refine s_iconst X dX6_base_1 ?_
  refine s_put X dX6_base_2 fl_X6_43 tyX6_ok nmX6 0 rfl rfl (rfl) (rfl) (Nat.le_of_ble_eq_true rfl) [oMo o 0 n a e dn at9 dp po kd wh re pl base sg xt row ror xi xd np nw nr nb ns yt nrw nir yi yd inf9] rfl ?_
  refine s_aload_n X dX6_base_5 rfl 0 rfl ?_
  refine s_get X dX6_base_6 fl_X6_17 0 rfl rfl ?_
  refine s_iret X Y dX6_base_9 (rfl) ?_
  refine ⟨?_, rfl⟩
  · (first | (exfalso; omega) | (first | rfl | omega | (simp [*]; done)))
set_option maxRecDepth 100000 in
set_option maxHeartbeats 4000000 in
theorem c_X6_depth (l : Launch) (G : GX) (o : Nat) (a : Nat) (po : Nat) (xt : Nat) (xi : Nat) (xd : Nat) (yt : Nat) (yi : Nat) (yd : Nat) (th : Int) (n : Int) (e : Int) (dn : Int) (at9 : Int) (dp : Int) (kd : Int) (wh : Int) (pl : Int) (base : Int) (sg : Int) (row : Int) (ror : Int) (np : Int) (nw : Int) (nb : Int) (ns : Int) (nrw : Int) (nir : Int) (inf9 : Int) (re : UInt64) (nr : UInt64)  : CtI l G yX6_depth cX6_depth 1 (some .int) ({ frames := 0, cells := 0, slots := 0, locals := 0 } : Room) [.ref o] [oMo o th n a e dn at9 dp po kd wh re pl base sg xt row ror xi xd np nw nr nb ns yt nrw nir yi yd inf9] (fun (z9 : Int) (w9 : va_W) => z9 = dp ∧ w9 = [oMo o 0 n a e dn at9 dp po kd wh re pl base sg xt row ror xi xd np nw nr nb ns yt nrw nir yi yd inf9]) := by
  intro sz
  refine met_of (fun wc sz => va_Qi (qI _) (posW G wc sz) (va_A wc sz)) (by decide) [(0, .ref o)] rfl (Nat.le_of_ble_eq_true rfl) (fun K hK9 hnm X Y => ?_)
  subst hK9
  replace Y : RI K G (some .int) 0 0 _ := Y
  refine s_aload_n X dX6_depth_0 rfl 0 rfl ?_
  refine s_iconst X dX6_depth_1 ?_
  refine s_put X dX6_depth_2 fl_X6_43 tyX6_ok nmX6 0 rfl rfl (rfl) (rfl) (Nat.le_of_ble_eq_true rfl) [oMo o 0 n a e dn at9 dp po kd wh re pl base sg xt row ror xi xd np nw nr nb ns yt nrw nir yi yd inf9] rfl ?_
  refine s_aload_n X dX6_depth_5 rfl 0 rfl ?_
  refine s_get X dX6_depth_6 fl_X6_212 0 rfl rfl ?_
  refine s_iret X Y dX6_depth_9 (rfl) ?_
  refine ⟨?_, rfl⟩
  · (first | (exfalso; omega) | (first | rfl | omega | (simp [*]; done)))
set_option maxRecDepth 100000 in
set_option maxHeartbeats 4000000 in
theorem c_X6_end (l : Launch) (G : GX) (o : Nat) (a : Nat) (po : Nat) (xt : Nat) (xi : Nat) (xd : Nat) (yt : Nat) (yi : Nat) (yd : Nat) (th : Int) (n : Int) (e : Int) (dn : Int) (at9 : Int) (dp : Int) (kd : Int) (wh : Int) (pl : Int) (base : Int) (sg : Int) (row : Int) (ror : Int) (np : Int) (nw : Int) (nb : Int) (ns : Int) (nrw : Int) (nir : Int) (inf9 : Int) (re : UInt64) (nr : UInt64) (he : e = 0 ∨ e = 1) : CtI l G yX6_end cX6_end 1 (some .int) ({ frames := 0, cells := 0, slots := 0, locals := 0 } : Room) [.ref o] [oMo o th n a e dn at9 dp po kd wh re pl base sg xt row ror xi xd np nw nr nb ns yt nrw nir yi yd inf9] (fun (z9 : Int) (w9 : va_W) => z9 = (if e = 0 then n - dn else -1) ∧ w9 = [oMo o 0 n a 1 dn at9 dp po kd wh re pl base sg xt row ror xi xd np nw nr nb ns yt nrw nir yi yd inf9]) := by
  intro sz
  refine met_of (fun wc sz => va_Qi (qI _) (posW G wc sz) (va_A wc sz)) (by decide) [(0, .ref o)] rfl (Nat.le_of_ble_eq_true rfl) (fun K hK9 hnm X Y => ?_)
  subst hK9
  replace Y : RI K G (some .int) 0 0 _ := Y
  refine s_aload_n X dX6_end_0 rfl 0 rfl ?_
  refine s_iconst X dX6_end_1 ?_
  refine s_put X dX6_end_2 fl_X6_43 tyX6_ok nmX6 0 rfl rfl (rfl) (rfl) (Nat.le_of_ble_eq_true rfl) [oMo o 0 n a e dn at9 dp po kd wh re pl base sg xt row ror xi xd np nw nr nb ns yt nrw nir yi yd inf9] rfl ?_
  refine s_aload_n X dX6_end_5 rfl 0 rfl ?_
  refine s_get X dX6_end_6 fl_X6_53 0 rfl rfl ?_
  refine s_if_eq X 14 dX6_end_9 (by decide) (by omega) (fun c9 => ?_) (fun c9 => ?_)
  · refine s_aload_n X dX6_end_14 rfl 0 rfl ?_
    refine s_iconst X dX6_end_15 ?_
    refine s_put X dX6_end_16 fl_X6_53 tyX6_ok nmX6 0 rfl rfl (rfl) (rfl) (Nat.le_of_ble_eq_true rfl) [oMo o 0 n a 1 dn at9 dp po kd wh re pl base sg xt row ror xi xd np nw nr nb ns yt nrw nir yi yd inf9] rfl ?_
    refine s_aload_n X dX6_end_19 rfl 0 rfl ?_
    refine s_get X dX6_end_20 fl_X6_40 0 rfl rfl ?_
    refine s_aload_n X dX6_end_23 rfl 0 rfl ?_
    refine s_get X dX6_end_24 fl_X6_57 0 rfl rfl ?_
    refine s_isub X dX6_end_27 ?_
    refine s_iret X Y dX6_end_28 (rfl) ?_
    refine ⟨?_, rfl⟩
    · (first | (exfalso; omega) | (first | exact (if_neg (by omega)).symm | exact (if_pos (by omega)).symm))
  · refine s_iconst X dX6_end_12 ?_
    refine s_iret X Y dX6_end_13 (rfl) ?_
    refine ⟨?_, ?_⟩
    · (first | (exfalso; omega) | (first | exact (if_neg (by omega)).symm | exact (if_pos (by omega)).symm))
    · (first | (exfalso; omega) | (have e1 : e = 1 := (by omega); rw [e1]))
set_option maxRecDepth 100000 in
set_option maxHeartbeats 4000000 in
theorem c_X6_came (l : Launch) (G : GX) (o : Nat) (a : Nat) (po : Nat) (xt : Nat) (xi : Nat) (xd : Nat) (yt : Nat) (yi : Nat) (yd : Nat) (th : Int) (n : Int) (e : Int) (dn : Int) (at9 : Int) (dp : Int) (kd : Int) (wh : Int) (pl : Int) (base : Int) (sg : Int) (row : Int) (ror : Int) (np : Int) (nw : Int) (nb : Int) (ns : Int) (nrw : Int) (nir : Int) (inf9 : Int) (re : UInt64) (nr : UInt64) (y : Int) (hy : 0 ≤ np ∧ np ≤ 3000 ∧ 0 ≤ y ∧ y ≤ 1000000 ∧ R32 n) : CtI l G yX6_came cX6_came 2 (some .boolean) ({ frames := 0, cells := 0, slots := 0, locals := 0 } : Room) [.ref o, .int (iI y)] [oMo o th n a e dn at9 dp po kd wh re pl base sg xt row ror xi xd np nw nr nb ns yt nrw nir yi yd inf9] (fun (z9 : Int) (w9 : va_W) => z9 = (tf (np + y ≤ n)) ∧ w9 = [oMo o th n a e dn at9 dp po kd wh re pl base sg xt row ror xi xd np nw nr nb ns yt nrw nir yi yd inf9]) := by
  intro sz
  refine met_of (fun wc sz => va_Qi (qI _) (posW G wc sz) (va_A wc sz)) (by decide) [(0, .ref o), (1, .int (iI y))] rfl (Nat.le_of_ble_eq_true rfl) (fun K hK9 hnm X Y => ?_)
  subst hK9
  replace Y : RI K G (some .boolean) 0 0 _ := Y
  refine s_aload_n X dX6_came_0 rfl 0 rfl ?_
  refine s_get X dX6_came_1 fl_X6_135 0 rfl rfl ?_
  refine s_iload_n X dX6_came_4 rfl 1 rfl ?_
  refine s_iadd X dX6_came_5 ?_
  refine s_aload_n X dX6_came_6 rfl 0 rfl ?_
  refine s_get X dX6_came_7 fl_X6_40 0 rfl rfl ?_
  refine s_icmp_gt X 17 dX6_came_10 (by decide) (by omega) (fun c10 => ?_) (fun c10 => ?_)
  · refine s_iconst X dX6_came_17 ?_
    refine s_iret X Y dX6_came_18 (rfl) ?_
    refine ⟨?_, rfl⟩
    · (first | (exfalso; omega) | (first | exact (tf_t (by omega)).symm | exact (tf_f (by omega)).symm))
  · refine s_iconst X dX6_came_13 ?_
    refine s_goto X 18 dX6_came_14 (by decide) ?_
    refine s_iret X Y dX6_came_18 (rfl) ?_
    refine ⟨?_, rfl⟩
    · (first | (exfalso; omega) | (first | exact (tf_t (by omega)).symm | exact (tf_f (by omega)).symm))
set_option maxRecDepth 100000 in
set_option maxHeartbeats 4000000 in
theorem c_X6_asNumber (l : Launch) (G : GX) (y : Int) (hy : R32 y) : CtI l G yX6_asNumber cX6_asNumber 1 (some .int) ({ frames := 0, cells := 0, slots := 0, locals := 0 } : Room) [.int (iI y)] [] (fun (z9 : Int) (w9 : va_W) => z9 = (if y = -99 then 1 else y) ∧ w9 = []) := by
  intro sz
  refine met_of (fun wc sz => va_Qi (qI _) (posW G wc sz) (va_A wc sz)) (by decide) [(0, .int (iI y))] rfl (Nat.le_of_ble_eq_true rfl) (fun K hK9 hnm X Y => ?_)
  subst hK9
  replace Y : RI K G (some .int) 0 0 _ := Y
  refine s_iload_n X dX6_asNumber_0 rfl 0 rfl ?_
  refine s_bipush (-99) X dX6_asNumber_1 (by decide) ?_
  refine s_icmp_ne X 10 dX6_asNumber_3 (by decide) (by omega) (fun c3 => ?_) (fun c3 => ?_)
  · refine s_iload_n X dX6_asNumber_10 rfl 0 rfl ?_
    refine s_iret X Y dX6_asNumber_11 (rfl) ?_
    refine ⟨?_, rfl⟩
    · (first | (exfalso; omega) | (first | exact (if_neg (by omega)).symm | exact (if_pos (by omega)).symm))
  · refine s_iconst X dX6_asNumber_6 ?_
    refine s_goto X 11 dX6_asNumber_7 (by decide) ?_
    refine s_iret X Y dX6_asNumber_11 (rfl) ?_
    refine ⟨?_, rfl⟩
    · (first | (exfalso; omega) | (first | exact (if_neg (by omega)).symm | exact (if_pos (by omega)).symm))
set_option maxRecDepth 100000 in
set_option maxHeartbeats 4000000 in
theorem c_X6_clear (l : Launch) (G : GX) (o : Nat) (a : Nat) (po : Nat) (xt : Nat) (xi : Nat) (xd : Nat) (yt : Nat) (yi : Nat) (yd : Nat) (th : Int) (n : Int) (e : Int) (dn : Int) (at9 : Int) (dp : Int) (kd : Int) (wh : Int) (pl : Int) (base : Int) (sg : Int) (row : Int) (ror : Int) (np : Int) (nw : Int) (nb : Int) (ns : Int) (nrw : Int) (nir : Int) (inf9 : Int) (re : UInt64) (nr : UInt64)  : CtV l G yX6_clear cX6_clear 1 none ({ frames := 0, cells := 0, slots := 0, locals := 0 } : Room) [.ref o] [oMo o th n a e dn at9 dp po kd wh re pl base sg xt row ror xi xd np nw nr nb ns yt nrw nir yi yd inf9] (fun (w9 : va_W) => w9 = [oMo o 0 0 a 0 0 at9 0 po 0 0 FP.dconst0 0 10 0 xt 0 ror xi xd np nw nr nb ns yt nrw nir yi yd inf9]) := by
  intro sz
  refine met_of (fun wc sz => va_Qv _ (posW G wc sz) (va_A wc sz)) (by decide) [(0, .ref o)] rfl (Nat.le_of_ble_eq_true rfl) (fun K hK9 hnm X Y => ?_)
  subst hK9
  replace Y : RV K G none 0 0 _ := Y
  refine s_aload_n X dX6_clear_0 rfl 0 rfl ?_
  refine s_iconst X dX6_clear_1 ?_
  refine s_put X dX6_clear_2 fl_X6_43 tyX6_ok nmX6 0 rfl rfl (rfl) (rfl) (Nat.le_of_ble_eq_true rfl) [oMo o 0 n a e dn at9 dp po kd wh re pl base sg xt row ror xi xd np nw nr nb ns yt nrw nir yi yd inf9] rfl ?_
  refine s_aload_n X dX6_clear_5 rfl 0 rfl ?_
  refine s_iconst X dX6_clear_6 ?_
  refine s_put X dX6_clear_7 fl_X6_40 tyX6_ok nmX6 0 rfl rfl (rfl) (rfl) (Nat.le_of_ble_eq_true rfl) [oMo o 0 0 a e dn at9 dp po kd wh re pl base sg xt row ror xi xd np nw nr nb ns yt nrw nir yi yd inf9] rfl ?_
  refine s_aload_n X dX6_clear_10 rfl 0 rfl ?_
  refine s_iconst X dX6_clear_11 ?_
  refine s_put X dX6_clear_12 fl_X6_53 tyX6_ok nmX6 0 rfl rfl (rfl) (rfl) (Nat.le_of_ble_eq_true rfl) [oMo o 0 0 a 0 dn at9 dp po kd wh re pl base sg xt row ror xi xd np nw nr nb ns yt nrw nir yi yd inf9] rfl ?_
  refine s_aload_n X dX6_clear_15 rfl 0 rfl ?_
  refine s_iconst X dX6_clear_16 ?_
  refine s_put X dX6_clear_17 fl_X6_57 tyX6_ok nmX6 0 rfl rfl (rfl) (rfl) (Nat.le_of_ble_eq_true rfl) [oMo o 0 0 a 0 0 at9 dp po kd wh re pl base sg xt row ror xi xd np nw nr nb ns yt nrw nir yi yd inf9] rfl ?_
  refine s_aload_n X dX6_clear_20 rfl 0 rfl ?_
  refine s_iconst X dX6_clear_21 ?_
  refine s_put X dX6_clear_22 fl_X6_212 tyX6_ok nmX6 0 rfl rfl (rfl) (rfl) (Nat.le_of_ble_eq_true rfl) [oMo o 0 0 a 0 0 at9 0 po kd wh re pl base sg xt row ror xi xd np nw nr nb ns yt nrw nir yi yd inf9] rfl ?_
  refine s_aload_n X dX6_clear_25 rfl 0 rfl ?_
  refine s_iconst X dX6_clear_26 ?_
  refine s_put X dX6_clear_27 fl_X6_233 tyX6_ok nmX6 0 rfl rfl (rfl) (rfl) (Nat.le_of_ble_eq_true rfl) [oMo o 0 0 a 0 0 at9 0 po 0 wh re pl base sg xt row ror xi xd np nw nr nb ns yt nrw nir yi yd inf9] rfl ?_
  refine s_aload_n X dX6_clear_30 rfl 0 rfl ?_
  refine s_lconst0 X dX6_clear_31 ?_
  refine s_put X dX6_clear_32 fl_X6_236 tyX6_ok nmX6 0 rfl rfl (rfl) (rfl) (Nat.le_of_ble_eq_true rfl) [oMo o 0 0 a 0 0 at9 0 po 0 0 re pl base sg xt row ror xi xd np nw nr nb ns yt nrw nir yi yd inf9] rfl ?_
  refine s_aload_n X dX6_clear_35 rfl 0 rfl ?_
  refine s_dconst0 X dX6_clear_36 ?_
  refine s_put X dX6_clear_37 fl_X6_239 tyX6_ok nmX6 0 rfl rfl (rfl) (rfl) (Nat.le_of_ble_eq_true rfl) [oMo o 0 0 a 0 0 at9 0 po 0 0 FP.dconst0 pl base sg xt row ror xi xd np nw nr nb ns yt nrw nir yi yd inf9] rfl ?_
  refine s_aload_n X dX6_clear_40 rfl 0 rfl ?_
  refine s_iconst X dX6_clear_41 ?_
  refine s_put X dX6_clear_42 fl_X6_254 tyX6_ok nmX6 0 rfl rfl (rfl) (rfl) (Nat.le_of_ble_eq_true rfl) [oMo o 0 0 a 0 0 at9 0 po 0 0 FP.dconst0 0 base sg xt row ror xi xd np nw nr nb ns yt nrw nir yi yd inf9] rfl ?_
  refine s_aload_n X dX6_clear_45 rfl 0 rfl ?_
  refine s_bipush 10 X dX6_clear_46 (by decide) ?_
  refine s_put X dX6_clear_48 fl_X6_17 tyX6_ok nmX6 0 rfl rfl (rfl) (rfl) (Nat.le_of_ble_eq_true rfl) [oMo o 0 0 a 0 0 at9 0 po 0 0 FP.dconst0 0 10 sg xt row ror xi xd np nw nr nb ns yt nrw nir yi yd inf9] rfl ?_
  refine s_aload_n X dX6_clear_51 rfl 0 rfl ?_
  refine s_iconst X dX6_clear_52 ?_
  refine s_put X dX6_clear_53 fl_X6_242 tyX6_ok nmX6 0 rfl rfl (rfl) (rfl) (Nat.le_of_ble_eq_true rfl) [oMo o 0 0 a 0 0 at9 0 po 0 0 FP.dconst0 0 10 0 xt row ror xi xd np nw nr nb ns yt nrw nir yi yd inf9] rfl ?_
  refine s_aload_n X dX6_clear_56 rfl 0 rfl ?_
  refine s_iconst X dX6_clear_57 ?_
  refine s_put X dX6_clear_58 fl_X6_245 tyX6_ok nmX6 0 rfl rfl (rfl) (rfl) (Nat.le_of_ble_eq_true rfl) [oMo o 0 0 a 0 0 at9 0 po 0 0 FP.dconst0 0 10 0 xt 0 ror xi xd np nw nr nb ns yt nrw nir yi yd inf9] rfl ?_
  refine s_vret X Y dX6_clear_61 ?_
  exact rfl
set_option maxRecDepth 100000 in
set_option maxHeartbeats 4000000 in
theorem c_X6_sign (l : Launch) (G : GX) (o : Nat) (a : Nat) (po : Nat) (xt : Nat) (xi : Nat) (xd : Nat) (yt : Nat) (yi : Nat) (yd : Nat) (th : Int) (n : Int) (e : Int) (dn : Int) (at9 : Int) (dp : Int) (kd : Int) (wh : Int) (pl : Int) (base : Int) (sg : Int) (row : Int) (ror : Int) (np : Int) (nw : Int) (nb : Int) (ns : Int) (nrw : Int) (nir : Int) (inf9 : Int) (re : UInt64) (nr : UInt64) (tx : Nat → Nat) (i : Int) (hsg : 0 ≤ sg ∧ sg ≤ 400) (htxb : ∀ j, tx j < 256) (hi : R32 i) : CtI l G yX6_sign cX6_sign 2 (some .int) ({ frames := 0, cells := 0, slots := 0, locals := 0 } : Room) [.ref o, .int (iI i)] [oMo o th n a e dn at9 dp po kd wh re pl base sg xt row ror xi xd np nw nr nb ns yt nrw nir yi yd inf9, aB G xt 400 tx] (fun (z9 : Int) (w9 : va_W) => z9 = (bA tx sg i) ∧ w9 = [oMo o 0 n a e dn at9 dp po kd wh re pl base sg xt row ror xi xd np nw nr nb ns yt nrw nir yi yd inf9, aB G xt 400 tx]) := by
  intro sz
  refine met_of (fun wc sz => va_Qi (qI _) (posW G wc sz) (va_A wc sz)) (by decide) [(0, .ref o), (1, .int (iI i))] rfl (Nat.le_of_ble_eq_true rfl) (fun K hK9 hnm X Y => ?_)
  subst hK9
  replace Y : RI K G (some .int) 0 0 _ := Y
  refine s_aload_n X dX6_sign_0 rfl 0 rfl ?_
  refine s_iconst X dX6_sign_1 ?_
  refine s_put X dX6_sign_2 fl_X6_43 tyX6_ok nmX6 0 rfl rfl (rfl) (rfl) (Nat.le_of_ble_eq_true rfl) [oMo o 0 n a e dn at9 dp po kd wh re pl base sg xt row ror xi xd np nw nr nb ns yt nrw nir yi yd inf9, aB G xt 400 tx] rfl ?_
  refine s_iload_n X dX6_sign_5 rfl 1 rfl ?_
  refine s_if_lt X 30 dX6_sign_6 (by decide) (by omega) (fun c6 => ?_) (fun c6 => ?_)
  · refine s_iconst X dX6_sign_30 ?_
    refine s_iret X Y dX6_sign_31 (rfl) ?_
    refine ⟨?_, rfl⟩
    · (first | (exfalso; omega) | (first | exact (bA_in ⟨by omega, by omega⟩).symm | exact (bA_out (by omega)).symm))
  · refine s_iload_n X dX6_sign_9 rfl 1 rfl ?_
    refine s_aload_n X dX6_sign_10 rfl 0 rfl ?_
    refine s_get X dX6_sign_11 fl_X6_242 0 rfl rfl ?_
    refine s_icmp_ge X 30 dX6_sign_14 (by decide) (by omega) (fun c14 => ?_) (fun c14 => ?_)
    · refine s_iconst X dX6_sign_30 ?_
      refine s_iret X Y dX6_sign_31 (rfl) ?_
      refine ⟨?_, rfl⟩
      · (first | (exfalso; omega) | (first | exact (bA_in ⟨by omega, by omega⟩).symm | exact (bA_out (by omega)).symm))
    · refine s_aload_n X dX6_sign_17 rfl 0 rfl ?_
      refine s_get X dX6_sign_18 fl_X6_21 0 rfl rfl ?_
      refine s_iload_n X dX6_sign_21 rfl 1 rfl ?_
      refine s_bald X dX6_sign_22 1 rfl (by omega) ?_
      refine s_sipush 255 X dX6_sign_23 (by decide) ?_
      refine s_iand (z := (((tx i.toNat) : Nat) : Int)) X dX6_sign_26 (sb_and9 (htxb _)) ?_
      refine s_goto X 31 dX6_sign_27 (by decide) ?_
      refine s_iret X Y dX6_sign_31 (rfl) ?_
      refine ⟨?_, rfl⟩
      · (first | (exfalso; omega) | (first | exact (bA_in ⟨by omega, by omega⟩).symm | exact (bA_out (by omega)).symm))
