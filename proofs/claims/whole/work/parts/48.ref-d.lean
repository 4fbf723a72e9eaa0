set_option maxRecDepth 100000 in
set_option maxHeartbeats 4000000 in
theorem c_X6_putSign (l : Launch) (G : GX) (o : Nat) (a : Nat) (po : Nat) (xt : Nat) (xi : Nat) (xd : Nat) (yt : Nat) (yi : Nat) (yd : Nat) (th : Int) (n : Int) (e : Int) (dn : Int) (at9 : Int) (dp : Int) (kd : Int) (wh : Int) (pl : Int) (base : Int) (sg : Int) (row : Int) (ror : Int) (np : Int) (nw : Int) (nb : Int) (ns : Int) (nrw : Int) (nir : Int) (inf9 : Int) (re : UInt64) (nr : UInt64) (t : Nat → Nat) (v : Int) (hns : 0 ≤ ns ∧ ns ≤ 20000) : CtV l G yX6_putSign cX6_putSign 2 none ({ frames := 0, cells := 0, slots := 0, locals := 0 } : Room) [.ref o, .int (iI v)] [oMo o th n a e dn at9 dp po kd wh re pl base sg xt row ror xi xd np nw nr nb ns yt nrw nir yi yd inf9, aB G yt 400 t] (fun (w9 : va_W) => w9 = [oMo o th n a e dn at9 dp po kd wh re pl base sg xt row ror xi xd np nw nr nb (ns + 1) yt nrw nir yi yd inf9, aB G yt 400 (putY t ns v)]) := by
  intro sz
  refine met_of (fun wc sz => va_Qv _ (posW G wc sz) (va_A wc sz)) (by decide) [(0, .ref o), (1, .int (iI v))] rfl (Nat.le_of_ble_eq_true rfl) (fun K hK9 hnm X Y => ?_)
  subst hK9
  replace Y : RV K G none 0 0 _ := Y
  refine s_aload_n X dX6_putSign_0 rfl 0 rfl ?_
  refine s_get X dX6_putSign_1 fl_X6_99 0 rfl rfl ?_
  refine s_sipush 400 X dX6_putSign_4 (by decide) ?_
  refine s_icmp_ge X 21 dX6_putSign_7 (by decide) (by omega) (fun c7 => ?_) (fun c7 => ?_)
  · refine s_aload_n X dX6_putSign_21 rfl 0 rfl ?_
    refine s_dup X dX6_putSign_22 rfl ?_
    refine s_get X dX6_putSign_23 fl_X6_99 0 rfl rfl ?_
    refine s_iconst X dX6_putSign_26 ?_
    refine s_iadd X dX6_putSign_27 ?_
    refine s_put X dX6_putSign_28 fl_X6_99 tyX6_ok nmX6 0 rfl rfl (rfl) (rfl) (Nat.le_of_ble_eq_true rfl) [oMo o th n a e dn at9 dp po kd wh re pl base sg xt row ror xi xd np nw nr nb (ns + 1) yt nrw nir yi yd inf9, aB G yt 400 t] rfl ?_
    refine s_vret X Y dX6_putSign_31 ?_
    · (first | (exfalso; omega) | (rw [putY, if_pos (by omega)]) | (rw [putY, if_neg (by omega)]))
  · refine s_aload_n X dX6_putSign_10 rfl 0 rfl ?_
    refine s_get X dX6_putSign_11 fl_X6_31 0 rfl rfl ?_
    refine s_aload_n X dX6_putSign_14 rfl 0 rfl ?_
    refine s_get X dX6_putSign_15 fl_X6_99 0 rfl rfl ?_
    refine s_iload_n X dX6_putSign_18 rfl 1 rfl ?_
    refine s_i2b X dX6_putSign_19 ?_
    refine s_bast X dX6_putSign_20 1 rfl (by omega) [oMo o th n a e dn at9 dp po kd wh re pl base sg xt row ror xi xd np nw nr nb ns yt nrw nir yi yd inf9, aB G yt 400 (uB t ns.toNat (by8 v))] rfl ?_
    refine s_aload_n X dX6_putSign_21 rfl 0 rfl ?_
    refine s_dup X dX6_putSign_22 rfl ?_
    refine s_get X dX6_putSign_23 fl_X6_99 0 rfl rfl ?_
    refine s_iconst X dX6_putSign_26 ?_
    refine s_iadd X dX6_putSign_27 ?_
    refine s_put X dX6_putSign_28 fl_X6_99 tyX6_ok nmX6 0 rfl rfl (rfl) (rfl) (Nat.le_of_ble_eq_true rfl) [oMo o th n a e dn at9 dp po kd wh re pl base sg xt row ror xi xd np nw nr nb (ns + 1) yt nrw nir yi yd inf9, aB G yt 400 (uB t ns.toNat (by8 v))] rfl ?_
    refine s_vret X Y dX6_putSign_31 ?_
    · (first | (exfalso; omega) | (rw [putY, if_pos (by omega)]) | (rw [putY, if_neg (by omega)]))
set_option maxRecDepth 100000 in
set_option maxHeartbeats 4000000 in
theorem c_X6_lacking (l : Launch) (G : GX) (o : Nat) (a : Nat) (po : Nat) (xt : Nat) (xi : Nat) (xd : Nat) (yt : Nat) (yi : Nat) (yd : Nat) (th : Int) (n : Int) (e : Int) (dn : Int) (at9 : Int) (dp : Int) (kd : Int) (wh : Int) (pl : Int) (base : Int) (sg : Int) (row : Int) (ror : Int) (np : Int) (nw : Int) (nb : Int) (ns : Int) (nrw : Int) (nir : Int) (inf9 : Int) (re : UInt64) (nr : UInt64) (he : e = 0 ∨ e = 1) : CtI l G yX6_lacking cX6_lacking 1 (some .int) ({ frames := 0, cells := 0, slots := 0, locals := 0 } : Room) [.ref o] [oMo o th n a e dn at9 dp po kd wh re pl base sg xt row ror xi xd np nw nr nb ns yt nrw nir yi yd inf9] (fun (z9 : Int) (w9 : va_W) => z9 = (if e = 0 then 0 else -7) ∧ w9 = [oMo o th n a e dn (if e = 0 then at9 else n) dp po kd wh re pl base sg xt row ror xi xd np nw nr nb ns yt nrw nir yi yd inf9]) := by
  intro sz
  refine met_of (fun wc sz => va_Qi (qI _) (posW G wc sz) (va_A wc sz)) (by decide) [(0, .ref o)] rfl (Nat.le_of_ble_eq_true rfl) (fun K hK9 hnm X Y => ?_)
  subst hK9
  replace Y : RI K G (some .int) 0 0 _ := Y
  refine s_aload_n X dX6_lacking_0 rfl 0 rfl ?_
  refine s_get X dX6_lacking_1 fl_X6_53 0 rfl rfl ?_
  refine s_if_ne X 9 dX6_lacking_4 (by decide) (by omega) (fun c4 => ?_) (fun c4 => ?_)
  · refine s_aload_n X dX6_lacking_9 rfl 0 rfl ?_
    refine s_aload_n X dX6_lacking_10 rfl 0 rfl ?_
    refine s_get X dX6_lacking_11 fl_X6_40 0 rfl rfl ?_
    refine s_put X dX6_lacking_14 fl_X6_102 tyX6_ok nmX6 0 rfl rfl (rfl) (rfl) (Nat.le_of_ble_eq_true rfl) [oMo o th n a e dn n dp po kd wh re pl base sg xt row ror xi xd np nw nr nb ns yt nrw nir yi yd inf9] rfl ?_
    refine s_bipush (-7) X dX6_lacking_17 (by decide) ?_
    refine s_iret X Y dX6_lacking_19 (rfl) ?_
    refine ⟨?_, ?_⟩
    · (first | (exfalso; omega) | (simp [*]))
    · (first | (exfalso; omega) | (simp [*]))
  · refine s_iconst X dX6_lacking_7 ?_
    refine s_iret X Y dX6_lacking_8 (rfl) ?_
    refine ⟨?_, ?_⟩
    · (first | (exfalso; omega) | (simp [*]))
    · (first | (exfalso; omega) | (simp [*]))
set_option maxRecDepth 100000 in
set_option maxHeartbeats 4000000 in
theorem c_X6_finished (l : Launch) (G : GX) (o : Nat) (a : Nat) (po : Nat) (xt : Nat) (xi : Nat) (xd : Nat) (yt : Nat) (yi : Nat) (yd : Nat) (th : Int) (n : Int) (e : Int) (dn : Int) (at9 : Int) (dp : Int) (kd : Int) (wh : Int) (pl : Int) (base : Int) (sg : Int) (row : Int) (ror : Int) (np : Int) (nw : Int) (nb : Int) (ns : Int) (nrw : Int) (nir : Int) (inf9 : Int) (re : UInt64) (nr : UInt64) (hns : 0 ≤ ns ∧ ns ≤ 20000) : CtI l G yX6_finished cX6_finished 1 (some .int) ({ frames := 0, cells := 0, slots := 0, locals := 0 } : Room) [.ref o] [oMo o th n a e dn at9 dp po kd wh re pl base sg xt row ror xi xd np nw nr nb ns yt nrw nir yi yd inf9] (fun (z9 : Int) (w9 : va_W) => z9 = (if 400 < ns then -2 else 6) ∧ w9 = [oMo o th n a e dn at9 dp po kd wh re pl base sg xt row ror xi xd np ns nr nb ns yt nrw nir yi yd inf9]) := by
  intro sz
  refine met_of (fun wc sz => va_Qi (qI _) (posW G wc sz) (va_A wc sz)) (by decide) [(0, .ref o)] rfl (Nat.le_of_ble_eq_true rfl) (fun K hK9 hnm X Y => ?_)
  subst hK9
  replace Y : RI K G (some .int) 0 0 _ := Y
  refine s_aload_n X dX6_finished_0 rfl 0 rfl ?_
  refine s_aload_n X dX6_finished_1 rfl 0 rfl ?_
  refine s_get X dX6_finished_2 fl_X6_99 0 rfl rfl ?_
  refine s_i2l X dX6_finished_5 (by omega) ?_
  refine s_put X dX6_finished_6 fl_X6_77 tyX6_ok nmX6 0 rfl rfl (rfl) (rfl) (Nat.le_of_ble_eq_true rfl) [oMo o th n a e dn at9 dp po kd wh re pl base sg xt row ror xi xd np ns nr nb ns yt nrw nir yi yd inf9] rfl ?_
  refine s_aload_n X dX6_finished_9 rfl 0 rfl ?_
  refine s_get X dX6_finished_10 fl_X6_99 0 rfl rfl ?_
  refine s_sipush 400 X dX6_finished_13 (by decide) ?_
  refine s_icmp_le X 24 dX6_finished_16 (by decide) (by omega) (fun c16 => ?_) (fun c16 => ?_)
  · refine s_bipush 6 X dX6_finished_24 (by decide) ?_
    refine s_iret X Y dX6_finished_26 (rfl) ?_
    refine ⟨?_, rfl⟩
    · (first | (exfalso; omega) | (first | exact (if_pos (by omega)).symm | exact (if_neg (by omega)).symm))
  · refine s_bipush (-2) X dX6_finished_19 (by decide) ?_
    refine s_goto X 26 dX6_finished_21 (by decide) ?_
    refine s_iret X Y dX6_finished_26 (rfl) ?_
    refine ⟨?_, rfl⟩
    · (first | (exfalso; omega) | (first | exact (if_pos (by omega)).symm | exact (if_neg (by omega)).symm))
set_option maxRecDepth 100000 in
set_option maxHeartbeats 4000000 in
theorem c_X6_wrongByte (l : Launch) (G : GX) (o : Nat) (a : Nat) (po : Nat) (xt : Nat) (xi : Nat) (xd : Nat) (yt : Nat) (yi : Nat) (yd : Nat) (th : Int) (n : Int) (e : Int) (dn : Int) (at9 : Int) (dp : Int) (kd : Int) (wh : Int) (pl : Int) (base : Int) (sg : Int) (row : Int) (ror : Int) (np : Int) (nw : Int) (nb : Int) (ns : Int) (nrw : Int) (nir : Int) (inf9 : Int) (re : UInt64) (nr : UInt64) (y : Int)  : CtI l G yX6_wrongByte cX6_wrongByte 2 (some .int) ({ frames := 0, cells := 0, slots := 0, locals := 0 } : Room) [.ref o, .int (iI y)] [oMo o th n a e dn at9 dp po kd wh re pl base sg xt row ror xi xd np nw nr nb ns yt nrw nir yi yd inf9] (fun (z9 : Int) (w9 : va_W) => z9 = (-1 - y) ∧ w9 = [oMo o th n a e dn (at9 + 1) dp po kd wh re pl base sg xt row ror xi xd at9 nw nr nb ns yt nrw nir yi yd inf9]) := by
  intro sz
  refine met_of (fun wc sz => va_Qi (qI _) (posW G wc sz) (va_A wc sz)) (by decide) [(0, .ref o), (1, .int (iI y))] rfl (Nat.le_of_ble_eq_true rfl) (fun K hK9 hnm X Y => ?_)
  subst hK9
  replace Y : RI K G (some .int) 0 0 _ := Y
  refine s_aload_n X dX6_wrongByte_0 rfl 0 rfl ?_
  refine s_aload_n X dX6_wrongByte_1 rfl 0 rfl ?_
  refine s_get X dX6_wrongByte_2 fl_X6_102 0 rfl rfl ?_
  refine s_put X dX6_wrongByte_5 fl_X6_135 tyX6_ok nmX6 0 rfl rfl (rfl) (rfl) (Nat.le_of_ble_eq_true rfl) [oMo o th n a e dn at9 dp po kd wh re pl base sg xt row ror xi xd at9 nw nr nb ns yt nrw nir yi yd inf9] rfl ?_
  refine s_aload_n X dX6_wrongByte_8 rfl 0 rfl ?_
  refine s_dup X dX6_wrongByte_9 rfl ?_
  refine s_get X dX6_wrongByte_10 fl_X6_102 0 rfl rfl ?_
  refine s_iconst X dX6_wrongByte_13 ?_
  refine s_iadd X dX6_wrongByte_14 ?_
  refine s_put X dX6_wrongByte_15 fl_X6_102 tyX6_ok nmX6 0 rfl rfl (rfl) (rfl) (Nat.le_of_ble_eq_true rfl) [oMo o th n a e dn (at9 + 1) dp po kd wh re pl base sg xt row ror xi xd at9 nw nr nb ns yt nrw nir yi yd inf9] rfl ?_
  refine s_iconst X dX6_wrongByte_18 ?_
  refine s_iload_n X dX6_wrongByte_19 rfl 1 rfl ?_
  refine s_isub X dX6_wrongByte_20 ?_
  refine s_iret X Y dX6_wrongByte_21 (rfl) ?_
  refine ⟨?_, rfl⟩
  · (first | (exfalso; omega) | (first | rfl | omega | (simp [*]; done)))
set_option maxRecDepth 100000 in
set_option maxHeartbeats 4000000 in
theorem c_X6_word (l : Launch) (G : GX) (o : Nat) (a : Nat) (po : Nat) (xt : Nat) (xi : Nat) (xd : Nat) (yt : Nat) (yi : Nat) (yd : Nat) (th : Int) (n : Int) (e : Int) (dn : Int) (at9 : Int) (dp : Int) (kd : Int) (wh : Int) (pl : Int) (base : Int) (sg : Int) (row : Int) (ror : Int) (np : Int) (nw : Int) (nb : Int) (ns : Int) (nrw : Int) (nir : Int) (inf9 : Int) (re : UInt64) (nr : UInt64) (B : Nat → Nat) (t : Nat → Nat) (hn : 0 ≤ n ∧ n ≤ 3000) (hBb : ∀ j, B j < 256) (he : e = 0 ∨ e = 1) (hap : 0 ≤ at9 ∧ at9 ≤ n) (htb : ∀ j, t j < 256) : CtI l G yX6_word cX6_word 2 (some .int) ({ frames := 2, cells := 0, slots := 0, locals := 40 } : Room) [.ref o] [oMo o th n a e dn at9 dp po kd wh re pl base sg xt row ror xi xd np nw nr nb ns yt nrw nir yi yd inf9, aB G a 3000 B, aB G yt 400 t] (fun (z9 : Int) (w9 : va_W) => ∃ (nw2 : Int), ∃ (ns2 : Int), ∃ (t2 : Nat → Nat), z9 = (rtA (we B n at9) n e at9 1) ∧ w9 = [oMo o th n a e dn (we B n at9) dp po kd wh re pl base sg xt row ror xi xd np nw2 nr nb ns2 yt nrw nir yi yd inf9, aB G a 3000 B, aB G yt 400 t2] ∧ (z9 = 1 → nw2 = (we B n at9) - at9 ∧ TY t2 ns2 (wL B at9 ((we B n at9) - at9).toNat)) ∧ (0 ≤ ns2 ∧ ns2 ≤ 100) ∧ (∀ j, t2 j < 256)) := by
  intro sz
  refine met_of (fun wc sz => va_Qi (qI _) (posW G wc sz) (va_A wc sz)) (by decide) [(0, .ref o)] rfl (Nat.le_of_ble_eq_true rfl) (fun K hK9 hnm X Y => ?_)
  subst hK9
  replace Y : RI K G (some .int) 0 0 _ := Y
  refine s_aload_n X dX6_word_0 rfl 0 rfl ?_
  refine s_iconst X dX6_word_1 ?_
  refine s_put X dX6_word_2 fl_X6_99 tyX6_ok nmX6 0 rfl rfl (rfl) (rfl) (Nat.le_of_ble_eq_true rfl) [oMo o th n a e dn at9 dp po kd wh re pl base sg xt row ror xi xd np nw nr nb 0 yt nrw nir yi yd inf9, aB G a 3000 B, aB G yt 400 t] rfl ?_
  refine s_iconst X dX6_word_5 ?_
  refine s_istore_n X dX6_word_6 rfl [(1, .int (iI 0)), (0, .ref o)] (by decide) rfl ?_
  have lp : ∀ (m9 : Nat) (i : Int) (c : Int) (t1 : Nat → Nat) (h1 : at9 ≤ i ∧ i ≤ n ∧ c = i - at9) (h2 : we B n i = (we B n at9)) (h3 : ∀ j, t1 j < 256) (h4 : ∀ j : Int, 0 ≤ j → j < c → j < 100 → t1 j.toNat = B (at9 + j).toNat), (n - i).toNat < m9 → SW K G 2 0 0 7 [(1, .int (iI c)), (0, .ref o)] [] [oMo o th n a e dn i dp po kd wh re pl base sg xt row ror xi xd np nw nr nb 0 yt nrw nir yi yd inf9, aB G a 3000 B, aB G yt 400 t1] := by
    intro m9
    induction m9 with
    | zero => intro i c t1 h1 h2 h3 h4 hm9; exact absurd hm9 (Nat.not_lt_zero _)
    | succ m9 ih9 =>
      intro i c t1 h1 h2 h3 h4 hm9
      refine s_aload_n X dX6_word_7 rfl 1 rfl ?_
      refine s_aload_n X dX6_word_8 rfl 1 rfl ?_
      refine s_get X dX6_word_9 fl_X6_102 0 rfl rfl ?_
      refine s_callIV X lk_X6_63 [0, 1] [2] (wr := [aB G yt 400 t1]) rfl rfl (by decide) (by decide) (by decide) (c_X6_byteAt (kl K) G o a po xt xi xd yt yi yd th n e dn i dp kd wh pl base sg row ror np nw nb 0 nrw nir inf9 re nr B i (by assumption) (by assumption) (by omega)) rfl rfl dX6_word_12 rfl rfl (Nat.le_of_ble_eq_true rfl) (by decide) (fun z1 w1 h1 => ?_)
      obtain ⟨rfl, rfl⟩ := h1
      show SW K G 2 0 0 15 [(1, .int (iI c)), (0, .ref o)] [.int (iI (bA B n i))] [aB G yt 400 t1, oMo o th n a e dn i dp po kd wh re pl base sg xt row ror xi xd np nw nr nb 0 yt nrw nir yi yd inf9, aB G a 3000 B]
      have q2 := bA_C n i (by assumption : ∀ j, B j < 256)
      refine s_callIS X lk_X6_105 [] [0, 1, 2] (wr := [aB G yt 400 t1, oMo o th n a e dn i dp po kd wh re pl base sg xt row ror xi xd np nw nr nb 0 yt nrw nir yi yd inf9, aB G a 3000 B]) rfl rfl (by decide) (by decide) (by decide) (c_X6_isPlain (kl K) G (bA B n i) (by omega)) dX6_word_15 rfl rfl (Nat.le_of_ble_eq_true rfl) (by decide) (fun z3 w3 h3 => ?_)
      obtain ⟨rfl, rfl⟩ := h3
      show SW K G 2 0 0 18 [(1, .int (iI c)), (0, .ref o)] [.int (iI (tf (isP (bA B n i))))] [aB G yt 400 t1, oMo o th n a e dn i dp po kd wh re pl base sg xt row ror xi xd np nw nr nb 0 yt nrw nir yi yd inf9, aB G a 3000 B]
      refine s_tf_eq X 58 dX6_word_18 (by decide) (fun c18 => ?_) (fun c18 => ?_)
      · have hq9 : i = (we B n at9) := we_end h1.2.1 c18 h2
        clear c18
        refine s_aload_n X dX6_word_58 rfl 1 rfl ?_
        refine s_iload_n X dX6_word_59 rfl 0 rfl ?_
        refine s_bipush 100 X dX6_word_60 (by decide) ?_
        refine s_icmp_ge X 69 dX6_word_62 (by decide) (by omega) (fun c62 => ?_) (fun c62 => ?_)
        · refine s_bipush 100 X dX6_word_69 (by decide) ?_
          refine s_put X dX6_word_71 fl_X6_99 tyX6_ok nmX6 1 rfl rfl (rfl) (rfl) (Nat.le_of_ble_eq_true rfl) [aB G yt 400 t1, oMo o th n a e dn i dp po kd wh re pl base sg xt row ror xi xd np nw nr nb 100 yt nrw nir yi yd inf9, aB G a 3000 B] rfl ?_
          refine s_aload_n X dX6_word_74 rfl 1 rfl ?_
          refine s_iload_n X dX6_word_75 rfl 0 rfl ?_
          refine s_i2l X dX6_word_76 (by omega) ?_
          refine s_put X dX6_word_77 fl_X6_77 tyX6_ok nmX6 1 rfl rfl (rfl) (rfl) (Nat.le_of_ble_eq_true rfl) [aB G yt 400 t1, oMo o th n a e dn i dp po kd wh re pl base sg xt row ror xi xd np c nr nb 100 yt nrw nir yi yd inf9, aB G a 3000 B] rfl ?_
          refine s_aload_n X dX6_word_80 rfl 1 rfl ?_
          refine s_get X dX6_word_81 fl_X6_102 1 rfl rfl ?_
          refine s_aload_n X dX6_word_84 rfl 1 rfl ?_
          refine s_get X dX6_word_85 fl_X6_40 1 rfl rfl ?_
          refine s_icmp_ne X 102 dX6_word_88 (by decide) (by omega) (fun c88 => ?_) (fun c88 => ?_)
          · refine s_iload_n X dX6_word_102 rfl 0 rfl ?_
            refine s_bipush 100 X dX6_word_103 (by decide) ?_
            refine s_icmp_le X 113 dX6_word_105 (by decide) (by omega) (fun c105 => ?_) (fun c105 => ?_)
            · refine s_iconst X dX6_word_113 ?_
              refine s_perm (ws' := [oMo o th n a e dn i dp po kd wh re pl base sg xt row ror xi xd np c nr nb 100 yt nrw nir yi yd inf9, aB G a 3000 B, aB G yt 400 t1]) [1, 2, 0] (by decide) rfl rfl ?_
              refine s_iret X Y dX6_word_114 (rfl) ?_
              refine ⟨c, 100, t1, ?_, ?_, ?_, ?_, ?_⟩
              · (first | (exfalso; omega) | (rw [← hq9]; unfold rtA; first | (rw [if_pos (by omega)]; done) | (rw [if_neg (by omega), if_pos (by omega)]; done) | (rw [if_neg (by omega), if_neg (by omega)]; done)))
              · (first | (exfalso; omega) | (rw [hq9]))
              · (first | (exfalso; omega) | (intro h; first | exact absurd h (by decide) | (have e9 : c = 100 := (by omega); exact ⟨by omega, by rw [← hq9, ← h1.2.2, e9]; exact TY_wd (c := 100) (by omega) h3 (fun j a1 a2 a3 => h4 j a1 (by omega) a3) (by omega)⟩)))
              · (first | (exfalso; omega) | (omega))
              · (first | (exfalso; omega) | (exact h3))
            · refine s_bipush (-2) X dX6_word_108 (by decide) ?_
              refine s_goto X 114 dX6_word_110 (by decide) ?_
              refine s_perm (ws' := [oMo o th n a e dn i dp po kd wh re pl base sg xt row ror xi xd np c nr nb 100 yt nrw nir yi yd inf9, aB G a 3000 B, aB G yt 400 t1]) [1, 2, 0] (by decide) rfl rfl ?_
              refine s_iret X Y dX6_word_114 (rfl) ?_
              refine ⟨c, 100, t1, ?_, ?_, ?_, ?_, ?_⟩
              · (first | (exfalso; omega) | (rw [← hq9]; unfold rtA; first | (rw [if_pos (by omega)]; done) | (rw [if_neg (by omega), if_pos (by omega)]; done) | (rw [if_neg (by omega), if_neg (by omega)]; done)))
              · (first | (exfalso; omega) | (rw [hq9]))
              · (first | (exfalso; omega) | (intro h; first | exact absurd h (by decide) | (have e9 : c = 100 := (by omega); exact ⟨by omega, by rw [← hq9, ← h1.2.2, e9]; exact TY_wd (c := 100) (by omega) h3 (fun j a1 a2 a3 => h4 j a1 (by omega) a3) (by omega)⟩)))
              · (first | (exfalso; omega) | (omega))
              · (first | (exfalso; omega) | (exact h3))
          · refine s_aload_n X dX6_word_91 rfl 1 rfl ?_
            refine s_get X dX6_word_92 fl_X6_53 1 rfl rfl ?_
            refine s_if_ne X 102 dX6_word_95 (by decide) (by omega) (fun c95 => ?_) (fun c95 => ?_)
            · refine s_iload_n X dX6_word_102 rfl 0 rfl ?_
              refine s_bipush 100 X dX6_word_103 (by decide) ?_
              refine s_icmp_le X 113 dX6_word_105 (by decide) (by omega) (fun c105 => ?_) (fun c105 => ?_)
              · refine s_iconst X dX6_word_113 ?_
                refine s_perm (ws' := [oMo o th n a e dn i dp po kd wh re pl base sg xt row ror xi xd np c nr nb 100 yt nrw nir yi yd inf9, aB G a 3000 B, aB G yt 400 t1]) [1, 2, 0] (by decide) rfl rfl ?_
                refine s_iret X Y dX6_word_114 (rfl) ?_
                refine ⟨c, 100, t1, ?_, ?_, ?_, ?_, ?_⟩
                · (first | (exfalso; omega) | (rw [← hq9]; unfold rtA; first | (rw [if_pos (by omega)]; done) | (rw [if_neg (by omega), if_pos (by omega)]; done) | (rw [if_neg (by omega), if_neg (by omega)]; done)))
                · (first | (exfalso; omega) | (rw [hq9]))
                · (first | (exfalso; omega) | (intro h; first | exact absurd h (by decide) | (have e9 : c = 100 := (by omega); exact ⟨by omega, by rw [← hq9, ← h1.2.2, e9]; exact TY_wd (c := 100) (by omega) h3 (fun j a1 a2 a3 => h4 j a1 (by omega) a3) (by omega)⟩)))
                · (first | (exfalso; omega) | (omega))
                · (first | (exfalso; omega) | (exact h3))
              · refine s_bipush (-2) X dX6_word_108 (by decide) ?_
                refine s_goto X 114 dX6_word_110 (by decide) ?_
                refine s_perm (ws' := [oMo o th n a e dn i dp po kd wh re pl base sg xt row ror xi xd np c nr nb 100 yt nrw nir yi yd inf9, aB G a 3000 B, aB G yt 400 t1]) [1, 2, 0] (by decide) rfl rfl ?_
                refine s_iret X Y dX6_word_114 (rfl) ?_
                refine ⟨c, 100, t1, ?_, ?_, ?_, ?_, ?_⟩
                · (first | (exfalso; omega) | (rw [← hq9]; unfold rtA; first | (rw [if_pos (by omega)]; done) | (rw [if_neg (by omega), if_pos (by omega)]; done) | (rw [if_neg (by omega), if_neg (by omega)]; done)))
                · (first | (exfalso; omega) | (rw [hq9]))
                · (first | (exfalso; omega) | (intro h; first | exact absurd h (by decide) | (have e9 : c = 100 := (by omega); exact ⟨by omega, by rw [← hq9, ← h1.2.2, e9]; exact TY_wd (c := 100) (by omega) h3 (fun j a1 a2 a3 => h4 j a1 (by omega) a3) (by omega)⟩)))
                · (first | (exfalso; omega) | (omega))
                · (first | (exfalso; omega) | (exact h3))
            · refine s_iconst X dX6_word_98 ?_
              refine s_goto X 114 dX6_word_99 (by decide) ?_
              refine s_perm (ws' := [oMo o th n a e dn i dp po kd wh re pl base sg xt row ror xi xd np c nr nb 100 yt nrw nir yi yd inf9, aB G a 3000 B, aB G yt 400 t1]) [1, 2, 0] (by decide) rfl rfl ?_
              refine s_iret X Y dX6_word_114 (rfl) ?_
              refine ⟨c, 100, t1, ?_, ?_, ?_, ?_, ?_⟩
              · (first | (exfalso; omega) | (rw [← hq9]; unfold rtA; first | (rw [if_pos (by omega)]; done) | (rw [if_neg (by omega), if_pos (by omega)]; done) | (rw [if_neg (by omega), if_neg (by omega)]; done)))
              · (first | (exfalso; omega) | (rw [hq9]))
              · (first | (exfalso; omega) | (intro h; first | exact absurd h (by decide) | (have e9 : c = 100 := (by omega); exact ⟨by omega, by rw [← hq9, ← h1.2.2, e9]; exact TY_wd (c := 100) (by omega) h3 (fun j a1 a2 a3 => h4 j a1 (by omega) a3) (by omega)⟩)))
              · (first | (exfalso; omega) | (omega))
              · (first | (exfalso; omega) | (exact h3))
        · refine s_iload_n X dX6_word_65 rfl 0 rfl ?_
          refine s_goto X 71 dX6_word_66 (by decide) ?_
          refine s_put X dX6_word_71 fl_X6_99 tyX6_ok nmX6 1 rfl rfl (rfl) (rfl) (Nat.le_of_ble_eq_true rfl) [aB G yt 400 t1, oMo o th n a e dn i dp po kd wh re pl base sg xt row ror xi xd np nw nr nb c yt nrw nir yi yd inf9, aB G a 3000 B] rfl ?_
          refine s_aload_n X dX6_word_74 rfl 1 rfl ?_
          refine s_iload_n X dX6_word_75 rfl 0 rfl ?_
          refine s_i2l X dX6_word_76 (by omega) ?_
          refine s_put X dX6_word_77 fl_X6_77 tyX6_ok nmX6 1 rfl rfl (rfl) (rfl) (Nat.le_of_ble_eq_true rfl) [aB G yt 400 t1, oMo o th n a e dn i dp po kd wh re pl base sg xt row ror xi xd np c nr nb c yt nrw nir yi yd inf9, aB G a 3000 B] rfl ?_
          refine s_aload_n X dX6_word_80 rfl 1 rfl ?_
          refine s_get X dX6_word_81 fl_X6_102 1 rfl rfl ?_
          refine s_aload_n X dX6_word_84 rfl 1 rfl ?_
          refine s_get X dX6_word_85 fl_X6_40 1 rfl rfl ?_
          refine s_icmp_ne X 102 dX6_word_88 (by decide) (by omega) (fun c88 => ?_) (fun c88 => ?_)
          · refine s_iload_n X dX6_word_102 rfl 0 rfl ?_
            refine s_bipush 100 X dX6_word_103 (by decide) ?_
            refine s_icmp_le X 113 dX6_word_105 (by decide) (by omega) (fun c105 => ?_) (fun c105 => ?_)
            · refine s_iconst X dX6_word_113 ?_
              refine s_perm (ws' := [oMo o th n a e dn i dp po kd wh re pl base sg xt row ror xi xd np c nr nb c yt nrw nir yi yd inf9, aB G a 3000 B, aB G yt 400 t1]) [1, 2, 0] (by decide) rfl rfl ?_
              refine s_iret X Y dX6_word_114 (rfl) ?_
              refine ⟨c, c, t1, ?_, ?_, ?_, ?_, ?_⟩
              · (first | (exfalso; omega) | (rw [← hq9]; unfold rtA; first | (rw [if_pos (by omega)]; done) | (rw [if_neg (by omega), if_pos (by omega)]; done) | (rw [if_neg (by omega), if_neg (by omega)]; done)))
              · (first | (exfalso; omega) | (rw [hq9]))
              · (first | (exfalso; omega) | (intro h; first | exact absurd h (by decide) | exact ⟨by omega, by rw [← hq9, ← h1.2.2]; exact TY_wd (by omega) h3 h4 (by omega)⟩))
              · (first | (exfalso; omega) | (omega))
              · (first | (exfalso; omega) | (exact h3))
            · refine s_bipush (-2) X dX6_word_108 (by decide) ?_
              refine s_goto X 114 dX6_word_110 (by decide) ?_
              refine s_perm (ws' := [oMo o th n a e dn i dp po kd wh re pl base sg xt row ror xi xd np c nr nb c yt nrw nir yi yd inf9, aB G a 3000 B, aB G yt 400 t1]) [1, 2, 0] (by decide) rfl rfl ?_
              refine s_iret X Y dX6_word_114 (rfl) ?_
              refine ⟨c, c, t1, ?_, ?_, ?_, ?_, ?_⟩
              · (first | (exfalso; omega) | (rw [← hq9]; unfold rtA; first | (rw [if_pos (by omega)]; done) | (rw [if_neg (by omega), if_pos (by omega)]; done) | (rw [if_neg (by omega), if_neg (by omega)]; done)))
              · (first | (exfalso; omega) | (rw [hq9]))
              · (first | (exfalso; omega) | (intro h; first | exact absurd h (by decide) | exact ⟨by omega, by rw [← hq9, ← h1.2.2]; exact TY_wd (by omega) h3 h4 (by omega)⟩))
              · (first | (exfalso; omega) | (omega))
              · (first | (exfalso; omega) | (exact h3))
          · refine s_aload_n X dX6_word_91 rfl 1 rfl ?_
            refine s_get X dX6_word_92 fl_X6_53 1 rfl rfl ?_
            refine s_if_ne X 102 dX6_word_95 (by decide) (by omega) (fun c95 => ?_) (fun c95 => ?_)
            · refine s_iload_n X dX6_word_102 rfl 0 rfl ?_
              refine s_bipush 100 X dX6_word_103 (by decide) ?_
              refine s_icmp_le X 113 dX6_word_105 (by decide) (by omega) (fun c105 => ?_) (fun c105 => ?_)
              · refine s_iconst X dX6_word_113 ?_
                refine s_perm (ws' := [oMo o th n a e dn i dp po kd wh re pl base sg xt row ror xi xd np c nr nb c yt nrw nir yi yd inf9, aB G a 3000 B, aB G yt 400 t1]) [1, 2, 0] (by decide) rfl rfl ?_
                refine s_iret X Y dX6_word_114 (rfl) ?_
                refine ⟨c, c, t1, ?_, ?_, ?_, ?_, ?_⟩
                · (first | (exfalso; omega) | (rw [← hq9]; unfold rtA; first | (rw [if_pos (by omega)]; done) | (rw [if_neg (by omega), if_pos (by omega)]; done) | (rw [if_neg (by omega), if_neg (by omega)]; done)))
                · (first | (exfalso; omega) | (rw [hq9]))
                · (first | (exfalso; omega) | (intro h; first | exact absurd h (by decide) | exact ⟨by omega, by rw [← hq9, ← h1.2.2]; exact TY_wd (by omega) h3 h4 (by omega)⟩))
                · (first | (exfalso; omega) | (omega))
                · (first | (exfalso; omega) | (exact h3))
              · refine s_bipush (-2) X dX6_word_108 (by decide) ?_
                refine s_goto X 114 dX6_word_110 (by decide) ?_
                refine s_perm (ws' := [oMo o th n a e dn i dp po kd wh re pl base sg xt row ror xi xd np c nr nb c yt nrw nir yi yd inf9, aB G a 3000 B, aB G yt 400 t1]) [1, 2, 0] (by decide) rfl rfl ?_
                refine s_iret X Y dX6_word_114 (rfl) ?_
                refine ⟨c, c, t1, ?_, ?_, ?_, ?_, ?_⟩
                · (first | (exfalso; omega) | (rw [← hq9]; unfold rtA; first | (rw [if_pos (by omega)]; done) | (rw [if_neg (by omega), if_pos (by omega)]; done) | (rw [if_neg (by omega), if_neg (by omega)]; done)))
                · (first | (exfalso; omega) | (rw [hq9]))
                · (first | (exfalso; omega) | (intro h; first | exact absurd h (by decide) | exact ⟨by omega, by rw [← hq9, ← h1.2.2]; exact TY_wd (by omega) h3 h4 (by omega)⟩))
                · (first | (exfalso; omega) | (omega))
                · (first | (exfalso; omega) | (exact h3))
            · refine s_iconst X dX6_word_98 ?_
              refine s_goto X 114 dX6_word_99 (by decide) ?_
              refine s_perm (ws' := [oMo o th n a e dn i dp po kd wh re pl base sg xt row ror xi xd np c nr nb c yt nrw nir yi yd inf9, aB G a 3000 B, aB G yt 400 t1]) [1, 2, 0] (by decide) rfl rfl ?_
              refine s_iret X Y dX6_word_114 (rfl) ?_
              refine ⟨c, c, t1, ?_, ?_, ?_, ?_, ?_⟩
              · (first | (exfalso; omega) | (rw [← hq9]; unfold rtA; first | (rw [if_pos (by omega)]; done) | (rw [if_neg (by omega), if_pos (by omega)]; done) | (rw [if_neg (by omega), if_neg (by omega)]; done)))
              · (first | (exfalso; omega) | (rw [hq9]))
              · (first | (exfalso; omega) | (intro h; first | exact absurd h (by decide) | exact ⟨by omega, by rw [← hq9, ← h1.2.2]; exact TY_wd (by omega) h3 h4 (by omega)⟩))
              · (first | (exfalso; omega) | (omega))
              · (first | (exfalso; omega) | (exact h3))
      · have hw9 := we_go c18
        clear c18
        refine s_iload_n X dX6_word_21 rfl 0 rfl ?_
        refine s_bipush 100 X dX6_word_22 (by decide) ?_
        refine s_icmp_ge X 42 dX6_word_24 (by decide) (by omega) (fun c24 => ?_) (fun c24 => ?_)
        · refine s_iinc (z := c + 1) X dX6_word_42 0 rfl (by first | rfl | omega) [(1, .int (iI (c + 1))), (0, .ref o)] (by decide) rfl ?_
          refine s_aload_n X dX6_word_45 rfl 1 rfl ?_
          refine s_dup X dX6_word_46 rfl ?_
          refine s_get X dX6_word_47 fl_X6_102 1 rfl rfl ?_
          refine s_iconst X dX6_word_50 ?_
          refine s_iadd X dX6_word_51 ?_
          refine s_put X dX6_word_52 fl_X6_102 tyX6_ok nmX6 1 rfl rfl (rfl) (rfl) (Nat.le_of_ble_eq_true rfl) [aB G yt 400 t1, oMo o th n a e dn (i + 1) dp po kd wh re pl base sg xt row ror xi xd np nw nr nb 0 yt nrw nir yi yd inf9, aB G a 3000 B] rfl ?_
          refine s_goto X 7 dX6_word_55 (by decide) ?_
          refine s_perm (ws' := [oMo o th n a e dn (i + 1) dp po kd wh re pl base sg xt row ror xi xd np nw nr nb 0 yt nrw nir yi yd inf9, aB G a 3000 B, aB G yt 400 t1]) [1, 2, 0] (by decide) rfl rfl ?_
          exact ih9 (i + 1) (c + 1) t1 (by omega) (by rw [← h2, hw9.2]) (by first | exact h3 | exact uB_lt h3 hBb) (by first | exact wr_step (by omega) h4 | (intro j a1 a2 a3; exact h4 j a1 (by omega) a3)) (by omega)
        · refine s_aload_n X dX6_word_27 rfl 1 rfl ?_
          refine s_get X dX6_word_28 fl_X6_31 1 rfl rfl ?_
          refine s_iload_n X dX6_word_31 rfl 0 rfl ?_
          refine s_aload_n X dX6_word_32 rfl 1 rfl ?_
          refine s_get X dX6_word_33 fl_X6_7 1 rfl rfl ?_
          refine s_aload_n X dX6_word_36 rfl 1 rfl ?_
          refine s_get X dX6_word_37 fl_X6_102 1 rfl rfl ?_
          refine s_bald X dX6_word_40 2 rfl (by omega) ?_
          refine s_bast X dX6_word_41 0 rfl (by omega) [aB G yt 400 (uB t1 c.toNat (B i.toNat)), oMo o th n a e dn i dp po kd wh re pl base sg xt row ror xi xd np nw nr nb 0 yt nrw nir yi yd inf9, aB G a 3000 B] rfl ?_
          refine s_iinc (z := c + 1) X dX6_word_42 0 rfl (by first | rfl | omega) [(1, .int (iI (c + 1))), (0, .ref o)] (by decide) rfl ?_
          refine s_aload_n X dX6_word_45 rfl 1 rfl ?_
          refine s_dup X dX6_word_46 rfl ?_
          refine s_get X dX6_word_47 fl_X6_102 1 rfl rfl ?_
          refine s_iconst X dX6_word_50 ?_
          refine s_iadd X dX6_word_51 ?_
          refine s_put X dX6_word_52 fl_X6_102 tyX6_ok nmX6 1 rfl rfl (rfl) (rfl) (Nat.le_of_ble_eq_true rfl) [aB G yt 400 (uB t1 c.toNat (B i.toNat)), oMo o th n a e dn (i + 1) dp po kd wh re pl base sg xt row ror xi xd np nw nr nb 0 yt nrw nir yi yd inf9, aB G a 3000 B] rfl ?_
          refine s_goto X 7 dX6_word_55 (by decide) ?_
          refine s_perm (ws' := [oMo o th n a e dn (i + 1) dp po kd wh re pl base sg xt row ror xi xd np nw nr nb 0 yt nrw nir yi yd inf9, aB G a 3000 B, aB G yt 400 (uB t1 c.toNat (B i.toNat))]) [1, 2, 0] (by decide) rfl rfl ?_
          exact ih9 (i + 1) (c + 1) (uB t1 c.toNat (B i.toNat)) (by omega) (by rw [← h2, hw9.2]) (by first | exact h3 | exact uB_lt h3 hBb) (by first | exact wr_step (by omega) h4 | (intro j a1 a2 a3; exact h4 j a1 (by omega) a3)) (by omega)
  exact lp _ at9 0 t (by omega) (rfl) (htb) (fun j a1 a2 => by omega) (Nat.lt_succ_self _)
set_option maxRecDepth 100000 in
set_option maxHeartbeats 4000000 in
theorem c_X6_anyWord (l : Launch) (G : GX) (o : Nat) (a : Nat) (po : Nat) (xt : Nat) (xi : Nat) (xd : Nat) (yt : Nat) (yi : Nat) (yd : Nat) (th : Int) (n : Int) (e : Int) (dn : Int) (at9 : Int) (dp : Int) (kd : Int) (wh : Int) (pl : Int) (base : Int) (sg : Int) (row : Int) (ror : Int) (np : Int) (nw : Int) (nb : Int) (ns : Int) (nrw : Int) (nir : Int) (inf9 : Int) (re : UInt64) (nr : UInt64) (B : Nat → Nat) (t : Nat → Nat) (hn : 0 ≤ n ∧ n ≤ 3000) (hBb : ∀ j, B j < 256) (he : e = 0 ∨ e = 1) (hap : 0 ≤ at9 ∧ at9 < n) (hpw : isP (bA B n at9)) (htb : ∀ j, t j < 256) : CtI l G yX6_anyWord cX6_anyWord 5 (some .int) ({ frames := 3, cells := 0, slots := 0, locals := 76 } : Room) [.ref o] [oMo o th n a e dn at9 dp po kd wh re pl base sg xt row ror xi xd np nw nr nb ns yt nrw nir yi yd inf9, aB G a 3000 B, aB G yt 400 t] (fun (z9 : Int) (w9 : va_W) => ∃ (nw2 : Int), ∃ (nb2 : Int), ∃ (ns2 : Int), ∃ (nr2 : UInt64), ∃ (t2 : Nat → Nat), z9 = (wdA B n e at9) ∧ w9 = [oMo o th n a e dn (we B n at9) dp po kd wh re pl base sg xt row ror xi xd np nw2 nr2 nb2 ns2 yt nrw nir yi yd inf9, aB G a 3000 B, aB G yt 400 t2] ∧ (z9 = 1 → nw2 = wV (wd B at9 (we B n at9)) ((we B n at9) - at9) ∧ nb2 = wBs (wd B at9 (we B n at9)) ((we B n at9) - at9)) ∧ (z9 = 2 → nr2 = rrV (wd B at9 (we B n at9)) ((we B n at9) - at9)) ∧ (z9 = 3 → nw2 = ((we B n at9) - at9) ∧ TY t2 ns2 (wL B at9 ((we B n at9) - at9).toNat)) ∧ (0 ≤ ns2 ∧ ns2 ≤ 100) ∧ (∀ j, t2 j < 256)) := by
  intro sz
  refine met_of (fun wc sz => va_Qi (qI _) (posW G wc sz) (va_A wc sz)) (by decide) [(0, .ref o)] rfl (Nat.le_of_ble_eq_true rfl) (fun K hK9 hnm X Y => ?_)
  subst hK9
  replace Y : RI K G (some .int) 0 0 _ := Y
  have hwR : at9 + 1 ≤ (we B n at9) ∧ (we B n at9) ≤ n := by rw [(we_go hpw).2]; exact we_R _ _ rfl (by omega)
  have h35 := we_35 (B := B) (n := n) (i := at9) (by omega)
  clear hpw
  refine s_aload_n X dX6_anyWord_0 rfl 0 rfl ?_
  refine s_get X dX6_anyWord_1 fl_X6_102 0 rfl rfl ?_
  refine s_istore_n X dX6_anyWord_4 rfl [(1, .int (iI at9)), (0, .ref o)] (by decide) rfl ?_
  refine s_aload_n X dX6_anyWord_5 rfl 1 rfl ?_
  refine s_callIV X lk_X6_108 [0, 1, 2] [] (wr := []) rfl rfl (by decide) (by decide) (by decide) (c_X6_word (kl K) G o a po xt xi xd yt yi yd th n e dn at9 dp kd wh pl base sg row ror np nw nb ns nrw nir inf9 re nr B t (by assumption) (by assumption) (by omega) (by omega) (by assumption)) rfl rfl dX6_anyWord_6 rfl rfl (Nat.le_of_ble_eq_true rfl) (by decide) (fun z1 w1 h1 => ?_)
  obtain ⟨nw21, ns21, t21, rfl, rfl, f1_0, f1_1, f1_2⟩ := h1
  show SW K G 5 0 0 9 [(1, .int (iI at9)), (0, .ref o)] [.int (iI (rtA (we B n at9) n e at9 1))] [oMo o th n a e dn (we B n at9) dp po kd wh re pl base sg xt row ror xi xd np nw21 nr nb ns21 yt nrw nir yi yd inf9, aB G a 3000 B, aB G yt 400 t21]
  have g0 := f1_0
  have g1 := f1_1
  have g2 := f1_2
  refine s_istore_n X dX6_anyWord_9 rfl [(2, .int (iI (rtA (we B n at9) n e at9 1))), (1, .int (iI at9)), (0, .ref o)] (by decide) rfl ?_
  refine s_iload_n X dX6_anyWord_10 rfl 0 rfl ?_
  refine s_iconst X dX6_anyWord_11 ?_
  refine s_icmp_eq X 17 dX6_anyWord_12 (by decide) (by (have hC1 := rtA_C (we B n at9) n e at9 1; omega)) (fun c12 => ?_) (fun c12 => ?_)
  · refine s_aload_n X dX6_anyWord_17 rfl 2 rfl ?_
    refine s_get X dX6_anyWord_18 fl_X6_99 0 rfl rfl ?_
    refine s_istore_n X dX6_anyWord_21 rfl [(3, .int (iI ns21)), (2, .int (iI (rtA (we B n at9) n e at9 1))), (1, .int (iI at9)), (0, .ref o)] (by decide) rfl ?_
    have hA := rtA_wA c12
    refine s_aload_n X dX6_anyWord_22 rfl 3 rfl ?_
    refine s_iload_n X dX6_anyWord_23 rfl 2 rfl ?_
    refine s_aload_n X dX6_anyWord_24 rfl 3 rfl ?_
    refine s_get X dX6_anyWord_25 fl_X6_102 0 rfl rfl ?_
    refine s_callIV X lk_X6_112 [0, 1] [2] (wr := [aB G yt 400 t21]) rfl rfl (by decide) (by decide) (by decide) (c_X6_isInteger (kl K) G o a po xt xi xd yt yi yd th n e dn (we B n at9) dp kd wh pl base sg row ror np nw21 nb ns21 nrw nir inf9 re nr B at9 (we B n at9) (by assumption) (by assumption) (by omega)) rfl rfl dX6_anyWord_28 rfl rfl (Nat.le_of_ble_eq_true rfl) (by decide) (fun z2 w2 h2 => ?_)
    obtain ⟨nw22, nb22, rfl, rfl, f2_0⟩ := h2
    show SW K G 5 0 0 31 [(3, .int (iI ns21)), (2, .int (iI (rtA (we B n at9) n e at9 1))), (1, .int (iI at9)), (0, .ref o)] [.int (iI (tf (riC (wd B at9 (we B n at9)) ((we B n at9) - at9))))] [aB G yt 400 t21, oMo o th n a e dn (we B n at9) dp po kd wh re pl base sg xt row ror xi xd np nw22 nr nb22 ns21 yt nrw nir yi yd inf9, aB G a 3000 B]
    have gi := f2_0
    refine s_tf_eq X 36 dX6_anyWord_31 (by decide) (fun c31 => ?_) (fun c31 => ?_)
    · refine s_aload_n X dX6_anyWord_36 rfl 3 rfl ?_
      refine s_iload_n X dX6_anyWord_37 rfl 2 rfl ?_
      refine s_aload_n X dX6_anyWord_38 rfl 3 rfl ?_
      refine s_get X dX6_anyWord_39 fl_X6_102 1 rfl rfl ?_
      refine s_callIV X lk_X6_116 [1, 2] [0] (wr := [aB G yt 400 t21]) rfl rfl (by decide) (by decide) (by decide) (c_X6_withBase (kl K) G o a po xt xi xd yt yi yd th n e dn (we B n at9) dp kd wh pl base sg row ror np nw22 nb22 ns21 nrw nir inf9 re nr B at9 (we B n at9) (by assumption) (by assumption) (by omega) (h35)) rfl rfl dX6_anyWord_42 rfl rfl (Nat.le_of_ble_eq_true rfl) (by decide) (fun z3 w3 h3 => ?_)
      obtain ⟨nw23, nb23, rfl, rfl, f3_0⟩ := h3
      show SW K G 5 0 0 45 [(3, .int (iI ns21)), (2, .int (iI (rtA (we B n at9) n e at9 1))), (1, .int (iI at9)), (0, .ref o)] [.int (iI (if rbA (wd B at9 (we B n at9)) ((we B n at9) - at9) = 3 then 0 else rbA (wd B at9 (we B n at9)) ((we B n at9) - at9)))] [aB G yt 400 t21, oMo o th n a e dn (we B n at9) dp po kd wh re pl base sg xt row ror xi xd np nw23 nr nb23 ns21 yt nrw nir yi yd inf9, aB G a 3000 B]
      have gb := f3_0
      refine s_istore X dX6_anyWord_45 [(4, .int (iI (if rbA (wd B at9 (we B n at9)) ((we B n at9) - at9) = 3 then 0 else rbA (wd B at9 (we B n at9)) ((we B n at9) - at9)))), (3, .int (iI ns21)), (2, .int (iI (rtA (we B n at9) n e at9 1))), (1, .int (iI at9)), (0, .ref o)] (by decide) rfl ?_
      refine s_iload X dX6_anyWord_47 0 rfl ?_
      refine s_if_eq X 55 dX6_anyWord_49 (by decide) (by (have hC2 := rbA_c (wd B at9 (we B n at9)) ((we B n at9) - at9); clear c31; split <;> omega)) (fun c49 => ?_) (fun c49 => ?_)
      · refine s_aload_n X dX6_anyWord_55 rfl 4 rfl ?_
        refine s_iload_n X dX6_anyWord_56 rfl 3 rfl ?_
        refine s_aload_n X dX6_anyWord_57 rfl 4 rfl ?_
        refine s_get X dX6_anyWord_58 fl_X6_102 1 rfl rfl ?_
        refine s_callIV X lk_X6_119 [1, 2] [0] (wr := [aB G yt 400 t21]) rfl rfl (by decide) (by decide) (by decide) (c_X6_asReal (kl K) G o a po xt xi xd yt yi yd th n e dn (we B n at9) dp kd wh pl base sg row ror np nw23 nb23 ns21 nrw nir inf9 re nr B at9 (we B n at9) (by assumption) (by assumption) (by omega)) rfl rfl dX6_anyWord_61 rfl rfl (Nat.le_of_ble_eq_true rfl) (by decide) (fun z4 w4 h4 => ?_)
        obtain ⟨nr24, rfl, rfl, f4_0⟩ := h4
        show SW K G 5 0 0 64 [(4, .int (iI (if rbA (wd B at9 (we B n at9)) ((we B n at9) - at9) = 3 then 0 else rbA (wd B at9 (we B n at9)) ((we B n at9) - at9)))), (3, .int (iI ns21)), (2, .int (iI (rtA (we B n at9) n e at9 1))), (1, .int (iI at9)), (0, .ref o)] [.int (iI (if rrA (wd B at9 (we B n at9)) ((we B n at9) - at9) = 3 then 0 else rrA (wd B at9 (we B n at9)) ((we B n at9) - at9)))] [aB G yt 400 t21, oMo o th n a e dn (we B n at9) dp po kd wh re pl base sg xt row ror xi xd np nw23 nr24 nb23 ns21 yt nrw nir yi yd inf9, aB G a 3000 B]
        have gr := f4_0
        refine s_istore X dX6_anyWord_64 [(4, .int (iI (if rrA (wd B at9 (we B n at9)) ((we B n at9) - at9) = 3 then 0 else rrA (wd B at9 (we B n at9)) ((we B n at9) - at9)))), (3, .int (iI ns21)), (2, .int (iI (rtA (we B n at9) n e at9 1))), (1, .int (iI at9)), (0, .ref o)] (by decide) rfl ?_
        refine s_iload X dX6_anyWord_66 0 rfl ?_
        refine s_if_eq X 74 dX6_anyWord_68 (by decide) (by (have hC3 := rrA_c (wd B at9 (we B n at9)) ((we B n at9) - at9); clear c31 c49; split <;> omega)) (fun c68 => ?_) (fun c68 => ?_)
        · refine s_aload_n X dX6_anyWord_74 rfl 4 rfl ?_
          refine s_iload_n X dX6_anyWord_75 rfl 1 rfl ?_
          refine s_i2l X dX6_anyWord_76 (by omega) ?_
          refine s_put X dX6_anyWord_77 fl_X6_77 tyX6_ok nmX6 1 rfl rfl (rfl) (rfl) (Nat.le_of_ble_eq_true rfl) [aB G yt 400 t21, oMo o th n a e dn (we B n at9) dp po kd wh re pl base sg xt row ror xi xd np ns21 nr24 nb23 ns21 yt nrw nir yi yd inf9, aB G a 3000 B] rfl ?_
          refine s_iconst X dX6_anyWord_80 ?_
          refine s_perm (ws' := [oMo o th n a e dn (we B n at9) dp po kd wh re pl base sg xt row ror xi xd np ns21 nr24 nb23 ns21 yt nrw nir yi yd inf9, aB G a 3000 B, aB G yt 400 t21]) [1, 2, 0] (by decide) rfl rfl ?_
          refine s_iret X Y dX6_anyWord_81 (rfl) ?_
          refine ⟨ns21, nb23, ns21, nr24, t21, ?_, rfl, ?_, ?_, ?_, ?_, ?_⟩
          · (first | (exfalso; omega) | (have hr3 : rrA (wd B at9 (we B n at9)) ((we B n at9) - at9) = 3 := (by have hC3 := rrA_c (wd B at9 (we B n at9)) ((we B n at9) - at9); clear c31; split at c68 <;> omega); have hb3 : rbA (wd B at9 (we B n at9)) ((we B n at9) - at9) = 3 := (by have hC2 := rbA_c (wd B at9 (we B n at9)) ((we B n at9) - at9); clear c31; split at c49 <;> omega); rw [hA, wA, if_neg c31, if_pos hb3, hr3]))
          · (first | (exfalso; omega) | (intro h; exact absurd h (by decide)))
          · (first | (exfalso; omega) | (intro h; exact absurd h (by decide)))
          · (first | (exfalso; omega) | (intro _; have hh := g0 c12; exact ⟨by have h9 := hh.2.1; rw [wL_len] at h9; omega, hh.2⟩))
          · (first | (exfalso; omega) | (exact g1))
          · (first | (exfalso; omega) | (exact g2))
        · refine s_iload X dX6_anyWord_71 0 rfl ?_
          refine s_perm (ws' := [oMo o th n a e dn (we B n at9) dp po kd wh re pl base sg xt row ror xi xd np nw23 nr24 nb23 ns21 yt nrw nir yi yd inf9, aB G a 3000 B, aB G yt 400 t21]) [1, 2, 0] (by decide) rfl rfl ?_
          refine s_iret X Y dX6_anyWord_73 (rfl) ?_
          refine ⟨nw23, nb23, ns21, nr24, t21, ?_, rfl, ?_, ?_, ?_, ?_, ?_⟩
          · (first | (exfalso; omega) | (have hr3 : ¬ rrA (wd B at9 (we B n at9)) ((we B n at9) - at9) = 3 := fun h9 => c68 (if_pos h9); have hb3 : rbA (wd B at9 (we B n at9)) ((we B n at9) - at9) = 3 := (by have hC2 := rbA_c (wd B at9 (we B n at9)) ((we B n at9) - at9); clear c31; split at c49 <;> omega); rw [hA, wA, if_neg c31, if_pos hb3, if_neg hr3]))
          · (first | (exfalso; omega) | (have hr3 : ¬ rrA (wd B at9 (we B n at9)) ((we B n at9) - at9) = 3 := fun h9 => c68 (if_pos h9); intro h; rw [if_neg hr3] at h; have hC3 := rrA_c (wd B at9 (we B n at9)) ((we B n at9) - at9); clear c31 c49 c68; exfalso; omega))
          · (first | (exfalso; omega) | (intro h; exact gr h))
          · (first | (exfalso; omega) | (have hr3 : ¬ rrA (wd B at9 (we B n at9)) ((we B n at9) - at9) = 3 := fun h9 => c68 (if_pos h9); intro h; rw [if_neg hr3] at h; have hC3 := rrA_c (wd B at9 (we B n at9)) ((we B n at9) - at9); clear c31 c49 c68; exfalso; omega))
          · (first | (exfalso; omega) | (exact g1))
          · (first | (exfalso; omega) | (exact g2))
      · refine s_iload X dX6_anyWord_52 0 rfl ?_
        refine s_perm (ws' := [oMo o th n a e dn (we B n at9) dp po kd wh re pl base sg xt row ror xi xd np nw23 nr nb23 ns21 yt nrw nir yi yd inf9, aB G a 3000 B, aB G yt 400 t21]) [1, 2, 0] (by decide) rfl rfl ?_
        refine s_iret X Y dX6_anyWord_54 (rfl) ?_
        refine ⟨nw23, nb23, ns21, nr, t21, ?_, rfl, ?_, ?_, ?_, ?_, ?_⟩
        · (first | (exfalso; omega) | (have hb3 : ¬ rbA (wd B at9 (we B n at9)) ((we B n at9) - at9) = 3 := fun h9 => c49 (if_pos h9); rw [hA, wA, if_neg c31, if_neg hb3, if_neg hb3]))
        · (first | (exfalso; omega) | (intro h; exact ⟨by rw [(gb h).1, wV, if_neg c31], by rw [(gb h).2, wBs, if_neg c31]⟩))
        · (first | (exfalso; omega) | (have hb3 : ¬ rbA (wd B at9 (we B n at9)) ((we B n at9) - at9) = 3 := fun h9 => c49 (if_pos h9); intro h; rw [if_neg hb3] at h; have hC2 := rbA_c (wd B at9 (we B n at9)) ((we B n at9) - at9); clear c31 c49; exfalso; omega))
        · (first | (exfalso; omega) | (have hb3 : ¬ rbA (wd B at9 (we B n at9)) ((we B n at9) - at9) = 3 := fun h9 => c49 (if_pos h9); intro h; rw [if_neg hb3] at h; have hC2 := rbA_c (wd B at9 (we B n at9)) ((we B n at9) - at9); clear c31 c49; exfalso; omega))
        · (first | (exfalso; omega) | (exact g1))
        · (first | (exfalso; omega) | (exact g2))
    · refine s_iconst X dX6_anyWord_34 ?_
      refine s_perm (ws' := [oMo o th n a e dn (we B n at9) dp po kd wh re pl base sg xt row ror xi xd np nw22 nr nb22 ns21 yt nrw nir yi yd inf9, aB G a 3000 B, aB G yt 400 t21]) [1, 2, 0] (by decide) rfl rfl ?_
      refine s_iret X Y dX6_anyWord_35 (rfl) ?_
      refine ⟨nw22, nb22, ns21, nr, t21, ?_, rfl, ?_, ?_, ?_, ?_, ?_⟩
      · (first | (exfalso; omega) | (rw [hA, wA, if_pos c31]))
      · (first | (exfalso; omega) | (intro _; exact ⟨by rw [(gi c31).1, wV, if_pos c31], by rw [(gi c31).2, wBs, if_pos c31]⟩))
      · (first | (exfalso; omega) | (intro h; exact absurd h (by decide)))
      · (first | (exfalso; omega) | (intro h; exact absurd h (by decide)))
      · (first | (exfalso; omega) | (exact g1))
      · (first | (exfalso; omega) | (exact g2))
  · refine s_iload_n X dX6_anyWord_15 rfl 0 rfl ?_
    refine s_iret X Y dX6_anyWord_16 (rfl) ?_
    refine ⟨nw21, nb, ns21, nr, t21, ?_, rfl, ?_, ?_, ?_, ?_, ?_⟩
    · (first | (exfalso; omega) | (exact rtA_wdA c12))
    · (first | (exfalso; omega) | (intro h; exact absurd h c12))
    · (first | (exfalso; omega) | (have hC1 := rtA_C (we B n at9) n e at9 1; intro h; exfalso; omega))
    · (first | (exfalso; omega) | (have hC1 := rtA_C (we B n at9) n e at9 1; intro h; exfalso; omega))
    · (first | (exfalso; omega) | (exact g1))
    · (first | (exfalso; omega) | (exact g2))
