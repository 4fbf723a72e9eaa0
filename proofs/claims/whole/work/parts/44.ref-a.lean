set_option maxRecDepth 100000 in
set_option maxHeartbeats 4000000 in
theorem c_X6_byteAt (l : Launch) (G : GX) (o : Nat) (a : Nat) (po : Nat) (xt : Nat) (xi : Nat) (xd : Nat) (yt : Nat) (yi : Nat) (yd : Nat) (th : Int) (n : Int) (e : Int) (dn : Int) (at9 : Int) (dp : Int) (kd : Int) (wh : Int) (pl : Int) (base : Int) (sg : Int) (row : Int) (ror : Int) (np : Int) (nw : Int) (nb : Int) (ns : Int) (nrw : Int) (nir : Int) (inf9 : Int) (re : UInt64) (nr : UInt64) (B : Nat → Nat) (i : Int) (hn : 0 ≤ n ∧ n ≤ 3000) (hBb : ∀ j, B j < 256) (hi : 0 ≤ i ∧ R32 i) : CtI l G yX6_byteAt cX6_byteAt 2 (some .int) ({ frames := 0, cells := 0, slots := 0, locals := 0 } : Room) [.ref o, .int (iI i)] [oMo o th n a e dn at9 dp po kd wh re pl base sg xt row ror xi xd np nw nr nb ns yt nrw nir yi yd inf9, aB G a 3000 B] (fun (z9 : Int) (w9 : va_W) => z9 = (bA B n i) ∧ w9 = [oMo o th n a e dn at9 dp po kd wh re pl base sg xt row ror xi xd np nw nr nb ns yt nrw nir yi yd inf9, aB G a 3000 B]) := by
  intro sz
  refine met_of (fun wc sz => va_Qi (qI _) (posW G wc sz) (va_A wc sz)) (by decide) [(0, .ref o), (1, .int (iI i))] rfl (Nat.le_of_ble_eq_true rfl) (fun K hK9 hnm X Y => ?_)
  subst hK9
  replace Y : RI K G (some .int) 0 0 _ := Y
  refine s_iload_n X dX6_byteAt_0 rfl 1 rfl ?_
  refine s_aload_n X dX6_byteAt_1 rfl 0 rfl ?_
  refine s_get X dX6_byteAt_2 fl_X6_40 0 rfl rfl ?_
  refine s_icmp_ge X 21 dX6_byteAt_5 (by decide) (by omega) (fun c5 => ?_) (fun c5 => ?_)
  · refine s_iconst X dX6_byteAt_21 ?_
    refine s_iret X Y dX6_byteAt_22 (rfl) ?_
    refine ⟨?_, rfl⟩
    · (first | (exfalso; omega) | (first | exact (bA_in (by omega)).symm | exact (bA_out (by omega)).symm))
  · refine s_aload_n X dX6_byteAt_8 rfl 0 rfl ?_
    refine s_get X dX6_byteAt_9 fl_X6_7 0 rfl rfl ?_
    refine s_iload_n X dX6_byteAt_12 rfl 1 rfl ?_
    refine s_bald X dX6_byteAt_13 1 rfl (by omega) ?_
    refine s_sipush 255 X dX6_byteAt_14 (by decide) ?_
    refine s_iand (z := (((B i.toNat) : Nat) : Int)) X dX6_byteAt_17 (sb_and9 (hBb _)) ?_
    refine s_goto X 22 dX6_byteAt_18 (by decide) ?_
    refine s_iret X Y dX6_byteAt_22 (rfl) ?_
    refine ⟨?_, rfl⟩
    · (first | (exfalso; omega) | (first | exact (bA_in (by omega)).symm | exact (bA_out (by omega)).symm))
set_option maxRecDepth 100000 in
set_option maxHeartbeats 4000000 in
theorem c_X6_isBlank (l : Launch) (G : GX) (c : Int) (hc : R32 c) : CtI l G yX6_isBlank cX6_isBlank 1 (some .boolean) ({ frames := 0, cells := 0, slots := 0, locals := 0 } : Room) [.int (iI c)] [] (fun (z9 : Int) (w9 : va_W) => z9 = (tf (isW c)) ∧ w9 = []) := by
  intro sz
  refine met_of (fun wc sz => va_Qi (qI _) (posW G wc sz) (va_A wc sz)) (by decide) [(0, .int (iI c))] rfl (Nat.le_of_ble_eq_true rfl) (fun K hK9 hnm X Y => ?_)
  subst hK9
  replace Y : RI K G (some .boolean) 0 0 _ := Y
  refine s_iload_n X dX6_isBlank_0 rfl 0 rfl ?_
  refine s_if_eq X 34 dX6_isBlank_1 (by decide) (by omega) (fun c1 => ?_) (fun c1 => ?_)
  · refine s_iconst X dX6_isBlank_34 ?_
    refine s_goto X 39 dX6_isBlank_35 (by decide) ?_
    refine s_iret X Y dX6_isBlank_39 (rfl) ?_
    refine ⟨?_, rfl⟩
    · (first | (exfalso; omega) | (first | exact (tf_t (by omega)).symm | exact (tf_f (by omega)).symm))
  · refine s_iload_n X dX6_isBlank_4 rfl 0 rfl ?_
    refine s_bipush 9 X dX6_isBlank_5 (by decide) ?_
    refine s_icmp_eq X 34 dX6_isBlank_7 (by decide) (by omega) (fun c7 => ?_) (fun c7 => ?_)
    · refine s_iconst X dX6_isBlank_34 ?_
      refine s_goto X 39 dX6_isBlank_35 (by decide) ?_
      refine s_iret X Y dX6_isBlank_39 (rfl) ?_
      refine ⟨?_, rfl⟩
      · (first | (exfalso; omega) | (first | exact (tf_t (by omega)).symm | exact (tf_f (by omega)).symm))
    · refine s_iload_n X dX6_isBlank_10 rfl 0 rfl ?_
      refine s_bipush 10 X dX6_isBlank_11 (by decide) ?_
      refine s_icmp_eq X 34 dX6_isBlank_13 (by decide) (by omega) (fun c13 => ?_) (fun c13 => ?_)
      · refine s_iconst X dX6_isBlank_34 ?_
        refine s_goto X 39 dX6_isBlank_35 (by decide) ?_
        refine s_iret X Y dX6_isBlank_39 (rfl) ?_
        refine ⟨?_, rfl⟩
        · (first | (exfalso; omega) | (first | exact (tf_t (by omega)).symm | exact (tf_f (by omega)).symm))
      · refine s_iload_n X dX6_isBlank_16 rfl 0 rfl ?_
        refine s_bipush 12 X dX6_isBlank_17 (by decide) ?_
        refine s_icmp_eq X 34 dX6_isBlank_19 (by decide) (by omega) (fun c19 => ?_) (fun c19 => ?_)
        · refine s_iconst X dX6_isBlank_34 ?_
          refine s_goto X 39 dX6_isBlank_35 (by decide) ?_
          refine s_iret X Y dX6_isBlank_39 (rfl) ?_
          refine ⟨?_, rfl⟩
          · (first | (exfalso; omega) | (first | exact (tf_t (by omega)).symm | exact (tf_f (by omega)).symm))
        · refine s_iload_n X dX6_isBlank_22 rfl 0 rfl ?_
          refine s_bipush 13 X dX6_isBlank_23 (by decide) ?_
          refine s_icmp_eq X 34 dX6_isBlank_25 (by decide) (by omega) (fun c25 => ?_) (fun c25 => ?_)
          · refine s_iconst X dX6_isBlank_34 ?_
            refine s_goto X 39 dX6_isBlank_35 (by decide) ?_
            refine s_iret X Y dX6_isBlank_39 (rfl) ?_
            refine ⟨?_, rfl⟩
            · (first | (exfalso; omega) | (first | exact (tf_t (by omega)).symm | exact (tf_f (by omega)).symm))
          · refine s_iload_n X dX6_isBlank_28 rfl 0 rfl ?_
            refine s_bipush 32 X dX6_isBlank_29 (by decide) ?_
            refine s_icmp_ne X 38 dX6_isBlank_31 (by decide) (by omega) (fun c31 => ?_) (fun c31 => ?_)
            · refine s_iconst X dX6_isBlank_38 ?_
              refine s_iret X Y dX6_isBlank_39 (rfl) ?_
              refine ⟨?_, rfl⟩
              · (first | (exfalso; omega) | (first | exact (tf_t (by omega)).symm | exact (tf_f (by omega)).symm))
            · refine s_iconst X dX6_isBlank_34 ?_
              refine s_goto X 39 dX6_isBlank_35 (by decide) ?_
              refine s_iret X Y dX6_isBlank_39 (rfl) ?_
              refine ⟨?_, rfl⟩
              · (first | (exfalso; omega) | (first | exact (tf_t (by omega)).symm | exact (tf_f (by omega)).symm))
set_option maxRecDepth 100000 in
set_option maxHeartbeats 4000000 in
theorem c_X6_isOwn (l : Launch) (G : GX) (c : Int) (hc : R32 c) : CtI l G yX6_isOwn cX6_isOwn 1 (some .boolean) ({ frames := 0, cells := 0, slots := 0, locals := 0 } : Room) [.int (iI c)] [] (fun (z9 : Int) (w9 : va_W) => z9 = (tf (isO c)) ∧ w9 = []) := by
  intro sz
  refine met_of (fun wc sz => va_Qi (qI _) (posW G wc sz) (va_A wc sz)) (by decide) [(0, .int (iI c))] rfl (Nat.le_of_ble_eq_true rfl) (fun K hK9 hnm X Y => ?_)
  subst hK9
  replace Y : RI K G (some .boolean) 0 0 _ := Y
  refine s_iload_n X dX6_isOwn_0 rfl 0 rfl ?_
  refine s_bipush 40 X dX6_isOwn_1 (by decide) ?_
  refine s_icmp_eq X 60 dX6_isOwn_3 (by decide) (by omega) (fun c3 => ?_) (fun c3 => ?_)
  · refine s_iconst X dX6_isOwn_60 ?_
    refine s_goto X 65 dX6_isOwn_61 (by decide) ?_
    refine s_iret X Y dX6_isOwn_65 (rfl) ?_
    refine ⟨?_, rfl⟩
    · (first | (exfalso; omega) | (first | exact (tf_t (by omega)).symm | exact (tf_f (by omega)).symm))
  · refine s_iload_n X dX6_isOwn_6 rfl 0 rfl ?_
    refine s_bipush 41 X dX6_isOwn_7 (by decide) ?_
    refine s_icmp_eq X 60 dX6_isOwn_9 (by decide) (by omega) (fun c9 => ?_) (fun c9 => ?_)
    · refine s_iconst X dX6_isOwn_60 ?_
      refine s_goto X 65 dX6_isOwn_61 (by decide) ?_
      refine s_iret X Y dX6_isOwn_65 (rfl) ?_
      refine ⟨?_, rfl⟩
      · (first | (exfalso; omega) | (first | exact (tf_t (by omega)).symm | exact (tf_f (by omega)).symm))
    · refine s_iload_n X dX6_isOwn_12 rfl 0 rfl ?_
      refine s_bipush 60 X dX6_isOwn_13 (by decide) ?_
      refine s_icmp_eq X 60 dX6_isOwn_15 (by decide) (by omega) (fun c15 => ?_) (fun c15 => ?_)
      · refine s_iconst X dX6_isOwn_60 ?_
        refine s_goto X 65 dX6_isOwn_61 (by decide) ?_
        refine s_iret X Y dX6_isOwn_65 (rfl) ?_
        refine ⟨?_, rfl⟩
        · (first | (exfalso; omega) | (first | exact (tf_t (by omega)).symm | exact (tf_f (by omega)).symm))
      · refine s_iload_n X dX6_isOwn_18 rfl 0 rfl ?_
        refine s_bipush 62 X dX6_isOwn_19 (by decide) ?_
        refine s_icmp_eq X 60 dX6_isOwn_21 (by decide) (by omega) (fun c21 => ?_) (fun c21 => ?_)
        · refine s_iconst X dX6_isOwn_60 ?_
          refine s_goto X 65 dX6_isOwn_61 (by decide) ?_
          refine s_iret X Y dX6_isOwn_65 (rfl) ?_
          refine ⟨?_, rfl⟩
          · (first | (exfalso; omega) | (first | exact (tf_t (by omega)).symm | exact (tf_f (by omega)).symm))
        · refine s_iload_n X dX6_isOwn_24 rfl 0 rfl ?_
          refine s_bipush 91 X dX6_isOwn_25 (by decide) ?_
          refine s_icmp_eq X 60 dX6_isOwn_27 (by decide) (by omega) (fun c27 => ?_) (fun c27 => ?_)
          · refine s_iconst X dX6_isOwn_60 ?_
            refine s_goto X 65 dX6_isOwn_61 (by decide) ?_
            refine s_iret X Y dX6_isOwn_65 (rfl) ?_
            refine ⟨?_, rfl⟩
            · (first | (exfalso; omega) | (first | exact (tf_t (by omega)).symm | exact (tf_f (by omega)).symm))
          · refine s_iload_n X dX6_isOwn_30 rfl 0 rfl ?_
            refine s_bipush 93 X dX6_isOwn_31 (by decide) ?_
            refine s_icmp_eq X 60 dX6_isOwn_33 (by decide) (by omega) (fun c33 => ?_) (fun c33 => ?_)
            · refine s_iconst X dX6_isOwn_60 ?_
              refine s_goto X 65 dX6_isOwn_61 (by decide) ?_
              refine s_iret X Y dX6_isOwn_65 (rfl) ?_
              refine ⟨?_, rfl⟩
              · (first | (exfalso; omega) | (first | exact (tf_t (by omega)).symm | exact (tf_f (by omega)).symm))
            · refine s_iload_n X dX6_isOwn_36 rfl 0 rfl ?_
              refine s_bipush 123 X dX6_isOwn_37 (by decide) ?_
              refine s_icmp_eq X 60 dX6_isOwn_39 (by decide) (by omega) (fun c39 => ?_) (fun c39 => ?_)
              · refine s_iconst X dX6_isOwn_60 ?_
                refine s_goto X 65 dX6_isOwn_61 (by decide) ?_
                refine s_iret X Y dX6_isOwn_65 (rfl) ?_
                refine ⟨?_, rfl⟩
                · (first | (exfalso; omega) | (first | exact (tf_t (by omega)).symm | exact (tf_f (by omega)).symm))
              · refine s_iload_n X dX6_isOwn_42 rfl 0 rfl ?_
                refine s_bipush 125 X dX6_isOwn_43 (by decide) ?_
                refine s_icmp_eq X 60 dX6_isOwn_45 (by decide) (by omega) (fun c45 => ?_) (fun c45 => ?_)
                · refine s_iconst X dX6_isOwn_60 ?_
                  refine s_goto X 65 dX6_isOwn_61 (by decide) ?_
                  refine s_iret X Y dX6_isOwn_65 (rfl) ?_
                  refine ⟨?_, rfl⟩
                  · (first | (exfalso; omega) | (first | exact (tf_t (by omega)).symm | exact (tf_f (by omega)).symm))
                · refine s_iload_n X dX6_isOwn_48 rfl 0 rfl ?_
                  refine s_bipush 47 X dX6_isOwn_49 (by decide) ?_
                  refine s_icmp_eq X 60 dX6_isOwn_51 (by decide) (by omega) (fun c51 => ?_) (fun c51 => ?_)
                  · refine s_iconst X dX6_isOwn_60 ?_
                    refine s_goto X 65 dX6_isOwn_61 (by decide) ?_
                    refine s_iret X Y dX6_isOwn_65 (rfl) ?_
                    refine ⟨?_, rfl⟩
                    · (first | (exfalso; omega) | (first | exact (tf_t (by omega)).symm | exact (tf_f (by omega)).symm))
                  · refine s_iload_n X dX6_isOwn_54 rfl 0 rfl ?_
                    refine s_bipush 37 X dX6_isOwn_55 (by decide) ?_
                    refine s_icmp_ne X 64 dX6_isOwn_57 (by decide) (by omega) (fun c57 => ?_) (fun c57 => ?_)
                    · refine s_iconst X dX6_isOwn_64 ?_
                      refine s_iret X Y dX6_isOwn_65 (rfl) ?_
                      refine ⟨?_, rfl⟩
                      · (first | (exfalso; omega) | (first | exact (tf_t (by omega)).symm | exact (tf_f (by omega)).symm))
                    · refine s_iconst X dX6_isOwn_60 ?_
                      refine s_goto X 65 dX6_isOwn_61 (by decide) ?_
                      refine s_iret X Y dX6_isOwn_65 (rfl) ?_
                      refine ⟨?_, rfl⟩
                      · (first | (exfalso; omega) | (first | exact (tf_t (by omega)).symm | exact (tf_f (by omega)).symm))
set_option maxRecDepth 100000 in
set_option maxHeartbeats 4000000 in
theorem c_X6_isPlain (l : Launch) (G : GX) (c : Int) (hc : R32 c) : CtI l G yX6_isPlain cX6_isPlain 1 (some .boolean) ({ frames := 1, cells := 0, slots := 0, locals := 20 } : Room) [.int (iI c)] [] (fun (z9 : Int) (w9 : va_W) => z9 = (tf (isP c)) ∧ w9 = []) := by
  intro sz
  refine met_of (fun wc sz => va_Qi (qI _) (posW G wc sz) (va_A wc sz)) (by decide) [(0, .int (iI c))] rfl (Nat.le_of_ble_eq_true rfl) (fun K hK9 hnm X Y => ?_)
  subst hK9
  replace Y : RI K G (some .boolean) 0 0 _ := Y
  refine s_iload_n X dX6_isPlain_0 rfl 0 rfl ?_
  refine s_sipush 159 X dX6_isPlain_1 (by decide) ?_
  refine s_icmp_gt X 32 dX6_isPlain_4 (by decide) (by omega) (fun c4 => ?_) (fun c4 => ?_)
  · refine s_iconst X dX6_isPlain_32 ?_
    refine s_goto X 37 dX6_isPlain_33 (by decide) ?_
    refine s_iret X Y dX6_isPlain_37 (rfl) ?_
    refine ⟨?_, rfl⟩
    · (first | (exfalso; omega) | (first | exact (tf_t (by omega)).symm | exact (tf_f (by omega)).symm))
  · refine s_iload_n X dX6_isPlain_7 rfl 0 rfl ?_
    refine s_if_lt X 36 dX6_isPlain_8 (by decide) (by omega) (fun c8 => ?_) (fun c8 => ?_)
    · refine s_iconst X dX6_isPlain_36 ?_
      refine s_iret X Y dX6_isPlain_37 (rfl) ?_
      refine ⟨?_, rfl⟩
      · (first | (exfalso; omega) | (first | exact (tf_t (by omega)).symm | exact (tf_f (by omega)).symm))
    · refine s_iload_n X dX6_isPlain_11 rfl 0 rfl ?_
      refine s_sipush 128 X dX6_isPlain_12 (by decide) ?_
      refine s_icmp_ge X 36 dX6_isPlain_15 (by decide) (by omega) (fun c15 => ?_) (fun c15 => ?_)
      · refine s_iconst X dX6_isPlain_36 ?_
        refine s_iret X Y dX6_isPlain_37 (rfl) ?_
        refine ⟨?_, rfl⟩
        · (first | (exfalso; omega) | (first | exact (tf_t (by omega)).symm | exact (tf_f (by omega)).symm))
      · refine s_iload_n X dX6_isPlain_18 rfl 0 rfl ?_
        refine s_callIS X lk_X6_46 [] [] (wr := []) rfl rfl (by decide) (by decide) (by decide) (c_X6_isBlank (kl K) G c (by omega)) dX6_isPlain_19 rfl rfl (Nat.le_of_ble_eq_true rfl) (by decide) (fun z1 w1 h1 => ?_)
        obtain ⟨rfl, rfl⟩ := h1
        show SW K G 1 0 0 22 [(0, .int (iI c))] [.int (iI (tf (isW c)))] []
        refine s_tf_ne X 36 dX6_isPlain_22 (by decide) (fun c22 => ?_) (fun c22 => ?_)
        · refine s_iconst X dX6_isPlain_36 ?_
          refine s_iret X Y dX6_isPlain_37 (rfl) ?_
          refine ⟨?_, rfl⟩
          · (first | (exfalso; omega) | (first | exact (tf_t (by omega)).symm | exact (tf_f (by omega)).symm))
        · refine s_iload_n X dX6_isPlain_25 rfl 0 rfl ?_
          refine s_callIS X lk_X6_50 [] [] (wr := []) rfl rfl (by decide) (by decide) (by decide) (c_X6_isOwn (kl K) G c (by omega)) dX6_isPlain_26 rfl rfl (Nat.le_of_ble_eq_true rfl) (by decide) (fun z2 w2 h2 => ?_)
          obtain ⟨rfl, rfl⟩ := h2
          show SW K G 1 0 0 29 [(0, .int (iI c))] [.int (iI (tf (isO c)))] []
          refine s_tf_ne X 36 dX6_isPlain_29 (by decide) (fun c29 => ?_) (fun c29 => ?_)
          · refine s_iconst X dX6_isPlain_36 ?_
            refine s_iret X Y dX6_isPlain_37 (rfl) ?_
            refine ⟨?_, rfl⟩
            · (first | (exfalso; omega) | (first | exact (tf_t (by omega)).symm | exact (tf_f (by omega)).symm))
          · refine s_iconst X dX6_isPlain_32 ?_
            refine s_goto X 37 dX6_isPlain_33 (by decide) ?_
            refine s_iret X Y dX6_isPlain_37 (rfl) ?_
            refine ⟨?_, rfl⟩
            · (first | (exfalso; omega) | (first | exact (tf_t (by omega)).symm | exact (tf_f (by omega)).symm))
set_option maxRecDepth 100000 in
set_option maxHeartbeats 4000000 in
theorem c_X6_isDigit (l : Launch) (G : GX) (c : Int) (hc : R32 c) : CtI l G yX6_isDigit cX6_isDigit 1 (some .boolean) ({ frames := 0, cells := 0, slots := 0, locals := 0 } : Room) [.int (iI c)] [] (fun (z9 : Int) (w9 : va_W) => z9 = (tf (48 ≤ c ∧ c ≤ 57)) ∧ w9 = []) := by
  intro sz
  refine met_of (fun wc sz => va_Qi (qI _) (posW G wc sz) (va_A wc sz)) (by decide) [(0, .int (iI c))] rfl (Nat.le_of_ble_eq_true rfl) (fun K hK9 hnm X Y => ?_)
  subst hK9
  replace Y : RI K G (some .boolean) 0 0 _ := Y
  refine s_iload_n X dX6_isDigit_0 rfl 0 rfl ?_
  refine s_bipush 48 X dX6_isDigit_1 (by decide) ?_
  refine s_icmp_lt X 16 dX6_isDigit_3 (by decide) (by omega) (fun c3 => ?_) (fun c3 => ?_)
  · refine s_iconst X dX6_isDigit_16 ?_
    refine s_iret X Y dX6_isDigit_17 (rfl) ?_
    refine ⟨?_, rfl⟩
    · (first | (exfalso; omega) | (first | exact (tf_t (by omega)).symm | exact (tf_f (by omega)).symm))
  · refine s_iload_n X dX6_isDigit_6 rfl 0 rfl ?_
    refine s_bipush 57 X dX6_isDigit_7 (by decide) ?_
    refine s_icmp_gt X 16 dX6_isDigit_9 (by decide) (by omega) (fun c9 => ?_) (fun c9 => ?_)
    · refine s_iconst X dX6_isDigit_16 ?_
      refine s_iret X Y dX6_isDigit_17 (rfl) ?_
      refine ⟨?_, rfl⟩
      · (first | (exfalso; omega) | (first | exact (tf_t (by omega)).symm | exact (tf_f (by omega)).symm))
    · refine s_iconst X dX6_isDigit_12 ?_
      refine s_goto X 17 dX6_isDigit_13 (by decide) ?_
      refine s_iret X Y dX6_isDigit_17 (rfl) ?_
      refine ⟨?_, rfl⟩
      · (first | (exfalso; omega) | (first | exact (tf_t (by omega)).symm | exact (tf_f (by omega)).symm))
set_option maxRecDepth 100000 in
set_option maxHeartbeats 4000000 in
theorem c_X6_digit (l : Launch) (G : GX) (c : Int) (hc : R32 c) : CtI l G yX6_digit cX6_digit 1 (some .int) ({ frames := 1, cells := 0, slots := 0, locals := 20 } : Room) [.int (iI c)] [] (fun (z9 : Int) (w9 : va_W) => z9 = (dg9 c) ∧ w9 = []) := by
  intro sz
  refine met_of (fun wc sz => va_Qi (qI _) (posW G wc sz) (va_A wc sz)) (by decide) [(0, .int (iI c))] rfl (Nat.le_of_ble_eq_true rfl) (fun K hK9 hnm X Y => ?_)
  subst hK9
  replace Y : RI K G (some .int) 0 0 _ := Y
  refine s_iload_n X dX6_digit_0 rfl 0 rfl ?_
  refine s_callIS X lk_X6_60 [] [] (wr := []) rfl rfl (by decide) (by decide) (by decide) (c_X6_isDigit (kl K) G c (by omega)) dX6_digit_1 rfl rfl (Nat.le_of_ble_eq_true rfl) (by decide) (fun z1 w1 h1 => ?_)
  obtain ⟨rfl, rfl⟩ := h1
  show SW K G 1 0 0 4 [(0, .int (iI c))] [.int (iI (tf (48 ≤ c ∧ c ≤ 57)))] []
  refine s_tf_eq X 12 dX6_digit_4 (by decide) (fun c4 => ?_) (fun c4 => ?_)
  · refine s_iload_n X dX6_digit_12 rfl 0 rfl ?_
    refine s_bipush 97 X dX6_digit_13 (by decide) ?_
    refine s_icmp_lt X 32 dX6_digit_15 (by decide) (by omega) (fun c15 => ?_) (fun c15 => ?_)
    · refine s_iload_n X dX6_digit_32 rfl 0 rfl ?_
      refine s_bipush 65 X dX6_digit_33 (by decide) ?_
      refine s_icmp_lt X 54 dX6_digit_35 (by decide) (by omega) (fun c35 => ?_) (fun c35 => ?_)
      · refine s_bipush 99 X dX6_digit_54 (by decide) ?_
        refine s_iret X Y dX6_digit_56 (rfl) ?_
        refine ⟨?_, rfl⟩
        · (first | (exfalso; omega) | (unfold dg9 dg; (repeat' split) <;> omega))
      · refine s_iload_n X dX6_digit_38 rfl 0 rfl ?_
        refine s_bipush 90 X dX6_digit_39 (by decide) ?_
        refine s_icmp_gt X 54 dX6_digit_41 (by decide) (by omega) (fun c41 => ?_) (fun c41 => ?_)
        · refine s_bipush 99 X dX6_digit_54 (by decide) ?_
          refine s_iret X Y dX6_digit_56 (rfl) ?_
          refine ⟨?_, rfl⟩
          · (first | (exfalso; omega) | (unfold dg9 dg; (repeat' split) <;> omega))
        · refine s_iload_n X dX6_digit_44 rfl 0 rfl ?_
          refine s_bipush 65 X dX6_digit_45 (by decide) ?_
          refine s_isub X dX6_digit_47 ?_
          refine s_bipush 10 X dX6_digit_48 (by decide) ?_
          refine s_iadd X dX6_digit_50 ?_
          refine s_goto X 56 dX6_digit_51 (by decide) ?_
          refine s_iret X Y dX6_digit_56 (rfl) ?_
          refine ⟨?_, rfl⟩
          · (first | (exfalso; omega) | (unfold dg9 dg; (repeat' split) <;> omega))
    · refine s_iload_n X dX6_digit_18 rfl 0 rfl ?_
      refine s_bipush 122 X dX6_digit_19 (by decide) ?_
      refine s_icmp_gt X 32 dX6_digit_21 (by decide) (by omega) (fun c21 => ?_) (fun c21 => ?_)
      · refine s_iload_n X dX6_digit_32 rfl 0 rfl ?_
        refine s_bipush 65 X dX6_digit_33 (by decide) ?_
        refine s_icmp_lt X 54 dX6_digit_35 (by decide) (by omega) (fun c35 => ?_) (fun c35 => ?_)
        · refine s_bipush 99 X dX6_digit_54 (by decide) ?_
          refine s_iret X Y dX6_digit_56 (rfl) ?_
          refine ⟨?_, rfl⟩
          · (first | (exfalso; omega) | (unfold dg9 dg; (repeat' split) <;> omega))
        · refine s_iload_n X dX6_digit_38 rfl 0 rfl ?_
          refine s_bipush 90 X dX6_digit_39 (by decide) ?_
          refine s_icmp_gt X 54 dX6_digit_41 (by decide) (by omega) (fun c41 => ?_) (fun c41 => ?_)
          · refine s_bipush 99 X dX6_digit_54 (by decide) ?_
            refine s_iret X Y dX6_digit_56 (rfl) ?_
            refine ⟨?_, rfl⟩
            · (first | (exfalso; omega) | (unfold dg9 dg; (repeat' split) <;> omega))
          · refine s_iload_n X dX6_digit_44 rfl 0 rfl ?_
            refine s_bipush 65 X dX6_digit_45 (by decide) ?_
            refine s_isub X dX6_digit_47 ?_
            refine s_bipush 10 X dX6_digit_48 (by decide) ?_
            refine s_iadd X dX6_digit_50 ?_
            refine s_goto X 56 dX6_digit_51 (by decide) ?_
            refine s_iret X Y dX6_digit_56 (rfl) ?_
            refine ⟨?_, rfl⟩
            · (first | (exfalso; omega) | (unfold dg9 dg; (repeat' split) <;> omega))
      · refine s_iload_n X dX6_digit_24 rfl 0 rfl ?_
        refine s_bipush 97 X dX6_digit_25 (by decide) ?_
        refine s_isub X dX6_digit_27 ?_
        refine s_bipush 10 X dX6_digit_28 (by decide) ?_
        refine s_iadd X dX6_digit_30 ?_
        refine s_iret X Y dX6_digit_31 (rfl) ?_
        refine ⟨?_, rfl⟩
        · (first | (exfalso; omega) | (unfold dg9 dg; (repeat' split) <;> omega))
  · refine s_iload_n X dX6_digit_7 rfl 0 rfl ?_
    refine s_bipush 48 X dX6_digit_8 (by decide) ?_
    refine s_isub X dX6_digit_10 ?_
    refine s_iret X Y dX6_digit_11 (rfl) ?_
    refine ⟨?_, rfl⟩
    · (first | (exfalso; omega) | (unfold dg9 dg; (repeat' split) <;> omega))
set_option maxRecDepth 100000 in
set_option maxHeartbeats 4000000 in
theorem c_X6_digitsFrom (l : Launch) (G : GX) (o : Nat) (a : Nat) (po : Nat) (xt : Nat) (xi : Nat) (xd : Nat) (yt : Nat) (yi : Nat) (yd : Nat) (th : Int) (n : Int) (e : Int) (dn : Int) (at9 : Int) (dp : Int) (kd : Int) (wh : Int) (pl : Int) (base : Int) (sg : Int) (row : Int) (ror : Int) (np : Int) (nw : Int) (nb : Int) (ns : Int) (nrw : Int) (nir : Int) (inf9 : Int) (re : UInt64) (nr : UInt64) (B : Nat → Nat) (i0 : Int) (f : Int) (j : Int) (hn : 0 ≤ n ∧ n ≤ 3000) (hBb : ∀ j, B j < 256) (hij : 0 ≤ i0 ∧ i0 ≤ f ∧ f ≤ j ∧ j ≤ n) : CtI l G yX6_digitsFrom cX6_digitsFrom 4 (some .int) ({ frames := 1, cells := 0, slots := 0, locals := 21 } : Room) [.ref o, .int (iI f), .int (iI j)] [oMo o th n a e dn at9 dp po kd wh re pl base sg xt row ror xi xd np nw nr nb ns yt nrw nir yi yd inf9, aB G a 3000 B] (fun (z9 : Int) (w9 : va_W) => z9 = (de (wd B i0 j) (j - i0) 10 (f - i0) - (f - i0)) ∧ w9 = [oMo o th n a e dn at9 dp po kd wh re pl base sg xt row ror xi xd np nw nr nb ns yt nrw nir yi yd inf9, aB G a 3000 B]) := by
  intro sz
  refine met_of (fun wc sz => va_Qi (qI _) (posW G wc sz) (va_A wc sz)) (by decide) [(0, .ref o), (1, .int (iI f)), (2, .int (iI j))] rfl (Nat.le_of_ble_eq_true rfl) (fun K hK9 hnm X Y => ?_)
  subst hK9
  replace Y : RI K G (some .int) 0 0 _ := Y
  refine s_iload_n X dX6_digitsFrom_0 rfl 1 rfl ?_
  refine s_istore_n X dX6_digitsFrom_1 rfl [(3, .int (iI f)), (0, .ref o), (1, .int (iI f)), (2, .int (iI j))] (by decide) rfl ?_
  have lp : ∀ (m9 : Nat) (i : Int) (h1 : f ≤ i ∧ i ≤ j) (h2 : de (wd B i0 j) (j - i0) 10 (i - i0) = de (wd B i0 j) (j - i0) 10 (f - i0)), (j - i).toNat < m9 → SW K G 4 0 0 2 [(3, .int (iI i)), (0, .ref o), (1, .int (iI f)), (2, .int (iI j))] [] [oMo o th n a e dn at9 dp po kd wh re pl base sg xt row ror xi xd np nw nr nb ns yt nrw nir yi yd inf9, aB G a 3000 B] := by
    intro m9
    induction m9 with
    | zero => intro i h1 h2 hm9; exact absurd hm9 (Nat.not_lt_zero _)
    | succ m9 ih9 =>
      intro i h1 h2 hm9
      refine s_iload_n X dX6_digitsFrom_2 rfl 0 rfl ?_
      refine s_iload_n X dX6_digitsFrom_3 rfl 3 rfl ?_
      refine s_icmp_ge X 24 dX6_digitsFrom_4 (by decide) (by omega) (fun c4 => ?_) (fun c4 => ?_)
      · refine s_iload_n X dX6_digitsFrom_24 rfl 0 rfl ?_
        refine s_iload_n X dX6_digitsFrom_25 rfl 2 rfl ?_
        refine s_isub X dX6_digitsFrom_26 ?_
        refine s_iret X Y dX6_digitsFrom_27 (rfl) ?_
        refine ⟨?_, rfl⟩
        · (first | (exfalso; omega) | (first | (rw [← h2, de_out (by omega)]; omega) | (rw [← h2, de_s (by omega), if_pos (by omega)]; omega)))
      · refine s_aload_n X dX6_digitsFrom_7 rfl 1 rfl ?_
        refine s_iload_n X dX6_digitsFrom_8 rfl 0 rfl ?_
        refine s_callIV X lk_X6_63 [0, 1] [] (wr := []) rfl rfl (by decide) (by decide) (by decide) (c_X6_byteAt (kl K) G o a po xt xi xd yt yi yd th n e dn at9 dp kd wh pl base sg row ror np nw nb ns nrw nir inf9 re nr B i (by assumption) (by assumption) (by omega)) rfl rfl dX6_digitsFrom_9 rfl rfl (Nat.le_of_ble_eq_true rfl) (by decide) (fun z1 w1 h1 => ?_)
        obtain ⟨rfl, rfl⟩ := h1
        show SW K G 4 0 0 12 [(3, .int (iI i)), (0, .ref o), (1, .int (iI f)), (2, .int (iI j))] [.int (iI (bA B n i))] [oMo o th n a e dn at9 dp po kd wh re pl base sg xt row ror xi xd np nw nr nb ns yt nrw nir yi yd inf9, aB G a 3000 B]
        have q2 := bA_C n i (by assumption : ∀ j, B j < 256)
        have e9 : bA B n i = wd B i0 j (i - i0) := wd_bA (by omega)
        have d9 := dg_C (wd B i0 j (i - i0))
        refine s_callIS X lk_X6_60 [] [0, 1] (wr := [oMo o th n a e dn at9 dp po kd wh re pl base sg xt row ror xi xd np nw nr nb ns yt nrw nir yi yd inf9, aB G a 3000 B]) rfl rfl (by decide) (by decide) (by decide) (c_X6_isDigit (kl K) G (bA B n i) (by omega)) dX6_digitsFrom_12 rfl rfl (Nat.le_of_ble_eq_true rfl) (by decide) (fun z3 w3 h3 => ?_)
        obtain ⟨rfl, rfl⟩ := h3
        show SW K G 4 0 0 15 [(3, .int (iI i)), (0, .ref o), (1, .int (iI f)), (2, .int (iI j))] [.int (iI (tf (48 ≤ (bA B n i) ∧ (bA B n i) ≤ 57)))] [oMo o th n a e dn at9 dp po kd wh re pl base sg xt row ror xi xd np nw nr nb ns yt nrw nir yi yd inf9, aB G a 3000 B]
        refine s_tf_eq X 24 dX6_digitsFrom_15 (by decide) (fun c15 => ?_) (fun c15 => ?_)
        · refine s_iload_n X dX6_digitsFrom_24 rfl 0 rfl ?_
          refine s_iload_n X dX6_digitsFrom_25 rfl 2 rfl ?_
          refine s_isub X dX6_digitsFrom_26 ?_
          refine s_iret X Y dX6_digitsFrom_27 (rfl) ?_
          refine ⟨?_, rfl⟩
          · (first | (exfalso; omega) | (first | (rw [← h2, de_out (by omega)]; omega) | (rw [← h2, de_s (by omega), if_pos (by omega)]; omega)))
        · refine s_iinc (z := i + 1) X dX6_digitsFrom_18 0 rfl (by first | rfl | omega) [(3, .int (iI (i + 1))), (0, .ref o), (1, .int (iI f)), (2, .int (iI j))] (by decide) rfl ?_
          refine s_goto X 2 dX6_digitsFrom_21 (by decide) ?_
          exact ih9 (i + 1) (by omega) (by rw [← h2, de_s (i := i - i0) (by omega), if_neg (by omega), show i + 1 - i0 = i - i0 + 1 by omega]) (by omega)
  exact lp _ f (by omega) (rfl) (Nat.lt_succ_self _)
