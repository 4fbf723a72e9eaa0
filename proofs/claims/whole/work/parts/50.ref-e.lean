set_option maxRecDepth 100000 in
set_option maxHeartbeats 4000000 in
theorem c_X6_slashed (l : Launch) (G : GX) (o : Nat) (a : Nat) (po : Nat) (xt : Nat) (xi : Nat) (xd : Nat) (yt : Nat) (yi : Nat) (yd : Nat) (th : Int) (n : Int) (e : Int) (dn : Int) (at9 : Int) (dp : Int) (kd : Int) (wh : Int) (pl : Int) (base : Int) (sg : Int) (row : Int) (ror : Int) (np : Int) (nw : Int) (nb : Int) (ns : Int) (nrw : Int) (nir : Int) (inf9 : Int) (re : UInt64) (nr : UInt64) (B : Nat → Nat) (t : Nat → Nat) (hn : 0 ≤ n ∧ n ≤ 3000) (hBb : ∀ j, B j < 256) (he : e = 0 ∨ e = 1) (hap : 0 ≤ at9 ∧ at9 < n) (htb : ∀ j, t j < 256) : CtI l G yX6_slashed cX6_slashed 3 (some .int) ({ frames := 3, cells := 0, slots := 0, locals := 61 } : Room) [.ref o] [oMo o th n a e dn at9 dp po kd wh re pl base sg xt row ror xi xd np nw nr nb ns yt nrw nir yi yd inf9, aB G a 3000 B, aB G yt 400 t] (fun (z9 : Int) (w9 : va_W) => ∃ (at2 : Int), ∃ (nw2 : Int), ∃ (ns2 : Int), ∃ (t2 : Nat → Nat), z9 = (rtA (we B n (slS B n at9)) n e (slS B n at9) (slK B n at9)) ∧ w9 = [oMo o th n a e dn at2 dp po kd wh re pl base sg xt row ror xi xd np nw2 nr nb ns2 yt nrw nir yi yd inf9, aB G a 3000 B, aB G yt 400 t2] ∧ (z9 ≠ 0 → at2 = (we B n (slS B n at9))) ∧ (0 < z9 → nw2 = (we B n (slS B n at9)) - (slS B n at9) ∧ TY t2 ns2 (wL B (slS B n at9) ((we B n (slS B n at9)) - (slS B n at9)).toNat)) ∧ (∀ j, t2 j < 256)) := by
  intro sz
  refine met_of (fun wc sz => va_Qi (qI _) (posW G wc sz) (va_A wc sz)) (by decide) [(0, .ref o)] rfl (Nat.le_of_ble_eq_true rfl) (fun K hK9 hnm X Y => ?_)
  subst hK9
  replace Y : RI K G (some .int) 0 0 _ := Y
  refine s_aload_n X dX6_slashed_0 rfl 0 rfl ?_
  refine s_dup X dX6_slashed_1 rfl ?_
  refine s_get X dX6_slashed_2 fl_X6_102 0 rfl rfl ?_
  refine s_iconst X dX6_slashed_5 ?_
  refine s_iadd X dX6_slashed_6 ?_
  refine s_put X dX6_slashed_7 fl_X6_102 tyX6_ok nmX6 0 rfl rfl (rfl) (rfl) (Nat.le_of_ble_eq_true rfl) [oMo o th n a e dn (at9 + 1) dp po kd wh re pl base sg xt row ror xi xd np nw nr nb ns yt nrw nir yi yd inf9, aB G a 3000 B, aB G yt 400 t] rfl ?_
  refine s_aload_n X dX6_slashed_10 rfl 0 rfl ?_
  refine s_get X dX6_slashed_11 fl_X6_102 0 rfl rfl ?_
  refine s_aload_n X dX6_slashed_14 rfl 0 rfl ?_
  refine s_get X dX6_slashed_15 fl_X6_40 0 rfl rfl ?_
  refine s_icmp_ne X 30 dX6_slashed_18 (by decide) (by omega) (fun c18 => ?_) (fun c18 => ?_)
  · refine s_aload_n X dX6_slashed_30 rfl 0 rfl ?_
    refine s_aload_n X dX6_slashed_31 rfl 0 rfl ?_
    refine s_get X dX6_slashed_32 fl_X6_102 0 rfl rfl ?_
    refine s_callIV X lk_X6_63 [0, 1] [2] (wr := [aB G yt 400 t]) rfl rfl (by decide) (by decide) (by decide) (c_X6_byteAt (kl K) G o a po xt xi xd yt yi yd th n e dn (at9 + 1) dp kd wh pl base sg row ror np nw nb ns nrw nir inf9 re nr B (at9 + 1) (by assumption) (by assumption) (by omega)) rfl rfl dX6_slashed_35 rfl rfl (Nat.le_of_ble_eq_true rfl) (by decide) (fun z1 w1 h1 => ?_)
    obtain ⟨rfl, rfl⟩ := h1
    show SW K G 3 0 0 38 [(0, .ref o)] [.int (iI (bA B n (at9 + 1)))] [aB G yt 400 t, oMo o th n a e dn (at9 + 1) dp po kd wh re pl base sg xt row ror xi xd np nw nr nb ns yt nrw nir yi yd inf9, aB G a 3000 B]
    have q2 := bA_C n (at9 + 1) (by assumption : ∀ j, B j < 256)
    refine s_bipush 47 X dX6_slashed_38 (by decide) ?_
    refine s_icmp_ne X 47 dX6_slashed_40 (by decide) (by omega) (fun c40 => ?_) (fun c40 => ?_)
    · refine s_iconst X dX6_slashed_47 ?_
      refine s_istore_n X dX6_slashed_48 rfl [(1, .int (iI 0)), (0, .ref o)] (by decide) rfl ?_
      refine s_aload_n X dX6_slashed_49 rfl 1 rfl ?_
      refine s_iload_n X dX6_slashed_50 rfl 0 rfl ?_
      refine s_if_eq X 63 dX6_slashed_51 (by decide) (by omega) (fun c51 => ?_) (fun c51 => ?_)
      · refine s_aload_n X dX6_slashed_63 rfl 1 rfl ?_
        refine s_get X dX6_slashed_64 fl_X6_102 1 rfl rfl ?_
        refine s_put X dX6_slashed_67 fl_X6_102 tyX6_ok nmX6 1 rfl rfl (rfl) (rfl) (Nat.le_of_ble_eq_true rfl) [aB G yt 400 t, oMo o th n a e dn (at9 + 1) dp po kd wh re pl base sg xt row ror xi xd np nw nr nb ns yt nrw nir yi yd inf9, aB G a 3000 B] rfl ?_
        refine s_aload_n X dX6_slashed_70 rfl 1 rfl ?_
        refine s_callIV X lk_X6_108 [1, 2, 0] [] (wr := []) rfl rfl (by decide) (by decide) (by decide) (c_X6_word (kl K) G o a po xt xi xd yt yi yd th n e dn (at9 + 1) dp kd wh pl base sg row ror np nw nb ns nrw nir inf9 re nr B t (by assumption) (by assumption) (by omega) (by omega) (by assumption)) rfl rfl dX6_slashed_71 rfl rfl (Nat.le_of_ble_eq_true rfl) (by decide) (fun z3 w3 h3 => ?_)
        obtain ⟨nw23, ns23, t23, rfl, rfl, f3_0, f3_1, f3_2⟩ := h3
        show SW K G 3 0 0 74 [(1, .int (iI 0)), (0, .ref o)] [.int (iI (rtA (we B n (at9 + 1)) n e (at9 + 1) 1))] [oMo o th n a e dn (we B n (at9 + 1)) dp po kd wh re pl base sg xt row ror xi xd np nw23 nr nb ns23 yt nrw nir yi yd inf9, aB G a 3000 B, aB G yt 400 t23]
        have g0 := f3_0
        have g1 := f3_1
        have g2 := f3_2
        refine s_istore_n X dX6_slashed_74 rfl [(2, .int (iI (rtA (we B n (at9 + 1)) n e (at9 + 1) 1))), (1, .int (iI 0)), (0, .ref o)] (by decide) rfl ?_
        refine s_iload_n X dX6_slashed_75 rfl 0 rfl ?_
        refine s_iconst X dX6_slashed_76 ?_
        refine s_icmp_ne X 92 dX6_slashed_77 (by decide) (by (have hC1 := rtA_C (we B n (at9 + 1)) n e (at9 + 1) 1; have hC2 := rtA_C (we B n (at9 + 1 + 1)) n e (at9 + 1 + 1) 1; omega)) (fun c77 => ?_) (fun c77 => ?_)
        · refine s_iload_n X dX6_slashed_92 rfl 0 rfl ?_
          refine s_iret X Y dX6_slashed_93 (rfl) ?_
          refine ⟨(we B n (at9 + 1)), nw23, ns23, t23, ?_, rfl, ?_, ?_, ?_⟩
          · (first | (exfalso; omega) | (have eS := sl_0 c40; rw [eS.1, eS.2]; exact (rtA_kn c77).symm))
          · (first | (exfalso; omega) | (have eS := sl_0 c40; intro _; rw [eS.1]))
          · (first | (exfalso; omega) | (have eS := sl_0 c40; intro h; exfalso; have hC1 := rtA_C (we B n (at9 + 1)) n e (at9 + 1) 1; have hC2 := rtA_C (we B n (at9 + 1 + 1)) n e (at9 + 1 + 1) 1; omega))
          · (first | (exfalso; omega) | (exact g2))
        · refine s_iload_n X dX6_slashed_80 rfl 1 rfl ?_
          refine s_if_eq X 88 dX6_slashed_81 (by decide) (by omega) (fun c81 => ?_) (fun c81 => ?_)
          · refine s_iconst X dX6_slashed_88 ?_
            refine s_goto X 93 dX6_slashed_89 (by decide) ?_
            refine s_iret X Y dX6_slashed_93 (rfl) ?_
            refine ⟨(we B n (at9 + 1)), nw23, ns23, t23, ?_, rfl, ?_, ?_, ?_⟩
            · (first | (exfalso; omega) | (have eS := sl_0 c40; rw [eS.1, eS.2]; exact (rtA_k1 c77).symm))
            · (first | (exfalso; omega) | (have eS := sl_0 c40; intro _; rw [eS.1]))
            · (first | (exfalso; omega) | (have eS := sl_0 c40; intro _; rw [eS.1]; exact g0 c77))
            · (first | (exfalso; omega) | (exact g2))
          · refine s_iconst X dX6_slashed_84 ?_
            refine s_goto X 93 dX6_slashed_85 (by decide) ?_
            refine s_iret X Y dX6_slashed_93 (rfl) ?_
            refine ⟨(we B n (at9 + 1)), nw23, ns23, t23, ?_, rfl, ?_, ?_, ?_⟩
            · (first | (exfalso; omega) | (have eS := sl_0 c40; rw [eS.1, eS.2]; exact (rtA_k1 c77).symm))
            · (first | (exfalso; omega) | (have eS := sl_0 c40; intro _; rw [eS.1]))
            · (first | (exfalso; omega) | (have eS := sl_0 c40; intro _; rw [eS.1]; exact g0 c77))
            · (first | (exfalso; omega) | (exact g2))
      · refine s_aload_n X dX6_slashed_54 rfl 1 rfl ?_
        refine s_get X dX6_slashed_55 fl_X6_102 1 rfl rfl ?_
        refine s_iconst X dX6_slashed_58 ?_
        refine s_iadd X dX6_slashed_59 ?_
        refine s_goto X 67 dX6_slashed_60 (by decide) ?_
        refine s_put X dX6_slashed_67 fl_X6_102 tyX6_ok nmX6 1 rfl rfl (rfl) (rfl) (Nat.le_of_ble_eq_true rfl) [aB G yt 400 t, oMo o th n a e dn ((at9 + 1) + 1) dp po kd wh re pl base sg xt row ror xi xd np nw nr nb ns yt nrw nir yi yd inf9, aB G a 3000 B] rfl ?_
        refine s_aload_n X dX6_slashed_70 rfl 1 rfl ?_
        refine s_callIV X lk_X6_108 [1, 2, 0] [] (wr := []) rfl rfl (by decide) (by decide) (by decide) (c_X6_word (kl K) G o a po xt xi xd yt yi yd th n e dn ((at9 + 1) + 1) dp kd wh pl base sg row ror np nw nb ns nrw nir inf9 re nr B t (by assumption) (by assumption) (by omega) (by omega) (by assumption)) rfl rfl dX6_slashed_71 rfl rfl (Nat.le_of_ble_eq_true rfl) (by decide) (fun z4 w4 h4 => ?_)
        obtain ⟨nw24, ns24, t24, rfl, rfl, f4_0, f4_1, f4_2⟩ := h4
        show SW K G 3 0 0 74 [(1, .int (iI 0)), (0, .ref o)] [.int (iI (rtA (we B n ((at9 + 1) + 1)) n e ((at9 + 1) + 1) 1))] [oMo o th n a e dn (we B n ((at9 + 1) + 1)) dp po kd wh re pl base sg xt row ror xi xd np nw24 nr nb ns24 yt nrw nir yi yd inf9, aB G a 3000 B, aB G yt 400 t24]
        have g0 := f4_0
        have g1 := f4_1
        have g2 := f4_2
        refine s_istore_n X dX6_slashed_74 rfl [(2, .int (iI (rtA (we B n ((at9 + 1) + 1)) n e ((at9 + 1) + 1) 1))), (1, .int (iI 0)), (0, .ref o)] (by decide) rfl ?_
        refine s_iload_n X dX6_slashed_75 rfl 0 rfl ?_
        refine s_iconst X dX6_slashed_76 ?_
        refine s_icmp_ne X 92 dX6_slashed_77 (by decide) (by (have hC1 := rtA_C (we B n (at9 + 1)) n e (at9 + 1) 1; have hC2 := rtA_C (we B n (at9 + 1 + 1)) n e (at9 + 1 + 1) 1; omega)) (fun c77 => ?_) (fun c77 => ?_)
        · refine s_iload_n X dX6_slashed_92 rfl 0 rfl ?_
          refine s_iret X Y dX6_slashed_93 (rfl) ?_
          refine ⟨(we B n ((at9 + 1) + 1)), nw24, ns24, t24, ?_, rfl, ?_, ?_, ?_⟩
          · (first | (exfalso; omega) | (have eS := sl_0 c40; rw [eS.1, eS.2]; exact (rtA_kn c77).symm))
          · (first | (exfalso; omega) | (have eS := sl_0 c40; intro _; rw [eS.1]))
          · (first | (exfalso; omega) | (have eS := sl_0 c40; intro h; exfalso; have hC1 := rtA_C (we B n (at9 + 1)) n e (at9 + 1) 1; have hC2 := rtA_C (we B n (at9 + 1 + 1)) n e (at9 + 1 + 1) 1; omega))
          · (first | (exfalso; omega) | (exact g2))
        · refine s_iload_n X dX6_slashed_80 rfl 1 rfl ?_
          refine s_if_eq X 88 dX6_slashed_81 (by decide) (by omega) (fun c81 => ?_) (fun c81 => ?_)
          · refine s_iconst X dX6_slashed_88 ?_
            refine s_goto X 93 dX6_slashed_89 (by decide) ?_
            refine s_iret X Y dX6_slashed_93 (rfl) ?_
            refine ⟨(we B n ((at9 + 1) + 1)), nw24, ns24, t24, ?_, rfl, ?_, ?_, ?_⟩
            · (first | (exfalso; omega) | (have eS := sl_0 c40; rw [eS.1, eS.2]; exact (rtA_k1 c77).symm))
            · (first | (exfalso; omega) | (have eS := sl_0 c40; intro _; rw [eS.1]))
            · (first | (exfalso; omega) | (have eS := sl_0 c40; intro _; rw [eS.1]; exact g0 c77))
            · (first | (exfalso; omega) | (exact g2))
          · refine s_iconst X dX6_slashed_84 ?_
            refine s_goto X 93 dX6_slashed_85 (by decide) ?_
            refine s_iret X Y dX6_slashed_93 (rfl) ?_
            refine ⟨(we B n ((at9 + 1) + 1)), nw24, ns24, t24, ?_, rfl, ?_, ?_, ?_⟩
            · (first | (exfalso; omega) | (have eS := sl_0 c40; rw [eS.1, eS.2]; exact (rtA_k1 c77).symm))
            · (first | (exfalso; omega) | (have eS := sl_0 c40; intro _; rw [eS.1]))
            · (first | (exfalso; omega) | (have eS := sl_0 c40; intro _; rw [eS.1]; exact g0 c77))
            · (first | (exfalso; omega) | (exact g2))
    · refine s_iconst X dX6_slashed_43 ?_
      refine s_goto X 48 dX6_slashed_44 (by decide) ?_
      refine s_istore_n X dX6_slashed_48 rfl [(1, .int (iI 1)), (0, .ref o)] (by decide) rfl ?_
      refine s_aload_n X dX6_slashed_49 rfl 1 rfl ?_
      refine s_iload_n X dX6_slashed_50 rfl 0 rfl ?_
      refine s_if_eq X 63 dX6_slashed_51 (by decide) (by omega) (fun c51 => ?_) (fun c51 => ?_)
      · refine s_aload_n X dX6_slashed_63 rfl 1 rfl ?_
        refine s_get X dX6_slashed_64 fl_X6_102 1 rfl rfl ?_
        refine s_put X dX6_slashed_67 fl_X6_102 tyX6_ok nmX6 1 rfl rfl (rfl) (rfl) (Nat.le_of_ble_eq_true rfl) [aB G yt 400 t, oMo o th n a e dn (at9 + 1) dp po kd wh re pl base sg xt row ror xi xd np nw nr nb ns yt nrw nir yi yd inf9, aB G a 3000 B] rfl ?_
        refine s_aload_n X dX6_slashed_70 rfl 1 rfl ?_
        refine s_callIV X lk_X6_108 [1, 2, 0] [] (wr := []) rfl rfl (by decide) (by decide) (by decide) (c_X6_word (kl K) G o a po xt xi xd yt yi yd th n e dn (at9 + 1) dp kd wh pl base sg row ror np nw nb ns nrw nir inf9 re nr B t (by assumption) (by assumption) (by omega) (by omega) (by assumption)) rfl rfl dX6_slashed_71 rfl rfl (Nat.le_of_ble_eq_true rfl) (by decide) (fun z5 w5 h5 => ?_)
        obtain ⟨nw25, ns25, t25, rfl, rfl, f5_0, f5_1, f5_2⟩ := h5
        show SW K G 3 0 0 74 [(1, .int (iI 1)), (0, .ref o)] [.int (iI (rtA (we B n (at9 + 1)) n e (at9 + 1) 1))] [oMo o th n a e dn (we B n (at9 + 1)) dp po kd wh re pl base sg xt row ror xi xd np nw25 nr nb ns25 yt nrw nir yi yd inf9, aB G a 3000 B, aB G yt 400 t25]
        have g0 := f5_0
        have g1 := f5_1
        have g2 := f5_2
        refine s_istore_n X dX6_slashed_74 rfl [(2, .int (iI (rtA (we B n (at9 + 1)) n e (at9 + 1) 1))), (1, .int (iI 1)), (0, .ref o)] (by decide) rfl ?_
        refine s_iload_n X dX6_slashed_75 rfl 0 rfl ?_
        refine s_iconst X dX6_slashed_76 ?_
        refine s_icmp_ne X 92 dX6_slashed_77 (by decide) (by (have hC1 := rtA_C (we B n (at9 + 1)) n e (at9 + 1) 1; have hC2 := rtA_C (we B n (at9 + 1 + 1)) n e (at9 + 1 + 1) 1; omega)) (fun c77 => ?_) (fun c77 => ?_)
        · refine s_iload_n X dX6_slashed_92 rfl 0 rfl ?_
          refine s_iret X Y dX6_slashed_93 (rfl) ?_
          refine ⟨(we B n (at9 + 1)), nw25, ns25, t25, ?_, rfl, ?_, ?_, ?_⟩
          · (first | (exfalso; omega) | (have eS := sl_1 c40; rw [eS.1, eS.2]; exact (rtA_kn c77).symm))
          · (first | (exfalso; omega) | (have eS := sl_1 c40; intro _; rw [eS.1]))
          · (first | (exfalso; omega) | (have eS := sl_1 c40; intro h; exfalso; have hC1 := rtA_C (we B n (at9 + 1)) n e (at9 + 1) 1; have hC2 := rtA_C (we B n (at9 + 1 + 1)) n e (at9 + 1 + 1) 1; omega))
          · (first | (exfalso; omega) | (exact g2))
        · refine s_iload_n X dX6_slashed_80 rfl 1 rfl ?_
          refine s_if_eq X 88 dX6_slashed_81 (by decide) (by omega) (fun c81 => ?_) (fun c81 => ?_)
          · refine s_iconst X dX6_slashed_88 ?_
            refine s_goto X 93 dX6_slashed_89 (by decide) ?_
            refine s_iret X Y dX6_slashed_93 (rfl) ?_
            refine ⟨(we B n (at9 + 1)), nw25, ns25, t25, ?_, rfl, ?_, ?_, ?_⟩
            · (first | (exfalso; omega) | (have eS := sl_1 c40; rw [eS.1, eS.2]; exact (rtA_k1 c77).symm))
            · (first | (exfalso; omega) | (have eS := sl_1 c40; intro _; rw [eS.1]))
            · (first | (exfalso; omega) | (have eS := sl_1 c40; intro _; rw [eS.1]; exact g0 c77))
            · (first | (exfalso; omega) | (exact g2))
          · refine s_iconst X dX6_slashed_84 ?_
            refine s_goto X 93 dX6_slashed_85 (by decide) ?_
            refine s_iret X Y dX6_slashed_93 (rfl) ?_
            refine ⟨(we B n (at9 + 1)), nw25, ns25, t25, ?_, rfl, ?_, ?_, ?_⟩
            · (first | (exfalso; omega) | (have eS := sl_1 c40; rw [eS.1, eS.2]; exact (rtA_k1 c77).symm))
            · (first | (exfalso; omega) | (have eS := sl_1 c40; intro _; rw [eS.1]))
            · (first | (exfalso; omega) | (have eS := sl_1 c40; intro _; rw [eS.1]; exact g0 c77))
            · (first | (exfalso; omega) | (exact g2))
      · refine s_aload_n X dX6_slashed_54 rfl 1 rfl ?_
        refine s_get X dX6_slashed_55 fl_X6_102 1 rfl rfl ?_
        refine s_iconst X dX6_slashed_58 ?_
        refine s_iadd X dX6_slashed_59 ?_
        refine s_goto X 67 dX6_slashed_60 (by decide) ?_
        refine s_put X dX6_slashed_67 fl_X6_102 tyX6_ok nmX6 1 rfl rfl (rfl) (rfl) (Nat.le_of_ble_eq_true rfl) [aB G yt 400 t, oMo o th n a e dn ((at9 + 1) + 1) dp po kd wh re pl base sg xt row ror xi xd np nw nr nb ns yt nrw nir yi yd inf9, aB G a 3000 B] rfl ?_
        refine s_aload_n X dX6_slashed_70 rfl 1 rfl ?_
        refine s_callIV X lk_X6_108 [1, 2, 0] [] (wr := []) rfl rfl (by decide) (by decide) (by decide) (c_X6_word (kl K) G o a po xt xi xd yt yi yd th n e dn ((at9 + 1) + 1) dp kd wh pl base sg row ror np nw nb ns nrw nir inf9 re nr B t (by assumption) (by assumption) (by omega) (by omega) (by assumption)) rfl rfl dX6_slashed_71 rfl rfl (Nat.le_of_ble_eq_true rfl) (by decide) (fun z6 w6 h6 => ?_)
        obtain ⟨nw26, ns26, t26, rfl, rfl, f6_0, f6_1, f6_2⟩ := h6
        show SW K G 3 0 0 74 [(1, .int (iI 1)), (0, .ref o)] [.int (iI (rtA (we B n ((at9 + 1) + 1)) n e ((at9 + 1) + 1) 1))] [oMo o th n a e dn (we B n ((at9 + 1) + 1)) dp po kd wh re pl base sg xt row ror xi xd np nw26 nr nb ns26 yt nrw nir yi yd inf9, aB G a 3000 B, aB G yt 400 t26]
        have g0 := f6_0
        have g1 := f6_1
        have g2 := f6_2
        refine s_istore_n X dX6_slashed_74 rfl [(2, .int (iI (rtA (we B n ((at9 + 1) + 1)) n e ((at9 + 1) + 1) 1))), (1, .int (iI 1)), (0, .ref o)] (by decide) rfl ?_
        refine s_iload_n X dX6_slashed_75 rfl 0 rfl ?_
        refine s_iconst X dX6_slashed_76 ?_
        refine s_icmp_ne X 92 dX6_slashed_77 (by decide) (by (have hC1 := rtA_C (we B n (at9 + 1)) n e (at9 + 1) 1; have hC2 := rtA_C (we B n (at9 + 1 + 1)) n e (at9 + 1 + 1) 1; omega)) (fun c77 => ?_) (fun c77 => ?_)
        · refine s_iload_n X dX6_slashed_92 rfl 0 rfl ?_
          refine s_iret X Y dX6_slashed_93 (rfl) ?_
          refine ⟨(we B n ((at9 + 1) + 1)), nw26, ns26, t26, ?_, rfl, ?_, ?_, ?_⟩
          · (first | (exfalso; omega) | (have eS := sl_1 c40; rw [eS.1, eS.2]; exact (rtA_kn c77).symm))
          · (first | (exfalso; omega) | (have eS := sl_1 c40; intro _; rw [eS.1]))
          · (first | (exfalso; omega) | (have eS := sl_1 c40; intro h; exfalso; have hC1 := rtA_C (we B n (at9 + 1)) n e (at9 + 1) 1; have hC2 := rtA_C (we B n (at9 + 1 + 1)) n e (at9 + 1 + 1) 1; omega))
          · (first | (exfalso; omega) | (exact g2))
        · refine s_iload_n X dX6_slashed_80 rfl 1 rfl ?_
          refine s_if_eq X 88 dX6_slashed_81 (by decide) (by omega) (fun c81 => ?_) (fun c81 => ?_)
          · refine s_iconst X dX6_slashed_88 ?_
            refine s_goto X 93 dX6_slashed_89 (by decide) ?_
            refine s_iret X Y dX6_slashed_93 (rfl) ?_
            refine ⟨(we B n ((at9 + 1) + 1)), nw26, ns26, t26, ?_, rfl, ?_, ?_, ?_⟩
            · (first | (exfalso; omega) | (have eS := sl_1 c40; rw [eS.1, eS.2]; exact (rtA_k1 c77).symm))
            · (first | (exfalso; omega) | (have eS := sl_1 c40; intro _; rw [eS.1]))
            · (first | (exfalso; omega) | (have eS := sl_1 c40; intro _; rw [eS.1]; exact g0 c77))
            · (first | (exfalso; omega) | (exact g2))
          · refine s_iconst X dX6_slashed_84 ?_
            refine s_goto X 93 dX6_slashed_85 (by decide) ?_
            refine s_iret X Y dX6_slashed_93 (rfl) ?_
            refine ⟨(we B n ((at9 + 1) + 1)), nw26, ns26, t26, ?_, rfl, ?_, ?_, ?_⟩
            · (first | (exfalso; omega) | (have eS := sl_1 c40; rw [eS.1, eS.2]; exact (rtA_k1 c77).symm))
            · (first | (exfalso; omega) | (have eS := sl_1 c40; intro _; rw [eS.1]))
            · (first | (exfalso; omega) | (have eS := sl_1 c40; intro _; rw [eS.1]; exact g0 c77))
            · (first | (exfalso; omega) | (exact g2))
  · refine s_aload_n X dX6_slashed_21 rfl 0 rfl ?_
    refine s_get X dX6_slashed_22 fl_X6_53 0 rfl rfl ?_
    refine s_if_ne X 30 dX6_slashed_25 (by decide) (by omega) (fun c25 => ?_) (fun c25 => ?_)
    · refine s_aload_n X dX6_slashed_30 rfl 0 rfl ?_
      refine s_aload_n X dX6_slashed_31 rfl 0 rfl ?_
      refine s_get X dX6_slashed_32 fl_X6_102 0 rfl rfl ?_
      refine s_callIV X lk_X6_63 [0, 1] [2] (wr := [aB G yt 400 t]) rfl rfl (by decide) (by decide) (by decide) (c_X6_byteAt (kl K) G o a po xt xi xd yt yi yd th n e dn (at9 + 1) dp kd wh pl base sg row ror np nw nb ns nrw nir inf9 re nr B (at9 + 1) (by assumption) (by assumption) (by omega)) rfl rfl dX6_slashed_35 rfl rfl (Nat.le_of_ble_eq_true rfl) (by decide) (fun z7 w7 h7 => ?_)
      obtain ⟨rfl, rfl⟩ := h7
      show SW K G 3 0 0 38 [(0, .ref o)] [.int (iI (bA B n (at9 + 1)))] [aB G yt 400 t, oMo o th n a e dn (at9 + 1) dp po kd wh re pl base sg xt row ror xi xd np nw nr nb ns yt nrw nir yi yd inf9, aB G a 3000 B]
      have q8 := bA_C n (at9 + 1) (by assumption : ∀ j, B j < 256)
      refine s_bipush 47 X dX6_slashed_38 (by decide) ?_
      refine s_icmp_ne X 47 dX6_slashed_40 (by decide) (by omega) (fun c40 => ?_) (fun c40 => ?_)
      · refine s_iconst X dX6_slashed_47 ?_
        refine s_istore_n X dX6_slashed_48 rfl [(1, .int (iI 0)), (0, .ref o)] (by decide) rfl ?_
        refine s_aload_n X dX6_slashed_49 rfl 1 rfl ?_
        refine s_iload_n X dX6_slashed_50 rfl 0 rfl ?_
        refine s_if_eq X 63 dX6_slashed_51 (by decide) (by omega) (fun c51 => ?_) (fun c51 => ?_)
        · refine s_aload_n X dX6_slashed_63 rfl 1 rfl ?_
          refine s_get X dX6_slashed_64 fl_X6_102 1 rfl rfl ?_
          refine s_put X dX6_slashed_67 fl_X6_102 tyX6_ok nmX6 1 rfl rfl (rfl) (rfl) (Nat.le_of_ble_eq_true rfl) [aB G yt 400 t, oMo o th n a e dn (at9 + 1) dp po kd wh re pl base sg xt row ror xi xd np nw nr nb ns yt nrw nir yi yd inf9, aB G a 3000 B] rfl ?_
          refine s_aload_n X dX6_slashed_70 rfl 1 rfl ?_
          refine s_callIV X lk_X6_108 [1, 2, 0] [] (wr := []) rfl rfl (by decide) (by decide) (by decide) (c_X6_word (kl K) G o a po xt xi xd yt yi yd th n e dn (at9 + 1) dp kd wh pl base sg row ror np nw nb ns nrw nir inf9 re nr B t (by assumption) (by assumption) (by omega) (by omega) (by assumption)) rfl rfl dX6_slashed_71 rfl rfl (Nat.le_of_ble_eq_true rfl) (by decide) (fun z9 w9 h9 => ?_)
          obtain ⟨nw29, ns29, t29, rfl, rfl, f9_0, f9_1, f9_2⟩ := h9
          show SW K G 3 0 0 74 [(1, .int (iI 0)), (0, .ref o)] [.int (iI (rtA (we B n (at9 + 1)) n e (at9 + 1) 1))] [oMo o th n a e dn (we B n (at9 + 1)) dp po kd wh re pl base sg xt row ror xi xd np nw29 nr nb ns29 yt nrw nir yi yd inf9, aB G a 3000 B, aB G yt 400 t29]
          have g0 := f9_0
          have g1 := f9_1
          have g2 := f9_2
          refine s_istore_n X dX6_slashed_74 rfl [(2, .int (iI (rtA (we B n (at9 + 1)) n e (at9 + 1) 1))), (1, .int (iI 0)), (0, .ref o)] (by decide) rfl ?_
          refine s_iload_n X dX6_slashed_75 rfl 0 rfl ?_
          refine s_iconst X dX6_slashed_76 ?_
          refine s_icmp_ne X 92 dX6_slashed_77 (by decide) (by (have hC1 := rtA_C (we B n (at9 + 1)) n e (at9 + 1) 1; have hC2 := rtA_C (we B n (at9 + 1 + 1)) n e (at9 + 1 + 1) 1; omega)) (fun c77 => ?_) (fun c77 => ?_)
          · refine s_iload_n X dX6_slashed_92 rfl 0 rfl ?_
            refine s_iret X Y dX6_slashed_93 (rfl) ?_
            refine ⟨(we B n (at9 + 1)), nw29, ns29, t29, ?_, rfl, ?_, ?_, ?_⟩
            · (first | (exfalso; omega) | (have eS := sl_0 c40; rw [eS.1, eS.2]; exact (rtA_kn c77).symm))
            · (first | (exfalso; omega) | (have eS := sl_0 c40; intro _; rw [eS.1]))
            · (first | (exfalso; omega) | (have eS := sl_0 c40; intro h; exfalso; have hC1 := rtA_C (we B n (at9 + 1)) n e (at9 + 1) 1; have hC2 := rtA_C (we B n (at9 + 1 + 1)) n e (at9 + 1 + 1) 1; omega))
            · (first | (exfalso; omega) | (exact g2))
          · refine s_iload_n X dX6_slashed_80 rfl 1 rfl ?_
            refine s_if_eq X 88 dX6_slashed_81 (by decide) (by omega) (fun c81 => ?_) (fun c81 => ?_)
            · refine s_iconst X dX6_slashed_88 ?_
              refine s_goto X 93 dX6_slashed_89 (by decide) ?_
              refine s_iret X Y dX6_slashed_93 (rfl) ?_
              refine ⟨(we B n (at9 + 1)), nw29, ns29, t29, ?_, rfl, ?_, ?_, ?_⟩
              · (first | (exfalso; omega) | (have eS := sl_0 c40; rw [eS.1, eS.2]; exact (rtA_k1 c77).symm))
              · (first | (exfalso; omega) | (have eS := sl_0 c40; intro _; rw [eS.1]))
              · (first | (exfalso; omega) | (have eS := sl_0 c40; intro _; rw [eS.1]; exact g0 c77))
              · (first | (exfalso; omega) | (exact g2))
            · refine s_iconst X dX6_slashed_84 ?_
              refine s_goto X 93 dX6_slashed_85 (by decide) ?_
              refine s_iret X Y dX6_slashed_93 (rfl) ?_
              refine ⟨(we B n (at9 + 1)), nw29, ns29, t29, ?_, rfl, ?_, ?_, ?_⟩
              · (first | (exfalso; omega) | (have eS := sl_0 c40; rw [eS.1, eS.2]; exact (rtA_k1 c77).symm))
              · (first | (exfalso; omega) | (have eS := sl_0 c40; intro _; rw [eS.1]))
              · (first | (exfalso; omega) | (have eS := sl_0 c40; intro _; rw [eS.1]; exact g0 c77))
              · (first | (exfalso; omega) | (exact g2))
        · refine s_aload_n X dX6_slashed_54 rfl 1 rfl ?_
          refine s_get X dX6_slashed_55 fl_X6_102 1 rfl rfl ?_
          refine s_iconst X dX6_slashed_58 ?_
          refine s_iadd X dX6_slashed_59 ?_
          refine s_goto X 67 dX6_slashed_60 (by decide) ?_
          refine s_put X dX6_slashed_67 fl_X6_102 tyX6_ok nmX6 1 rfl rfl (rfl) (rfl) (Nat.le_of_ble_eq_true rfl) [aB G yt 400 t, oMo o th n a e dn ((at9 + 1) + 1) dp po kd wh re pl base sg xt row ror xi xd np nw nr nb ns yt nrw nir yi yd inf9, aB G a 3000 B] rfl ?_
          refine s_aload_n X dX6_slashed_70 rfl 1 rfl ?_
          refine s_callIV X lk_X6_108 [1, 2, 0] [] (wr := []) rfl rfl (by decide) (by decide) (by decide) (c_X6_word (kl K) G o a po xt xi xd yt yi yd th n e dn ((at9 + 1) + 1) dp kd wh pl base sg row ror np nw nb ns nrw nir inf9 re nr B t (by assumption) (by assumption) (by omega) (by omega) (by assumption)) rfl rfl dX6_slashed_71 rfl rfl (Nat.le_of_ble_eq_true rfl) (by decide) (fun z10 w10 h10 => ?_)
          obtain ⟨nw210, ns210, t210, rfl, rfl, f10_0, f10_1, f10_2⟩ := h10
          show SW K G 3 0 0 74 [(1, .int (iI 0)), (0, .ref o)] [.int (iI (rtA (we B n ((at9 + 1) + 1)) n e ((at9 + 1) + 1) 1))] [oMo o th n a e dn (we B n ((at9 + 1) + 1)) dp po kd wh re pl base sg xt row ror xi xd np nw210 nr nb ns210 yt nrw nir yi yd inf9, aB G a 3000 B, aB G yt 400 t210]
          have g0 := f10_0
          have g1 := f10_1
          have g2 := f10_2
          refine s_istore_n X dX6_slashed_74 rfl [(2, .int (iI (rtA (we B n ((at9 + 1) + 1)) n e ((at9 + 1) + 1) 1))), (1, .int (iI 0)), (0, .ref o)] (by decide) rfl ?_
          refine s_iload_n X dX6_slashed_75 rfl 0 rfl ?_
          refine s_iconst X dX6_slashed_76 ?_
          refine s_icmp_ne X 92 dX6_slashed_77 (by decide) (by (have hC1 := rtA_C (we B n (at9 + 1)) n e (at9 + 1) 1; have hC2 := rtA_C (we B n (at9 + 1 + 1)) n e (at9 + 1 + 1) 1; omega)) (fun c77 => ?_) (fun c77 => ?_)
          · refine s_iload_n X dX6_slashed_92 rfl 0 rfl ?_
            refine s_iret X Y dX6_slashed_93 (rfl) ?_
            refine ⟨(we B n ((at9 + 1) + 1)), nw210, ns210, t210, ?_, rfl, ?_, ?_, ?_⟩
            · (first | (exfalso; omega) | (have eS := sl_0 c40; rw [eS.1, eS.2]; exact (rtA_kn c77).symm))
            · (first | (exfalso; omega) | (have eS := sl_0 c40; intro _; rw [eS.1]))
            · (first | (exfalso; omega) | (have eS := sl_0 c40; intro h; exfalso; have hC1 := rtA_C (we B n (at9 + 1)) n e (at9 + 1) 1; have hC2 := rtA_C (we B n (at9 + 1 + 1)) n e (at9 + 1 + 1) 1; omega))
            · (first | (exfalso; omega) | (exact g2))
          · refine s_iload_n X dX6_slashed_80 rfl 1 rfl ?_
            refine s_if_eq X 88 dX6_slashed_81 (by decide) (by omega) (fun c81 => ?_) (fun c81 => ?_)
            · refine s_iconst X dX6_slashed_88 ?_
              refine s_goto X 93 dX6_slashed_89 (by decide) ?_
              refine s_iret X Y dX6_slashed_93 (rfl) ?_
              refine ⟨(we B n ((at9 + 1) + 1)), nw210, ns210, t210, ?_, rfl, ?_, ?_, ?_⟩
              · (first | (exfalso; omega) | (have eS := sl_0 c40; rw [eS.1, eS.2]; exact (rtA_k1 c77).symm))
              · (first | (exfalso; omega) | (have eS := sl_0 c40; intro _; rw [eS.1]))
              · (first | (exfalso; omega) | (have eS := sl_0 c40; intro _; rw [eS.1]; exact g0 c77))
              · (first | (exfalso; omega) | (exact g2))
            · refine s_iconst X dX6_slashed_84 ?_
              refine s_goto X 93 dX6_slashed_85 (by decide) ?_
              refine s_iret X Y dX6_slashed_93 (rfl) ?_
              refine ⟨(we B n ((at9 + 1) + 1)), nw210, ns210, t210, ?_, rfl, ?_, ?_, ?_⟩
              · (first | (exfalso; omega) | (have eS := sl_0 c40; rw [eS.1, eS.2]; exact (rtA_k1 c77).symm))
              · (first | (exfalso; omega) | (have eS := sl_0 c40; intro _; rw [eS.1]))
              · (first | (exfalso; omega) | (have eS := sl_0 c40; intro _; rw [eS.1]; exact g0 c77))
              · (first | (exfalso; omega) | (exact g2))
      · refine s_iconst X dX6_slashed_43 ?_
        refine s_goto X 48 dX6_slashed_44 (by decide) ?_
        refine s_istore_n X dX6_slashed_48 rfl [(1, .int (iI 1)), (0, .ref o)] (by decide) rfl ?_
        refine s_aload_n X dX6_slashed_49 rfl 1 rfl ?_
        refine s_iload_n X dX6_slashed_50 rfl 0 rfl ?_
        refine s_if_eq X 63 dX6_slashed_51 (by decide) (by omega) (fun c51 => ?_) (fun c51 => ?_)
        · refine s_aload_n X dX6_slashed_63 rfl 1 rfl ?_
          refine s_get X dX6_slashed_64 fl_X6_102 1 rfl rfl ?_
          refine s_put X dX6_slashed_67 fl_X6_102 tyX6_ok nmX6 1 rfl rfl (rfl) (rfl) (Nat.le_of_ble_eq_true rfl) [aB G yt 400 t, oMo o th n a e dn (at9 + 1) dp po kd wh re pl base sg xt row ror xi xd np nw nr nb ns yt nrw nir yi yd inf9, aB G a 3000 B] rfl ?_
          refine s_aload_n X dX6_slashed_70 rfl 1 rfl ?_
          refine s_callIV X lk_X6_108 [1, 2, 0] [] (wr := []) rfl rfl (by decide) (by decide) (by decide) (c_X6_word (kl K) G o a po xt xi xd yt yi yd th n e dn (at9 + 1) dp kd wh pl base sg row ror np nw nb ns nrw nir inf9 re nr B t (by assumption) (by assumption) (by omega) (by omega) (by assumption)) rfl rfl dX6_slashed_71 rfl rfl (Nat.le_of_ble_eq_true rfl) (by decide) (fun z11 w11 h11 => ?_)
          obtain ⟨nw211, ns211, t211, rfl, rfl, f11_0, f11_1, f11_2⟩ := h11
          show SW K G 3 0 0 74 [(1, .int (iI 1)), (0, .ref o)] [.int (iI (rtA (we B n (at9 + 1)) n e (at9 + 1) 1))] [oMo o th n a e dn (we B n (at9 + 1)) dp po kd wh re pl base sg xt row ror xi xd np nw211 nr nb ns211 yt nrw nir yi yd inf9, aB G a 3000 B, aB G yt 400 t211]
          have g0 := f11_0
          have g1 := f11_1
          have g2 := f11_2
          refine s_istore_n X dX6_slashed_74 rfl [(2, .int (iI (rtA (we B n (at9 + 1)) n e (at9 + 1) 1))), (1, .int (iI 1)), (0, .ref o)] (by decide) rfl ?_
          refine s_iload_n X dX6_slashed_75 rfl 0 rfl ?_
          refine s_iconst X dX6_slashed_76 ?_
          refine s_icmp_ne X 92 dX6_slashed_77 (by decide) (by (have hC1 := rtA_C (we B n (at9 + 1)) n e (at9 + 1) 1; have hC2 := rtA_C (we B n (at9 + 1 + 1)) n e (at9 + 1 + 1) 1; omega)) (fun c77 => ?_) (fun c77 => ?_)
          · refine s_iload_n X dX6_slashed_92 rfl 0 rfl ?_
            refine s_iret X Y dX6_slashed_93 (rfl) ?_
            refine ⟨(we B n (at9 + 1)), nw211, ns211, t211, ?_, rfl, ?_, ?_, ?_⟩
            · (first | (exfalso; omega) | (have eS := sl_1 c40; rw [eS.1, eS.2]; exact (rtA_kn c77).symm))
            · (first | (exfalso; omega) | (have eS := sl_1 c40; intro _; rw [eS.1]))
            · (first | (exfalso; omega) | (have eS := sl_1 c40; intro h; exfalso; have hC1 := rtA_C (we B n (at9 + 1)) n e (at9 + 1) 1; have hC2 := rtA_C (we B n (at9 + 1 + 1)) n e (at9 + 1 + 1) 1; omega))
            · (first | (exfalso; omega) | (exact g2))
          · refine s_iload_n X dX6_slashed_80 rfl 1 rfl ?_
            refine s_if_eq X 88 dX6_slashed_81 (by decide) (by omega) (fun c81 => ?_) (fun c81 => ?_)
            · refine s_iconst X dX6_slashed_88 ?_
              refine s_goto X 93 dX6_slashed_89 (by decide) ?_
              refine s_iret X Y dX6_slashed_93 (rfl) ?_
              refine ⟨(we B n (at9 + 1)), nw211, ns211, t211, ?_, rfl, ?_, ?_, ?_⟩
              · (first | (exfalso; omega) | (have eS := sl_1 c40; rw [eS.1, eS.2]; exact (rtA_k1 c77).symm))
              · (first | (exfalso; omega) | (have eS := sl_1 c40; intro _; rw [eS.1]))
              · (first | (exfalso; omega) | (have eS := sl_1 c40; intro _; rw [eS.1]; exact g0 c77))
              · (first | (exfalso; omega) | (exact g2))
            · refine s_iconst X dX6_slashed_84 ?_
              refine s_goto X 93 dX6_slashed_85 (by decide) ?_
              refine s_iret X Y dX6_slashed_93 (rfl) ?_
              refine ⟨(we B n (at9 + 1)), nw211, ns211, t211, ?_, rfl, ?_, ?_, ?_⟩
              · (first | (exfalso; omega) | (have eS := sl_1 c40; rw [eS.1, eS.2]; exact (rtA_k1 c77).symm))
              · (first | (exfalso; omega) | (have eS := sl_1 c40; intro _; rw [eS.1]))
              · (first | (exfalso; omega) | (have eS := sl_1 c40; intro _; rw [eS.1]; exact g0 c77))
              · (first | (exfalso; omega) | (exact g2))
        · refine s_aload_n X dX6_slashed_54 rfl 1 rfl ?_
          refine s_get X dX6_slashed_55 fl_X6_102 1 rfl rfl ?_
          refine s_iconst X dX6_slashed_58 ?_
          refine s_iadd X dX6_slashed_59 ?_
          refine s_goto X 67 dX6_slashed_60 (by decide) ?_
          refine s_put X dX6_slashed_67 fl_X6_102 tyX6_ok nmX6 1 rfl rfl (rfl) (rfl) (Nat.le_of_ble_eq_true rfl) [aB G yt 400 t, oMo o th n a e dn ((at9 + 1) + 1) dp po kd wh re pl base sg xt row ror xi xd np nw nr nb ns yt nrw nir yi yd inf9, aB G a 3000 B] rfl ?_
          refine s_aload_n X dX6_slashed_70 rfl 1 rfl ?_
          refine s_callIV X lk_X6_108 [1, 2, 0] [] (wr := []) rfl rfl (by decide) (by decide) (by decide) (c_X6_word (kl K) G o a po xt xi xd yt yi yd th n e dn ((at9 + 1) + 1) dp kd wh pl base sg row ror np nw nb ns nrw nir inf9 re nr B t (by assumption) (by assumption) (by omega) (by omega) (by assumption)) rfl rfl dX6_slashed_71 rfl rfl (Nat.le_of_ble_eq_true rfl) (by decide) (fun z12 w12 h12 => ?_)
          obtain ⟨nw212, ns212, t212, rfl, rfl, f12_0, f12_1, f12_2⟩ := h12
          show SW K G 3 0 0 74 [(1, .int (iI 1)), (0, .ref o)] [.int (iI (rtA (we B n ((at9 + 1) + 1)) n e ((at9 + 1) + 1) 1))] [oMo o th n a e dn (we B n ((at9 + 1) + 1)) dp po kd wh re pl base sg xt row ror xi xd np nw212 nr nb ns212 yt nrw nir yi yd inf9, aB G a 3000 B, aB G yt 400 t212]
          have g0 := f12_0
          have g1 := f12_1
          have g2 := f12_2
          refine s_istore_n X dX6_slashed_74 rfl [(2, .int (iI (rtA (we B n ((at9 + 1) + 1)) n e ((at9 + 1) + 1) 1))), (1, .int (iI 1)), (0, .ref o)] (by decide) rfl ?_
          refine s_iload_n X dX6_slashed_75 rfl 0 rfl ?_
          refine s_iconst X dX6_slashed_76 ?_
          refine s_icmp_ne X 92 dX6_slashed_77 (by decide) (by (have hC1 := rtA_C (we B n (at9 + 1)) n e (at9 + 1) 1; have hC2 := rtA_C (we B n (at9 + 1 + 1)) n e (at9 + 1 + 1) 1; omega)) (fun c77 => ?_) (fun c77 => ?_)
          · refine s_iload_n X dX6_slashed_92 rfl 0 rfl ?_
            refine s_iret X Y dX6_slashed_93 (rfl) ?_
            refine ⟨(we B n ((at9 + 1) + 1)), nw212, ns212, t212, ?_, rfl, ?_, ?_, ?_⟩
            · (first | (exfalso; omega) | (have eS := sl_1 c40; rw [eS.1, eS.2]; exact (rtA_kn c77).symm))
            · (first | (exfalso; omega) | (have eS := sl_1 c40; intro _; rw [eS.1]))
            · (first | (exfalso; omega) | (have eS := sl_1 c40; intro h; exfalso; have hC1 := rtA_C (we B n (at9 + 1)) n e (at9 + 1) 1; have hC2 := rtA_C (we B n (at9 + 1 + 1)) n e (at9 + 1 + 1) 1; omega))
            · (first | (exfalso; omega) | (exact g2))
          · refine s_iload_n X dX6_slashed_80 rfl 1 rfl ?_
            refine s_if_eq X 88 dX6_slashed_81 (by decide) (by omega) (fun c81 => ?_) (fun c81 => ?_)
            · refine s_iconst X dX6_slashed_88 ?_
              refine s_goto X 93 dX6_slashed_89 (by decide) ?_
              refine s_iret X Y dX6_slashed_93 (rfl) ?_
              refine ⟨(we B n ((at9 + 1) + 1)), nw212, ns212, t212, ?_, rfl, ?_, ?_, ?_⟩
              · (first | (exfalso; omega) | (have eS := sl_1 c40; rw [eS.1, eS.2]; exact (rtA_k1 c77).symm))
              · (first | (exfalso; omega) | (have eS := sl_1 c40; intro _; rw [eS.1]))
              · (first | (exfalso; omega) | (have eS := sl_1 c40; intro _; rw [eS.1]; exact g0 c77))
              · (first | (exfalso; omega) | (exact g2))
            · refine s_iconst X dX6_slashed_84 ?_
              refine s_goto X 93 dX6_slashed_85 (by decide) ?_
              refine s_iret X Y dX6_slashed_93 (rfl) ?_
              refine ⟨(we B n ((at9 + 1) + 1)), nw212, ns212, t212, ?_, rfl, ?_, ?_, ?_⟩
              · (first | (exfalso; omega) | (have eS := sl_1 c40; rw [eS.1, eS.2]; exact (rtA_k1 c77).symm))
              · (first | (exfalso; omega) | (have eS := sl_1 c40; intro _; rw [eS.1]))
              · (first | (exfalso; omega) | (have eS := sl_1 c40; intro _; rw [eS.1]; exact g0 c77))
              · (first | (exfalso; omega) | (exact g2))
    · refine s_iconst X dX6_slashed_28 ?_
      refine s_iret X Y dX6_slashed_29 (rfl) ?_
      refine ⟨(at9 + 1), nw, ns, t, ?_, rfl, ?_, ?_, ?_⟩
      · (first | (exfalso; omega) | (have hb := bA_out (B := B) (n := n) (i := at9 + 1) (by omega); have eS := sl_0 (B := B) (n := n) (p := at9) (by omega); rw [eS.1, we_out (by omega), rtA, if_pos (by omega)]))
      · (first | (exfalso; omega) | (intro h; exact absurd rfl h))
      · (first | (exfalso; omega) | (intro h; exact absurd h (by decide)))
      · (first | (exfalso; omega) | (assumption))
